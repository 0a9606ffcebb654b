/-! THE CLASS's calls on seats, yawns, sheets -/
section CONE4
variable {l : Launch} {G : rG} {h : rH} {T : Tn}
theorem c_seat (q : cAt G h T) (c : Int32) : rM l G 0 mX1_isSeat 0 0 [.ref (gN G + 7), .int c] h (rV h (some (.int (if 0 ≤ c ∧ c < nI T.n then 1 else 0)))) := by
  obtain ⟨f0, s, L, h7, -⟩ := c_car q
  exact k_X1_isSeat h7 c
set_option maxRecDepth 100000 in
set_option maxHeartbeats 400000 in
theorem c_ofSeat (q : cAll G h T) (o : T.ok) (c d : Int32) : rM l G 12 mX11_ofSeat 0 0 [.ref (gN G + 0), .int c, .int d] h (fun h' v => v = some (.int (aOfSeat T c d)) ∧ cAll G h' T ∧ kp h h' cL) := by
  have hn := o.n32
  have hy := q.1.1
  obtain ⟨fc, s, L, h7, h8, h9, h10, h11, hfc, hs, hL⟩ := c_car q.1
  rcases oT_cases (n := T.n) (Nat.lt_of_le_of_lt hn (by decide)) c with ⟨e, hc⟩ | ⟨k, hk, rfl, e⟩
  · have ea : aOfSeat T c d = -1 := by unfold aOfSeat; rw [e]
    refine rM_start (by decide) (Nat.le_of_ble_eq_true rfl) ?_
    refine a_aload_n 1 dX11_ofSeat_0 rfl rfl ?_
    refine a_get fd_X11_34 rfl 4 dX11_ofSeat_1 rfl (by repeat (first | assumption | (refine rg_ne (by first | decide | omega) ?_) | apply rg_eq | refine rg_fr (by assumption) (by first | decide | (simp; omega)) ?_)) rfl ?_
    refine a_iload_n 5 dX11_ofSeat_4 rfl rfl ?_
    refine a_callV ok_X1_isSeat ln_X11_108 in_X1_isSeat rfl 8 dX11_ofSeat_5 rfl (c_seat q.1 c) (by repeat (first | assumption | (refine rg_ne (by first | decide | omega) ?_) | apply rg_eq | refine rg_fr (by assumption) (by first | decide | (simp; omega)) ?_)) rfl rfl rfl ⟨(Nat.le_of_ble_eq_true rfl), (Nat.le_of_ble_eq_true rfl)⟩ (Nat.le_of_ble_eq_true rfl) ⟨(Nat.le_of_ble_eq_true rfl), (Nat.le_of_ble_eq_true rfl)⟩ ?_
    rintro _ _ ⟨rfl, rfl⟩
    refine a_if_ne 13 11 dX11_ofSeat_8 rfl (by decide) (fun c_8 => absurd (if_neg hc) c_8) (fun c_8 => ?_)
    refine a_iconst (-1) 12 dX11_ofSeat_11 rfl (by decide) ?_
    exact a_ireturn dX11_ofSeat_12 rfl rfl (Nat.le_of_ble_eq_true rfl) (Nat.le_of_ble_eq_true rfl) ⟨by rw [ea], q, fun _ _ _ => rfl⟩
  · have hk32 : k < 32 := Nat.lt_of_lt_of_le hk hn
    have ea : aOfSeat T (nI k) d = if d.toInt = 0 then nI (T.face k) else if d.toInt = 1 then noI (firstN (fun x => decide (T.se x = k)) T.m 0) else if d.toInt = 2 then bsN (fun x => seeB T.1 k x) 31 else -2 := by unfold aOfSeat; rw [e]
    have g : 0 ≤ nI k ∧ nI k < 32 := ⟨nI_pos' (by omega), nI_lt (b := 32) hk32 (by decide)⟩
    have e1 : (if 0 ≤ nI k ∧ nI k < 32 then fc (nI k).toNatClampNeg else 0) = nI (T.face k) := by rw [if_pos g, nI_clamp (by omega), hfc k hk]
    have e2 : (if 0 ≤ nI k ∧ nI k < 32 then s (nI k).toNatClampNeg else -9) = noI (firstN (fun x => decide (T.se x = k)) T.m 0) := by rw [if_pos g, nI_clamp (by omega), hs k hk]
    have e3 : (if 0 ≤ nI k ∧ nI k < 32 then L (nI k).toNatClampNeg else 0) &&& 2147483647 = bsN (fun x => seeB T.1 k x) 31 := by
      rw [if_pos g, nI_clamp (by omega), hL k hk]
      apply bt_ext
      intro x hx
      rw [bt_max _ _ hx, bt_bsN (by decide) hx, lineW_see o.1 hk hx, Bool.and_comm]
    refine rM_start (by decide) (Nat.le_of_ble_eq_true rfl) ?_
    refine a_aload_n 1 dX11_ofSeat_0 rfl rfl ?_
    refine a_get fd_X11_34 rfl 4 dX11_ofSeat_1 rfl (by repeat (first | assumption | (refine rg_ne (by first | decide | omega) ?_) | apply rg_eq | refine rg_fr (by assumption) (by first | decide | (simp; omega)) ?_)) rfl ?_
    refine a_iload_n 5 dX11_ofSeat_4 rfl rfl ?_
    refine a_callV ok_X1_isSeat ln_X11_108 in_X1_isSeat rfl 8 dX11_ofSeat_5 rfl (c_seat q.1 (nI k)) (by repeat (first | assumption | (refine rg_ne (by first | decide | omega) ?_) | apply rg_eq | refine rg_fr (by assumption) (by first | decide | (simp; omega)) ?_)) rfl rfl rfl ⟨(Nat.le_of_ble_eq_true rfl), (Nat.le_of_ble_eq_true rfl)⟩ (Nat.le_of_ble_eq_true rfl) ⟨(Nat.le_of_ble_eq_true rfl), (Nat.le_of_ble_eq_true rfl)⟩ ?_
    rintro _ _ ⟨rfl, rfl⟩
    refine a_if_ne 13 11 dX11_ofSeat_8 rfl (by decide) (fun c_8 => ?_) (fun c_8 => absurd c_8 (by rw [if_pos (oT_yes hk (by omega))]; decide))
    refine a_iload_n 14 dX11_ofSeat_13 rfl rfl ?_
    rcases (show (d).toInt = 0 ∨ (d).toInt = 1 ∨ (d).toInt = 2 ∨ ((d).toInt < 0 ∨ 2 < (d).toInt) by omega) with w_14 | w_14 | w_14 | w_14
    · refine a_tableIn 40 dX11_ofSeat_14 (by rw [w_14]; decide) (by rw [w_14]; decide) (by rw [w_14]; rfl) (by decide) ?_
      refine a_aload_n 41 dX11_ofSeat_40 rfl rfl ?_
      refine a_get fd_X11_34 rfl 44 dX11_ofSeat_41 rfl (by repeat (first | assumption | (refine rg_ne (by first | decide | omega) ?_) | apply rg_eq | refine rg_fr (by assumption) (by first | decide | (simp; omega)) ?_)) rfl ?_
      refine a_iload_n 45 dX11_ofSeat_44 rfl rfl ?_
      refine a_callV ok_X1_faceOf ln_X11_112 in_X1_faceOf rfl 48 dX11_ofSeat_45 rfl (k_X1_faceOf h7 h8 (nI k)) (by repeat (first | assumption | (refine rg_ne (by first | decide | omega) ?_) | apply rg_eq | refine rg_fr (by assumption) (by first | decide | (simp; omega)) ?_)) rfl rfl rfl ⟨(Nat.le_of_ble_eq_true rfl), (Nat.le_of_ble_eq_true rfl)⟩ (Nat.le_of_ble_eq_true rfl) ⟨(Nat.le_of_ble_eq_true rfl), (Nat.le_of_ble_eq_true rfl)⟩ ?_
      rintro _ _ ⟨rfl, rfl⟩
      rw [e1]
      exact a_ireturn dX11_ofSeat_48 rfl rfl (Nat.le_of_ble_eq_true rfl) (Nat.le_of_ble_eq_true rfl) ⟨by rw [ea]; repeat (first | rfl | rw [if_pos (by omega)] | rw [if_neg (by omega)]), q, fun _ _ _ => rfl⟩
    · refine a_tableIn 49 dX11_ofSeat_14 (by rw [w_14]; decide) (by rw [w_14]; decide) (by rw [w_14]; rfl) (by decide) ?_
      refine a_aload_n 50 dX11_ofSeat_49 rfl rfl ?_
      refine a_get fd_X11_34 rfl 53 dX11_ofSeat_50 rfl (by repeat (first | assumption | (refine rg_ne (by first | decide | omega) ?_) | apply rg_eq | refine rg_fr (by assumption) (by first | decide | (simp; omega)) ?_)) rfl ?_
      refine a_iload_n 54 dX11_ofSeat_53 rfl rfl ?_
      refine a_callV ok_X1_sitterOf ln_X11_116 in_X1_sitterOf rfl 57 dX11_ofSeat_54 rfl (k_X1_sitterOf h7 h9 (nI k)) (by repeat (first | assumption | (refine rg_ne (by first | decide | omega) ?_) | apply rg_eq | refine rg_fr (by assumption) (by first | decide | (simp; omega)) ?_)) rfl rfl rfl ⟨(Nat.le_of_ble_eq_true rfl), (Nat.le_of_ble_eq_true rfl)⟩ (Nat.le_of_ble_eq_true rfl) ⟨(Nat.le_of_ble_eq_true rfl), (Nat.le_of_ble_eq_true rfl)⟩ ?_
      rintro _ _ ⟨rfl, rfl⟩
      rw [e2]
      exact a_ireturn dX11_ofSeat_57 rfl rfl (Nat.le_of_ble_eq_true rfl) (Nat.le_of_ble_eq_true rfl) ⟨by rw [ea]; repeat (first | rfl | rw [if_pos (by omega)] | rw [if_neg (by omega)]), q, fun _ _ _ => rfl⟩
    · refine a_tableIn 58 dX11_ofSeat_14 (by rw [w_14]; decide) (by rw [w_14]; decide) (by rw [w_14]; rfl) (by decide) ?_
      refine a_aload_n 59 dX11_ofSeat_58 rfl rfl ?_
      refine a_get fd_X11_34 rfl 62 dX11_ofSeat_59 rfl (by repeat (first | assumption | (refine rg_ne (by first | decide | omega) ?_) | apply rg_eq | refine rg_fr (by assumption) (by first | decide | (simp; omega)) ?_)) rfl ?_
      refine a_iload_n 63 dX11_ofSeat_62 rfl rfl ?_
      refine a_callV ok_X1_lineOf ln_X11_119 in_X1_lineOf rfl 66 dX11_ofSeat_63 rfl (k_X1_lineOf h7 h10 (nI k)) (by repeat (first | assumption | (refine rg_ne (by first | decide | omega) ?_) | apply rg_eq | refine rg_fr (by assumption) (by first | decide | (simp; omega)) ?_)) rfl rfl rfl ⟨(Nat.le_of_ble_eq_true rfl), (Nat.le_of_ble_eq_true rfl)⟩ (Nat.le_of_ble_eq_true rfl) ⟨(Nat.le_of_ble_eq_true rfl), (Nat.le_of_ble_eq_true rfl)⟩ ?_
      rintro _ _ ⟨rfl, rfl⟩
      refine a_ldc (2147483647) 68 dX11_ofSeat_66 rfl lk_X11_122 ?_
      refine a_iand 69 dX11_ofSeat_68 rfl ?_
      rw [e3]
      exact a_ireturn dX11_ofSeat_69 rfl rfl (Nat.le_of_ble_eq_true rfl) (Nat.le_of_ble_eq_true rfl) ⟨by rw [ea]; repeat (first | rfl | rw [if_pos (by omega)] | rw [if_neg (by omega)]), q, fun _ _ _ => rfl⟩
    · refine a_tableOut 70 dX11_ofSeat_14 w_14 (by decide) ?_
      refine a_bipush (-2) 72 dX11_ofSeat_70 rfl (by decide) ?_
      exact a_ireturn dX11_ofSeat_72 rfl rfl (Nat.le_of_ble_eq_true rfl) (Nat.le_of_ble_eq_true rfl) ⟨by rw [ea]; repeat (first | rfl | rw [if_pos (by omega)] | rw [if_neg (by omega)]), q, fun _ _ _ => rfl⟩
set_option maxRecDepth 100000 in
set_option maxHeartbeats 400000 in
theorem c_line (q : cAll G h T) (o : T.ok) (c d : Int32) : rM l G 12 mX11_line 0 0 [.ref (gN G + 0), .int c, .int d] h (fun h' v => v = some (.int (aLine T c d)) ∧ cAll G h' T ∧ kp h h' cL) := by
  have hn := o.n32
  have hy := q.1.1
  obtain ⟨fc, s, L, h7, h8, h9, h10, h11, hfc, hs, hL⟩ := c_car q.1
  rcases oT_cases (n := T.n) (Nat.lt_of_le_of_lt hn (by decide)) c with ⟨e, hc⟩ | ⟨k, hk, rfl, e⟩
  · have ea : aLine T c d = -1 := by unfold aLine; rw [e]
    refine rM_start (by decide) (Nat.le_of_ble_eq_true rfl) ?_
    refine a_aload_n 1 dX11_line_0 rfl rfl ?_
    refine a_get fd_X11_34 rfl 4 dX11_line_1 rfl (by repeat (first | assumption | (refine rg_ne (by first | decide | omega) ?_) | apply rg_eq | refine rg_fr (by assumption) (by first | decide | (simp; omega)) ?_)) rfl ?_
    refine a_iload_n 5 dX11_line_4 rfl rfl ?_
    refine a_callV ok_X1_isSeat ln_X11_108 in_X1_isSeat rfl 8 dX11_line_5 rfl (c_seat q.1 c) (by repeat (first | assumption | (refine rg_ne (by first | decide | omega) ?_) | apply rg_eq | refine rg_fr (by assumption) (by first | decide | (simp; omega)) ?_)) rfl rfl rfl ⟨(Nat.le_of_ble_eq_true rfl), (Nat.le_of_ble_eq_true rfl)⟩ (Nat.le_of_ble_eq_true rfl) ⟨(Nat.le_of_ble_eq_true rfl), (Nat.le_of_ble_eq_true rfl)⟩ ?_
    rintro _ _ ⟨rfl, rfl⟩
    refine a_if_eq 22 11 dX11_line_8 rfl (by decide) (fun c_8 => ?_) (fun c_8 => absurd (if_neg hc) c_8)
    refine a_iconst (-1) 23 dX11_line_22 rfl (by decide) ?_
    exact a_ireturn dX11_line_23 rfl rfl (Nat.le_of_ble_eq_true rfl) (Nat.le_of_ble_eq_true rfl) ⟨by rw [ea], q, fun _ _ _ => rfl⟩
  · have hk32 : k < 32 := Nat.lt_of_lt_of_le hk hn
    rcases oT_cases (n := T.n) (Nat.lt_of_le_of_lt hn (by decide)) d with ⟨e2, hd⟩ | ⟨x, hx, rfl, e2⟩
    · have ea : aLine T (nI k) d = -1 := by unfold aLine; rw [e, e2]
      refine rM_start (by decide) (Nat.le_of_ble_eq_true rfl) ?_
      refine a_aload_n 1 dX11_line_0 rfl rfl ?_
      refine a_get fd_X11_34 rfl 4 dX11_line_1 rfl (by repeat (first | assumption | (refine rg_ne (by first | decide | omega) ?_) | apply rg_eq | refine rg_fr (by assumption) (by first | decide | (simp; omega)) ?_)) rfl ?_
      refine a_iload_n 5 dX11_line_4 rfl rfl ?_
      refine a_callV ok_X1_isSeat ln_X11_108 in_X1_isSeat rfl 8 dX11_line_5 rfl (c_seat q.1 (nI k)) (by repeat (first | assumption | (refine rg_ne (by first | decide | omega) ?_) | apply rg_eq | refine rg_fr (by assumption) (by first | decide | (simp; omega)) ?_)) rfl rfl rfl ⟨(Nat.le_of_ble_eq_true rfl), (Nat.le_of_ble_eq_true rfl)⟩ (Nat.le_of_ble_eq_true rfl) ⟨(Nat.le_of_ble_eq_true rfl), (Nat.le_of_ble_eq_true rfl)⟩ ?_
      rintro _ _ ⟨rfl, rfl⟩
      refine a_if_eq 22 11 dX11_line_8 rfl (by decide) (fun c_8 => absurd c_8 (by rw [if_pos (oT_yes hk (by omega))]; decide)) (fun c_8 => ?_)
      refine a_aload_n 12 dX11_line_11 rfl rfl ?_
      refine a_get fd_X11_34 rfl 15 dX11_line_12 rfl (by repeat (first | assumption | (refine rg_ne (by first | decide | omega) ?_) | apply rg_eq | refine rg_fr (by assumption) (by first | decide | (simp; omega)) ?_)) rfl ?_
      refine a_iload_n 16 dX11_line_15 rfl rfl ?_
      refine a_callV ok_X1_isSeat ln_X11_108 in_X1_isSeat rfl 19 dX11_line_16 rfl (c_seat q.1 d) (by repeat (first | assumption | (refine rg_ne (by first | decide | omega) ?_) | apply rg_eq | refine rg_fr (by assumption) (by first | decide | (simp; omega)) ?_)) rfl rfl rfl ⟨(Nat.le_of_ble_eq_true rfl), (Nat.le_of_ble_eq_true rfl)⟩ (Nat.le_of_ble_eq_true rfl) ⟨(Nat.le_of_ble_eq_true rfl), (Nat.le_of_ble_eq_true rfl)⟩ ?_
      rintro _ _ ⟨rfl, rfl⟩
      refine a_if_ne 24 22 dX11_line_19 rfl (by decide) (fun c_19 => absurd (if_neg hd) c_19) (fun c_19 => ?_)
      refine a_iconst (-1) 23 dX11_line_22 rfl (by decide) ?_
      exact a_ireturn dX11_line_23 rfl rfl (Nat.le_of_ble_eq_true rfl) (Nat.le_of_ble_eq_true rfl) ⟨by rw [ea], q, fun _ _ _ => rfl⟩
    · have hx32 : x < 32 := Nat.lt_of_lt_of_le hx hn
      have ea : aLine T (nI k) (nI x) = if seeB T.1 k x then 1 else 0 := by unfold aLine; rw [e, e2]
      have hon : onL L (nI k) (nI x) ↔ seeB T.1 k x = true := by rw [onL_iff hk32 hx32, hL k hk, lineW_see o.1 hk hx32]
      refine rM_start (by decide) (Nat.le_of_ble_eq_true rfl) ?_
      refine a_aload_n 1 dX11_line_0 rfl rfl ?_
      refine a_get fd_X11_34 rfl 4 dX11_line_1 rfl (by repeat (first | assumption | (refine rg_ne (by first | decide | omega) ?_) | apply rg_eq | refine rg_fr (by assumption) (by first | decide | (simp; omega)) ?_)) rfl ?_
      refine a_iload_n 5 dX11_line_4 rfl rfl ?_
      refine a_callV ok_X1_isSeat ln_X11_108 in_X1_isSeat rfl 8 dX11_line_5 rfl (c_seat q.1 (nI k)) (by repeat (first | assumption | (refine rg_ne (by first | decide | omega) ?_) | apply rg_eq | refine rg_fr (by assumption) (by first | decide | (simp; omega)) ?_)) rfl rfl rfl ⟨(Nat.le_of_ble_eq_true rfl), (Nat.le_of_ble_eq_true rfl)⟩ (Nat.le_of_ble_eq_true rfl) ⟨(Nat.le_of_ble_eq_true rfl), (Nat.le_of_ble_eq_true rfl)⟩ ?_
      rintro _ _ ⟨rfl, rfl⟩
      refine a_if_eq 22 11 dX11_line_8 rfl (by decide) (fun c_8 => absurd c_8 (by rw [if_pos (oT_yes hk (by omega))]; decide)) (fun c_8 => ?_)
      refine a_aload_n 12 dX11_line_11 rfl rfl ?_
      refine a_get fd_X11_34 rfl 15 dX11_line_12 rfl (by repeat (first | assumption | (refine rg_ne (by first | decide | omega) ?_) | apply rg_eq | refine rg_fr (by assumption) (by first | decide | (simp; omega)) ?_)) rfl ?_
      refine a_iload_n 16 dX11_line_15 rfl rfl ?_
      refine a_callV ok_X1_isSeat ln_X11_108 in_X1_isSeat rfl 19 dX11_line_16 rfl (c_seat q.1 (nI x)) (by repeat (first | assumption | (refine rg_ne (by first | decide | omega) ?_) | apply rg_eq | refine rg_fr (by assumption) (by first | decide | (simp; omega)) ?_)) rfl rfl rfl ⟨(Nat.le_of_ble_eq_true rfl), (Nat.le_of_ble_eq_true rfl)⟩ (Nat.le_of_ble_eq_true rfl) ⟨(Nat.le_of_ble_eq_true rfl), (Nat.le_of_ble_eq_true rfl)⟩ ?_
      rintro _ _ ⟨rfl, rfl⟩
      refine a_if_ne 24 22 dX11_line_19 rfl (by decide) (fun c_19 => ?_) (fun c_19 => absurd c_19 (by rw [if_pos (oT_yes hx (by omega))]; decide))
      refine a_aload_n 25 dX11_line_24 rfl rfl ?_
      refine a_get fd_X11_34 rfl 28 dX11_line_25 rfl (by repeat (first | assumption | (refine rg_ne (by first | decide | omega) ?_) | apply rg_eq | refine rg_fr (by assumption) (by first | decide | (simp; omega)) ?_)) rfl ?_
      refine a_iload_n 29 dX11_line_28 rfl rfl ?_
      refine a_iload_n 30 dX11_line_29 rfl rfl ?_
      refine a_callV ok_X1_isOnLine ln_X11_123 in_X1_isOnLine rfl 33 dX11_line_30 rfl (k_X1_isOnLine h7 h10 (nI k) (nI x)) (by repeat (first | assumption | (refine rg_ne (by first | decide | omega) ?_) | apply rg_eq | refine rg_fr (by assumption) (by first | decide | (simp; omega)) ?_)) rfl rfl rfl ⟨(Nat.le_of_ble_eq_true rfl), (Nat.le_of_ble_eq_true rfl)⟩ (Nat.le_of_ble_eq_true rfl) ⟨(Nat.le_of_ble_eq_true rfl), (Nat.le_of_ble_eq_true rfl)⟩ ?_
      rintro _ _ ⟨rfl, rfl⟩
      refine a_if_eq 40 36 dX11_line_33 rfl (by decide) (fun c_33 => ?_) (fun c_33 => ?_)
      · refine a_iconst (0) 41 dX11_line_40 rfl (by decide) ?_
        exact a_ireturn dX11_line_41 rfl rfl (Nat.le_of_ble_eq_true rfl) (Nat.le_of_ble_eq_true rfl) ⟨by rw [ea, if_neg (fun z => (b_eq0.mp c_33) (hon.mpr z))], q, fun _ _ _ => rfl⟩
      · refine a_iconst (1) 37 dX11_line_36 rfl (by decide) ?_
        refine a_goto 41 dX11_line_37 (by decide) ?_
        exact a_ireturn dX11_line_41 rfl rfl (Nat.le_of_ble_eq_true rfl) (Nat.le_of_ble_eq_true rfl) ⟨by rw [ea, if_pos (hon.mp (Decidable.not_not.mp (fun z => c_33 (if_neg z))))], q, fun _ _ _ => rfl⟩
set_option maxRecDepth 100000 in
set_option maxHeartbeats 400000 in
theorem c_back (q : cAll G h T) (o : T.ok) (c : Int32) : rM l G 12 mX11_back 0 0 [.ref (gN G + 0), .int c] h (fun h' v => v = some (.int (aBack T c)) ∧ cAll G h' (setY T (tBack T c)) ∧ kp h h' cL) := by
  have hny := o.ny24
  have hy := q.1.1
  obtain ⟨r1, ⟨f, r2, r3⟩, g, r4, r5⟩ := q.1.2.2.2.2.2.2.1
  rcases oT_cases (n := T.ny + 1) (by omega) c with ⟨e, hc⟩ | ⟨k, hk, rfl, e⟩
  · have ea : aBack T c = -2 := by unfold aBack; rw [e]
    have et : tBack T c = T.2.2.2.1 := by unfold tBack; rw [e]
    have hlt : ∀ d : Int32, d ≤ nI T.ny → d < nI (T.ny + 1) := by
      intro d hd
      rw [i_le, nI_toInt (by omega)] at hd
      rw [i_lt, nI_toInt (by omega)]
      omega
    refine rM_start (by decide) (Nat.le_of_ble_eq_true rfl) ?_
    refine a_iload_n 1 dX11_back_0 rfl rfl ?_
    refine a_if_lt 15 4 dX11_back_1 rfl (by decide) (fun c_1 => ?_) (fun c_1 => ?_)
    · refine a_bipush (-2) 17 dX11_back_15 rfl (by decide) ?_
      exact a_ireturn dX11_back_17 rfl rfl (Nat.le_of_ble_eq_true rfl) (Nat.le_of_ble_eq_true rfl) ⟨by rw [ea], by rw [et]; exact q, fun _ _ _ => rfl⟩
    · refine a_iload_n 5 dX11_back_4 rfl rfl ?_
      refine a_aload_n 6 dX11_back_5 rfl rfl ?_
      refine a_get fd_X11_53 rfl 9 dX11_back_6 rfl (by repeat (first | assumption | (refine rg_ne (by first | decide | omega) ?_) | apply rg_eq | refine rg_fr (by assumption) (by first | decide | (simp; omega)) ?_)) rfl ?_
      refine a_get fd_X11_195 rfl 12 dX11_back_9 rfl (by repeat (first | assumption | (refine rg_ne (by first | decide | omega) ?_) | apply rg_eq | refine rg_fr (by assumption) (by first | decide | (simp; omega)) ?_)) rfl ?_
      refine a_icmp_le 18 15 dX11_back_12 rfl (by decide) (fun c_12 => absurd c_12 (fun z => hc ⟨Int32.not_lt.mp c_1, hlt c z⟩)) (fun c_12 => ?_)
      refine a_bipush (-2) 17 dX11_back_15 rfl (by decide) ?_
      exact a_ireturn dX11_back_17 rfl rfl (Nat.le_of_ble_eq_true rfl) (Nat.le_of_ble_eq_true rfl) ⟨by rw [ea], by rw [et]; exact q, fun _ _ _ => rfl⟩
  · have ea : aBack T (nI k) = nI (T.ny - k) := by unfold aBack; rw [e]
    have et : tBack T (nI k) = (T.ny - k, T.ym, T.yw) := by unfold tBack; rw [e]
    have es : nI T.ny - nI k = nI (T.ny - k) := pk_sub (by omega)
    refine rM_start (by decide) (Nat.le_of_ble_eq_true rfl) ?_
    refine a_iload_n 1 dX11_back_0 rfl rfl ?_
    refine a_if_lt 15 4 dX11_back_1 rfl (by decide) (fun c_1 => absurd c_1 (nI_pos (by omega))) (fun c_1 => ?_)
    refine a_iload_n 5 dX11_back_4 rfl rfl ?_
    refine a_aload_n 6 dX11_back_5 rfl rfl ?_
    refine a_get fd_X11_53 rfl 9 dX11_back_6 rfl (by repeat (first | assumption | (refine rg_ne (by first | decide | omega) ?_) | apply rg_eq | refine rg_fr (by assumption) (by first | decide | (simp; omega)) ?_)) rfl ?_
    refine a_get fd_X11_195 rfl 12 dX11_back_9 rfl (by repeat (first | assumption | (refine rg_ne (by first | decide | omega) ?_) | apply rg_eq | refine rg_fr (by assumption) (by first | decide | (simp; omega)) ?_)) rfl ?_
    refine a_icmp_le 18 15 dX11_back_12 rfl (by decide) (fun c_12 => ?_) (fun c_12 => absurd (nI_le (a := k) (b := T.ny) (by omega) (by omega)) c_12)
    refine a_aload_n 19 dX11_back_18 rfl rfl ?_
    refine a_get fd_X11_53 rfl 22 dX11_back_19 rfl (by repeat (first | assumption | (refine rg_ne (by first | decide | omega) ?_) | apply rg_eq | refine rg_fr (by assumption) (by first | decide | (simp; omega)) ?_)) rfl ?_
    refine a_dup 23 dX11_back_22 rfl rfl ?_
    refine a_get fd_X11_195 rfl 26 dX11_back_23 rfl (by repeat (first | assumption | (refine rg_ne (by first | decide | omega) ?_) | apply rg_eq | refine rg_fr (by assumption) (by first | decide | (simp; omega)) ?_)) rfl ?_
    refine a_iload_n 27 dX11_back_26 rfl rfl ?_
    refine a_isub 28 dX11_back_27 rfl ?_
    rw [show nI T.2.2.2.1.1 - nI k = nI (T.ny - k) from es]
    refine a_put fd_X11_195 cl_X10 rfl 31 dX11_back_28 rfl (by repeat (first | assumption | (refine rg_ne (by first | decide | omega) ?_) | apply rg_eq | refine rg_fr (by assumption) (by first | decide | (simp; omega)) ?_)) (Nat.le_of_ble_eq_true rfl) rfl rfl rfl ?_
    refine a_aload_n 32 dX11_back_31 rfl rfl ?_
    refine a_get fd_X11_53 rfl 35 dX11_back_32 rfl (by repeat (first | assumption | (refine rg_ne (by first | decide | omega) ?_) | apply rg_eq | refine rg_fr (by assumption) (by first | decide | (simp; omega)) ?_)) rfl ?_
    refine a_get fd_X11_195 rfl 38 dX11_back_35 rfl (by repeat (first | assumption | (refine rg_ne (by first | decide | omega) ?_) | apply rg_eq | refine rg_fr (by assumption) (by first | decide | (simp; omega)) ?_)) rfl ?_
    exact a_ireturn dX11_back_38 rfl rfl (Nat.le_of_ble_eq_true rfl) (Nat.le_of_ble_eq_true rfl) ⟨by rw [ea], by rw [et]; exact all_Y q ⟨rg_eq r1, ⟨f, rg_ne (by decide) r2, fun j hj => r3 j (Nat.lt_of_lt_of_le hj (Nat.sub_le _ _))⟩, g, rg_ne (by decide) r4, fun j hj => r5 j (Nat.lt_of_lt_of_le hj (Nat.sub_le _ _))⟩ (kp_fr (fr_set (fr_refl _ _) (by decide))), kp_fr (fr_set (fr_refl _ _) (by decide))⟩
set_option maxRecDepth 100000 in
set_option maxHeartbeats 400000 in
theorem c_yawn (q : cAll G h T) (o : T.ok) (c d : Int32) : rM l G 12 mX11_yawn 0 0 [.ref (gN G + 0), .int c, .int d] h (fun h' v => v = some (.int (aYawn T c d)) ∧ cAll G h' (setY T (tYawn T c d)) ∧ kp h h' cL) := by
  have hny := o.ny24
  have hm := o.m12
  have hy := q.1.1
  obtain ⟨r1, ⟨f, r2, r3⟩, g, r4, r5⟩ := q.1.2.2.2.2.2.2.1
  rcases oT_cases (n := T.m) (by omega) d with ⟨e, hd⟩ | ⟨x, hx, rfl, e⟩
  · have ea : aYawn T c d = -1 := by unfold aYawn; rw [e]
    have et : tYawn T c d = T.2.2.2.1 := by unfold tYawn; rw [e]
    refine rM_start (by decide) (Nat.le_of_ble_eq_true rfl) ?_
    refine a_aload_n 1 dX11_yawn_0 rfl rfl ?_
    refine a_iload_n 2 dX11_yawn_1 rfl rfl ?_
    refine a_callV ok_X11_personAt ln_X11_152 in_X11_personAt rfl 5 dX11_yawn_2 rfl (c_personN q.1 hd) (by repeat (first | assumption | (refine rg_ne (by first | decide | omega) ?_) | apply rg_eq | refine rg_fr (by assumption) (by first | decide | (simp; omega)) ?_)) rfl rfl rfl ⟨(Nat.le_of_ble_eq_true rfl), (Nat.le_of_ble_eq_true rfl)⟩ (Nat.le_of_ble_eq_true rfl) ⟨(Nat.le_of_ble_eq_true rfl), (Nat.le_of_ble_eq_true rfl)⟩ ?_
    rintro _ _ ⟨rfl, rfl⟩
    refine a_ifnonnullN 8 dX11_yawn_5 rfl ?_
    refine a_iconst (-1) 9 dX11_yawn_8 rfl (by decide) ?_
    exact a_ireturn dX11_yawn_9 rfl rfl (Nat.le_of_ble_eq_true rfl) (Nat.le_of_ble_eq_true rfl) ⟨by rw [ea], by rw [et]; exact q, fun _ _ _ => rfl⟩
  · have hlt : ∀ d : Int32, d ≤ 599 → d < nI 600 := by
      intro d hd
      rw [i_le] at hd
      rw [i_lt, nI_toInt (by omega)]
      have : (599 : Int32).toInt = 599 := rfl
      omega
    rcases oT_cases (n := 600) (by omega) c with ⟨e2, hc⟩ | ⟨a, ha, rfl, e2⟩
    · have ea : aYawn T c (nI x) = -2 := by unfold aYawn; rw [e, e2]
      have et : tYawn T c (nI x) = T.2.2.2.1 := by unfold tYawn; rw [e, e2]
      refine rM_start (by decide) (Nat.le_of_ble_eq_true rfl) ?_
      refine a_aload_n 1 dX11_yawn_0 rfl rfl ?_
      refine a_iload_n 2 dX11_yawn_1 rfl rfl ?_
      refine a_callV ok_X11_personAt ln_X11_152 in_X11_personAt rfl 5 dX11_yawn_2 rfl (c_person q.1 o hx) (by repeat (first | assumption | (refine rg_ne (by first | decide | omega) ?_) | apply rg_eq | refine rg_fr (by assumption) (by first | decide | (simp; omega)) ?_)) rfl rfl rfl ⟨(Nat.le_of_ble_eq_true rfl), (Nat.le_of_ble_eq_true rfl)⟩ (Nat.le_of_ble_eq_true rfl) ⟨(Nat.le_of_ble_eq_true rfl), (Nat.le_of_ble_eq_true rfl)⟩ ?_
      rintro _ _ ⟨rfl, rfl⟩
      refine a_ifnonnull 10 dX11_yawn_5 (by decide) ?_
      refine a_iload_n 11 dX11_yawn_10 rfl rfl ?_
      refine a_if_lt 21 14 dX11_yawn_11 rfl (by decide) (fun c_11 => ?_) (fun c_11 => ?_)
      · refine a_bipush (-2) 23 dX11_yawn_21 rfl (by decide) ?_
        exact a_ireturn dX11_yawn_23 rfl rfl (Nat.le_of_ble_eq_true rfl) (Nat.le_of_ble_eq_true rfl) ⟨by rw [ea], by rw [et]; exact q, fun _ _ _ => rfl⟩
      · refine a_iload_n 15 dX11_yawn_14 rfl rfl ?_
        refine a_sipush (599) 18 dX11_yawn_15 rfl (by decide) ?_
        refine a_icmp_le 24 21 dX11_yawn_18 rfl (by decide) (fun c_18 => absurd c_18 (fun z => hc ⟨Int32.not_lt.mp c_11, hlt c z⟩)) (fun c_18 => ?_)
        refine a_bipush (-2) 23 dX11_yawn_21 rfl (by decide) ?_
        exact a_ireturn dX11_yawn_23 rfl rfl (Nat.le_of_ble_eq_true rfl) (Nat.le_of_ble_eq_true rfl) ⟨by rw [ea], by rw [et]; exact q, fun _ _ _ => rfl⟩
    · have ea : aYawn T (nI a) (nI x) = if a < lastT T then -3 else if T.ny = 24 then -4 else nI T.ny := by unfold aYawn; rw [e, e2]
      have et : tYawn T (nI a) (nI x) = if a < lastT T then T.2.2.2.1 else if T.ny = 24 then T.2.2.2.1 else (T.ny + 1, (fun q => if q = T.ny then a else T.ym q), (fun q => if q = T.ny then x else T.yw q)) := by unfold tYawn; rw [e, e2]
      have hla : 0 < T.ny → (if 0 ≤ nI T.ny - 1 ∧ nI T.ny - 1 < 24 then f (nI T.ny - 1).toNatClampNeg else 0) = nI (lastT T) := by
        intro h0
        have e1 : nI T.ny - 1 = nI (T.ny - 1) := pk_sub (b := 1) (by omega)
        rw [e1, if_pos ⟨nI_pos' (by omega), nI_lt (b := 24) (by omega) (by decide)⟩, nI_clamp (by omega), r3 (T.ny - 1) (Nat.sub_lt h0 (by decide)), show lastT T = T.ym (T.ny - 1) from if_neg (by omega)]
      have hl0 : T.ny = 0 → lastT T = 0 := fun z => if_pos z
      have hl600 : lastT T < 600 := by
        by_cases z : T.ny = 0
        · rw [hl0 z]; decide
        · rw [show lastT T = T.ym (T.ny - 1) from if_neg z]; exact o.ym (by omega)
      have hle := nI_le0 (k := T.ny) (by omega)
      have e24 : (24 : Int32) ≤ nI T.ny ↔ T.ny = 24 := by
        rw [show (24 : Int32) = nI 24 from rfl, nI_leI (by omega) (by omega)]
        omega
      have base : 24 ≠ T.ny → cAll G (((h.set 15 (.inl (gA G 0, 24, .inl (upd f (nI T.ny).toNatClampNeg (nI a))))).set 16 (.inl (gA G 0, 24, .inl (upd g (nI T.ny).toNatClampNeg (nI x))))).set 14 (.inr (9, [.ref (gN G + 15), .ref (gN G + 16), .int (nI T.ny + 1)]))) (setY T (T.ny + 1, (fun q => if q = T.ny then a else T.ym q), (fun q => if q = T.ny then x else T.yw q))) := by
        intro hne
        refine all_Y q ⟨?_, ⟨_, rg_ne (by decide) (rg_ne (by decide) (rg_eq r2)), ?_⟩, _, rg_ne (by decide) (rg_eq (rg_ne (by decide) r4)), ?_⟩ (kp_fr (fr_set (fr_set (fr_set (fr_refl _ _) (by decide)) (by decide)) (by decide)))
        · rw [nI_1]; exact rg_eq (rg_ne (by decide) (rg_ne (by decide) r1))
        · intro j hj
          rw [nI_clamp (by omega)]
          by_cases z : j = T.ny
          · subst z; rw [pk_us]; dsimp only; rw [if_pos rfl]
          · rw [pk_un z]; dsimp only; rw [if_neg z]; exact r3 j (Nat.lt_of_le_of_ne (Nat.le_of_lt_succ hj) z)
        · intro j hj
          rw [nI_clamp (by omega)]
          by_cases z : j = T.ny
          · subst z; rw [pk_us]; dsimp only; rw [if_pos rfl]
          · rw [pk_un z]; dsimp only; rw [if_neg z]; exact r5 j (Nat.lt_of_le_of_ne (Nat.le_of_lt_succ hj) z)
      refine rM_start (by decide) (Nat.le_of_ble_eq_true rfl) ?_
      refine a_aload_n 1 dX11_yawn_0 rfl rfl ?_
      refine a_iload_n 2 dX11_yawn_1 rfl rfl ?_
      refine a_callV ok_X11_personAt ln_X11_152 in_X11_personAt rfl 5 dX11_yawn_2 rfl (c_person q.1 o hx) (by repeat (first | assumption | (refine rg_ne (by first | decide | omega) ?_) | apply rg_eq | refine rg_fr (by assumption) (by first | decide | (simp; omega)) ?_)) rfl rfl rfl ⟨(Nat.le_of_ble_eq_true rfl), (Nat.le_of_ble_eq_true rfl)⟩ (Nat.le_of_ble_eq_true rfl) ⟨(Nat.le_of_ble_eq_true rfl), (Nat.le_of_ble_eq_true rfl)⟩ ?_
      rintro _ _ ⟨rfl, rfl⟩
      refine a_ifnonnull 10 dX11_yawn_5 (by decide) ?_
      refine a_iload_n 11 dX11_yawn_10 rfl rfl ?_
      refine a_if_lt 21 14 dX11_yawn_11 rfl (by decide) (fun c_11 => absurd c_11 (nI_pos (by omega))) (fun c_11 => ?_)
      refine a_iload_n 15 dX11_yawn_14 rfl rfl ?_
      refine a_sipush (599) 18 dX11_yawn_15 rfl (by decide) ?_
      refine a_icmp_le 24 21 dX11_yawn_18 rfl (by decide) (fun c_18 => ?_) (fun c_18 => absurd (nI_le (a := a) (b := 599) (by omega) (by decide)) c_18)
      refine a_aload_n 25 dX11_yawn_24 rfl rfl ?_
      refine a_get fd_X11_53 rfl 28 dX11_yawn_25 rfl (by repeat (first | assumption | (refine rg_ne (by first | decide | omega) ?_) | apply rg_eq | refine rg_fr (by assumption) (by first | decide | (simp; omega)) ?_)) rfl ?_
      refine a_get fd_X11_195 rfl 31 dX11_yawn_28 rfl (by repeat (first | assumption | (refine rg_ne (by first | decide | omega) ?_) | apply rg_eq | refine rg_fr (by assumption) (by first | decide | (simp; omega)) ?_)) rfl ?_
      refine a_if_le 48 34 dX11_yawn_31 rfl (by decide) (fun c_31 => ?_) (fun c_31 => ?_)
      · refine a_aload_n 49 dX11_yawn_48 rfl rfl ?_
        refine a_get fd_X11_53 rfl 52 dX11_yawn_49 rfl (by repeat (first | assumption | (refine rg_ne (by first | decide | omega) ?_) | apply rg_eq | refine rg_fr (by assumption) (by first | decide | (simp; omega)) ?_)) rfl ?_
        refine a_callV ok_X10_isFull ln_X11_201 in_X10_isFull rfl 55 dX11_yawn_52 rfl (k_X10_isFull r1) (by repeat (first | assumption | (refine rg_ne (by first | decide | omega) ?_) | apply rg_eq | refine rg_fr (by assumption) (by first | decide | (simp; omega)) ?_)) rfl rfl rfl ⟨(Nat.le_of_ble_eq_true rfl), (Nat.le_of_ble_eq_true rfl)⟩ (Nat.le_of_ble_eq_true rfl) ⟨(Nat.le_of_ble_eq_true rfl), (Nat.le_of_ble_eq_true rfl)⟩ ?_
        rintro _ _ ⟨rfl, rfl⟩
        refine a_if_eq 61 58 dX11_yawn_55 rfl (by decide) (fun c_55 => ?_) (fun c_55 => ?_)
        · refine a_aload_n 62 dX11_yawn_61 rfl rfl ?_
          refine a_get fd_X11_53 rfl 65 dX11_yawn_62 rfl (by repeat (first | assumption | (refine rg_ne (by first | decide | omega) ?_) | apply rg_eq | refine rg_fr (by assumption) (by first | decide | (simp; omega)) ?_)) rfl ?_
          refine a_iload_n 66 dX11_yawn_65 rfl rfl ?_
          refine a_iload_n 67 dX11_yawn_66 rfl rfl ?_
          refine a_callV ok_X10_add ln_X11_205 in_X10_add rfl 70 dX11_yawn_67 rfl (k_X10_add (by decide) r1 r2 r4 (vp_in_nI (by have : ¬ (24 : Int32) ≤ nI T.ny := b_eq0.mp c_55; rw [e24] at this; show T.ny < 24; omega) (by decide)) (nI a) (nI x)) (by repeat (first | assumption | (refine rg_ne (by first | decide | omega) ?_) | apply rg_eq | refine rg_fr (by assumption) (by first | decide | (simp; omega)) ?_)) rfl rfl rfl ⟨(Nat.le_of_ble_eq_true rfl), (Nat.le_of_ble_eq_true rfl)⟩ (Nat.le_of_ble_eq_true rfl) ⟨(Nat.le_of_ble_eq_true rfl), (Nat.le_of_ble_eq_true rfl)⟩ ?_
          rintro _ _ ⟨rfl, rfl⟩
          have n24 : ¬ T.ny = 24 := fun z => b_eq0.mp c_55 (e24.mpr z)
          have qb := base (fun z => n24 z.symm)
          refine a_aload_n 71 dX11_yawn_70 rfl rfl ?_
          refine a_get fd_X11_53 rfl 74 dX11_yawn_71 rfl (by repeat (first | assumption | (refine rg_ne (by first | decide | omega) ?_) | apply rg_eq | refine rg_fr (by assumption) (by first | decide | (simp; omega)) ?_)) rfl ?_
          refine a_get fd_X11_195 rfl 77 dX11_yawn_74 rfl (by exact rg_eq (rg_ne (by decide) (rg_ne (by decide) r1))) rfl ?_
          refine a_iconst (1) 78 dX11_yawn_77 rfl (by decide) ?_
          refine a_isub 79 dX11_yawn_78 rfl ?_
          exact a_ireturn dX11_yawn_79 rfl rfl (Nat.le_of_ble_eq_true rfl) (Nat.le_of_ble_eq_true rfl) ⟨by rw [ea, if_neg (by rw [hl0 (hle.mp c_31)]; omega), if_neg n24, nI_1, show nI (T.ny + 1) - 1 = nI T.ny from nI_pred _], by rw [et, if_neg (by rw [hl0 (hle.mp c_31)]; omega), if_neg n24]; exact qb, kp_fr (fr_set (fr_set (fr_set (fr_refl _ _) (by decide)) (by decide)) (by decide))⟩
        · refine a_bipush (-4) 60 dX11_yawn_58 rfl (by decide) ?_
          exact a_ireturn dX11_yawn_60 rfl rfl (Nat.le_of_ble_eq_true rfl) (Nat.le_of_ble_eq_true rfl) ⟨by rw [ea, if_neg (by rw [hl0 (hle.mp c_31)]; omega), if_pos (e24.mp (Decidable.not_not.mp (fun z => c_55 (if_neg z))))], by rw [et, if_neg (by rw [hl0 (hle.mp c_31)]; omega), if_pos (e24.mp (Decidable.not_not.mp (fun z => c_55 (if_neg z))))]; exact q, fun _ _ _ => rfl⟩
      · refine a_iload_n 35 dX11_yawn_34 rfl rfl ?_
        refine a_aload_n 36 dX11_yawn_35 rfl rfl ?_
        refine a_get fd_X11_53 rfl 39 dX11_yawn_36 rfl (by repeat (first | assumption | (refine rg_ne (by first | decide | omega) ?_) | apply rg_eq | refine rg_fr (by assumption) (by first | decide | (simp; omega)) ?_)) rfl ?_
        refine a_callV ok_X10_lastMinute ln_X11_198 in_X10_lastMinute rfl 42 dX11_yawn_39 rfl (k_X10_lastMinute r1 r2) (by repeat (first | assumption | (refine rg_ne (by first | decide | omega) ?_) | apply rg_eq | refine rg_fr (by assumption) (by first | decide | (simp; omega)) ?_)) rfl rfl rfl ⟨(Nat.le_of_ble_eq_true rfl), (Nat.le_of_ble_eq_true rfl)⟩ (Nat.le_of_ble_eq_true rfl) ⟨(Nat.le_of_ble_eq_true rfl), (Nat.le_of_ble_eq_true rfl)⟩ ?_
        rintro _ _ ⟨rfl, rfl⟩
        rw [hla (Nat.pos_of_ne_zero (fun z => c_31 (hle.mpr z)))]
        refine a_icmp_ge 48 45 dX11_yawn_42 rfl (by decide) (fun c_42 => ?_) (fun c_42 => ?_)
        · refine a_aload_n 49 dX11_yawn_48 rfl rfl ?_
          refine a_get fd_X11_53 rfl 52 dX11_yawn_49 rfl (by repeat (first | assumption | (refine rg_ne (by first | decide | omega) ?_) | apply rg_eq | refine rg_fr (by assumption) (by first | decide | (simp; omega)) ?_)) rfl ?_
          refine a_callV ok_X10_isFull ln_X11_201 in_X10_isFull rfl 55 dX11_yawn_52 rfl (k_X10_isFull r1) (by repeat (first | assumption | (refine rg_ne (by first | decide | omega) ?_) | apply rg_eq | refine rg_fr (by assumption) (by first | decide | (simp; omega)) ?_)) rfl rfl rfl ⟨(Nat.le_of_ble_eq_true rfl), (Nat.le_of_ble_eq_true rfl)⟩ (Nat.le_of_ble_eq_true rfl) ⟨(Nat.le_of_ble_eq_true rfl), (Nat.le_of_ble_eq_true rfl)⟩ ?_
          rintro _ _ ⟨rfl, rfl⟩
          refine a_if_eq 61 58 dX11_yawn_55 rfl (by decide) (fun c_55 => ?_) (fun c_55 => ?_)
          · refine a_aload_n 62 dX11_yawn_61 rfl rfl ?_
            refine a_get fd_X11_53 rfl 65 dX11_yawn_62 rfl (by repeat (first | assumption | (refine rg_ne (by first | decide | omega) ?_) | apply rg_eq | refine rg_fr (by assumption) (by first | decide | (simp; omega)) ?_)) rfl ?_
            refine a_iload_n 66 dX11_yawn_65 rfl rfl ?_
            refine a_iload_n 67 dX11_yawn_66 rfl rfl ?_
            refine a_callV ok_X10_add ln_X11_205 in_X10_add rfl 70 dX11_yawn_67 rfl (k_X10_add (by decide) r1 r2 r4 (vp_in_nI (by have : ¬ (24 : Int32) ≤ nI T.ny := b_eq0.mp c_55; rw [e24] at this; show T.ny < 24; omega) (by decide)) (nI a) (nI x)) (by repeat (first | assumption | (refine rg_ne (by first | decide | omega) ?_) | apply rg_eq | refine rg_fr (by assumption) (by first | decide | (simp; omega)) ?_)) rfl rfl rfl ⟨(Nat.le_of_ble_eq_true rfl), (Nat.le_of_ble_eq_true rfl)⟩ (Nat.le_of_ble_eq_true rfl) ⟨(Nat.le_of_ble_eq_true rfl), (Nat.le_of_ble_eq_true rfl)⟩ ?_
            rintro _ _ ⟨rfl, rfl⟩
            have n24 : ¬ T.ny = 24 := fun z => b_eq0.mp c_55 (e24.mpr z)
            have qb := base (fun z => n24 z.symm)
            refine a_aload_n 71 dX11_yawn_70 rfl rfl ?_
            refine a_get fd_X11_53 rfl 74 dX11_yawn_71 rfl (by repeat (first | assumption | (refine rg_ne (by first | decide | omega) ?_) | apply rg_eq | refine rg_fr (by assumption) (by first | decide | (simp; omega)) ?_)) rfl ?_
            refine a_get fd_X11_195 rfl 77 dX11_yawn_74 rfl (by exact rg_eq (rg_ne (by decide) (rg_ne (by decide) r1))) rfl ?_
            refine a_iconst (1) 78 dX11_yawn_77 rfl (by decide) ?_
            refine a_isub 79 dX11_yawn_78 rfl ?_
            exact a_ireturn dX11_yawn_79 rfl rfl (Nat.le_of_ble_eq_true rfl) (Nat.le_of_ble_eq_true rfl) ⟨by rw [ea, if_neg (fun z => absurd c_42 (nI_ge z (by omega))), if_neg n24, nI_1, show nI (T.ny + 1) - 1 = nI T.ny from nI_pred _], by rw [et, if_neg (fun z => absurd c_42 (nI_ge z (by omega))), if_neg n24]; exact qb, kp_fr (fr_set (fr_set (fr_set (fr_refl _ _) (by decide)) (by decide)) (by decide))⟩
          · refine a_bipush (-4) 60 dX11_yawn_58 rfl (by decide) ?_
            exact a_ireturn dX11_yawn_60 rfl rfl (Nat.le_of_ble_eq_true rfl) (Nat.le_of_ble_eq_true rfl) ⟨by rw [ea, if_neg (fun z => absurd c_42 (nI_ge z (by omega))), if_pos (e24.mp (Decidable.not_not.mp (fun z => c_55 (if_neg z))))], by rw [et, if_neg (fun z => absurd c_42 (nI_ge z (by omega))), if_pos (e24.mp (Decidable.not_not.mp (fun z => c_55 (if_neg z))))]; exact q, fun _ _ _ => rfl⟩
        · refine a_bipush (-3) 47 dX11_yawn_45 rfl (by decide) ?_
          exact a_ireturn dX11_yawn_47 rfl rfl (Nat.le_of_ble_eq_true rfl) (Nat.le_of_ble_eq_true rfl) ⟨by rw [ea, if_pos (Nat.lt_of_not_le (fun z => c_42 (nI_le z (by omega))))], by rw [et, if_pos (Nat.lt_of_not_le (fun z => c_42 (nI_le z (by omega))))]; exact q, fun _ _ _ => rfl⟩
end CONE4
