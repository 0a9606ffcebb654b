/-! THE CLASS's calls on seats, ones, laws, yawns that change little -/
abbrev setFT (T : Tn) (f t : Int32) : Tn := (T.1, T.2.1, T.2.2.1, T.2.2.2.1, T.2.2.2.2.1, f, t)
abbrev setY (T : Tn) (Y : YawT) : Tn := (T.1, T.2.1, T.2.2.1, Y, T.2.2.2.2)
theorem all_0 {G : rG} {h h' : rH} {T : Tn} {f t : Int32} (q : cAll G h T) (e : h'[0]? = some (ytc G (nI T.m) (nI T.nl) f t)) (hf : kp h h' [0]) : cAll G h' (setFT T f t) := by
  obtain ⟨⟨h0, h1, h2, h3, h4, h5, h6, h7⟩, q2, q3⟩ := q
  have z := cTxt.kp ⟨h1, h2⟩ hf (by decide)
  exact ⟨⟨e, z.1, z.2, h3.kp hf (by decide), h4.kp hf (by decide), h5.kp hf (by decide), h6.kp hf (by decide), h7.kp hf (by decide)⟩, q2.kp hf (by decide), q3.kp hf (by decide)⟩
theorem all_Y {G : rG} {h h' : rH} {T : Tn} {Y : YawT} (q : cAll G h T) (e : cYaw G h' Y) (hf : kp h h' [14, 15, 16]) : cAll G h' (setY T Y) := by
  obtain ⟨⟨h0, h1, h2, h3, h4, h5, h6, h7⟩, q2, q3⟩ := q
  have z := cTxt.kp ⟨h1, h2⟩ hf (by decide)
  exact ⟨⟨kp_get hf (by decide) h0, z.1, z.2, h3.kp hf (by decide), h4.kp hf (by decide), h5.kp hf (by decide), e, h7.kp hf (by decide)⟩, q2.kp hf (by decide), q3.kp hf (by decide)⟩
def aMany (T : Tn) (c : Int32) : Int32 := if c.toInt = 0 then nI T.n else if c.toInt = 1 then nI T.m else if c.toInt = 2 then nI T.nl else if c.toInt = 3 then nI T.ny else if c.toInt = 4 then nI (sumN (fun g => if T.B g = 0 then 0 else 1) 64) else -2
def aOfYawn (T : Tn) (c d : Int32) : Int32 := match oT T.ny c with
  | some j => if d.toInt = 0 then nI (T.ym j) else if d.toInt = 1 then nI (T.yw j) else -2
  | none => -1
def aOfOne (T : Tn) (c d : Int32) : Int32 := match oT T.m c with
  | some x => if d.toInt = 0 then nI (T.kd x) else if d.toInt = 1 then nI (T.se x) else if d.toInt = 2 then nI (T.sl x) else if d.toInt = 3 then nI (T.ki x) else if d.toInt = 4 then bsN (fun y => decide (T.sees x y)) T.m else if d.toInt = 5 then bsN (fun y => hearM T.nb (T.se x) (T.se y)) T.m else -2
  | none => -1
def aOfLaw (T : Tn) (c d : Int32) : Int32 := match oT T.nl c, oT 7 d with
  | some z, some w => nI (T.nu z w)
  | _, _ => -1
def aMight (T : Tn) (c d i : Int32) : Int32 := match oT T.nl c, oT T.m d with
  | some z, some x => if i = -9 then nI (T.own z x) else (match oT T.m i with
    | some y => if x = y then -2 else nI (T.mi z x y)
    | none => -1)
  | _, _ => -1
def aTell (T : Tn) (c : Int32) : Int32 := match oT T.m c with
  | some x => if T.kd x = 0 then 9 - nI (T.sl x) else if T.kd x = 1 then 9 - nI (T.sl x) + 100 else 9 - nI (T.sl x) + 100 + (9 - nI (T.sl x))
  | none => -1
def tTell (T : Tn) (c : Int32) : Int32 := match oT T.m c with
  | some x => if T.kd x = 0 then 31 * T.tr + 1 else if T.kd x = 1 then 31 * (31 * T.tr + 2) + 1 else 31 * (31 * (31 * (31 * T.tr + 3) + 2) + 1) + 1
  | none => T.tr
def aWake (T : Tn) (c : Int32) : Int32 := match oT T.m c with
  | some x => if T.kd x = 2 then 80 else nI x
  | none => -1
def tWake (T : Tn) (c : Int32) : Int32 := match oT T.m c with
  | some x => if T.kd x = 2 then 31 * T.tr + 5 else 31 * T.tr + 4
  | none => T.tr
def aAs (T : Tn) (c d : Int32) : Int32 := match oT T.m c with
  | some x => if 0 ≤ d ∧ d ≤ 2 then (if nI (T.kd x) < d then -12 else 1) else -2
  | none => -1
def fAs (T : Tn) (c d : Int32) : Int32 := match oT T.m c with
  | some x => if 0 ≤ d ∧ d ≤ 2 then (if nI (T.kd x) < d then 2 else 0) else 0
  | none => 0
section CONE
variable {l : Launch} {G : rG} {h : rH} {T : Tn}
theorem c_car (q : cAt G h T) : ∃ f s L, h[7]? = some (.inr (1, [.ref (gN G + 8), .ref (gN G + 9), .ref (gN G + 10), .ref (gN G + 11), .int (nI T.wi), .int (nI T.n), .int (bI T.mir), .int (nI (sumN (fun g => if T.B g = 0 then 0 else 1) 64))])) ∧ h[8]? = some (.inl (gA G 0, 32, .inl f)) ∧ h[9]? = some (.inl (gA G 0, 32, .inl s)) ∧ h[10]? = some (.inl (gA G 0, 32, .inl L)) ∧ h[11]? = some (.inl (gA G 1, 64, .inl T.B)) ∧ (∀ c, c < T.n → f c = nI (T.face c)) ∧ (∀ c, c < T.n → s c = noI (firstN (fun x => decide (T.se x = c)) T.m 0)) ∧ ∀ c, c < T.n → L c = lineW (nI T.wi) (nI T.n) (bI T.mir) T.B (nI (T.face c)) 32 0 (nI c) := by
  obtain ⟨f, s, L, ⟨h1, h2, h3, h4, h5⟩, h6, h7⟩ := q.2.2.2.1
  exact ⟨f, s, L, h1, h2, h3, h4, h5, h6, h7⟩
set_option maxRecDepth 100000 in
set_option maxHeartbeats 400000 in
theorem c_trace (q : cAll G h T) : rM l G 12 mX11_trace 0 0 [.ref (gN G + 0)] h (fun h' v => v = some (.int T.tr) ∧ cAll G h' T ∧ kp h h' cL) := by
  have hy := q.1.1
  refine rM_start (by decide) (Nat.le_of_ble_eq_true rfl) ?_
  refine a_aload_n 1 dX11_trace_0 rfl rfl ?_
  refine a_get fd_X11_362 rfl 4 dX11_trace_1 rfl (by repeat (first | assumption | (refine rg_ne (by first | decide | omega) ?_) | apply rg_eq | refine rg_fr (by assumption) (by first | decide | (simp; omega)) ?_)) rfl ?_
  exact a_ireturn dX11_trace_4 rfl rfl (Nat.le_of_ble_eq_true rfl) (Nat.le_of_ble_eq_true rfl) ⟨rfl, q, fun _ _ _ => rfl⟩
set_option maxRecDepth 100000 in
set_option maxHeartbeats 400000 in
theorem c_fault (q : cAll G h T) : rM l G 12 mX11_fault 0 0 [.ref (gN G + 0)] h (fun h' v => v = some (.int T.fa) ∧ cAll G h' T ∧ kp h h' cL) := by
  have hy := q.1.1
  refine rM_start (by decide) (Nat.le_of_ble_eq_true rfl) ?_
  refine a_aload_n 1 dX11_fault_0 rfl rfl ?_
  refine a_get fd_X11_268 rfl 4 dX11_fault_1 rfl (by repeat (first | assumption | (refine rg_ne (by first | decide | omega) ?_) | apply rg_eq | refine rg_fr (by assumption) (by first | decide | (simp; omega)) ?_)) rfl ?_
  exact a_ireturn dX11_fault_4 rfl rfl (Nat.le_of_ble_eq_true rfl) (Nat.le_of_ble_eq_true rfl) ⟨rfl, q, fun _ _ _ => rfl⟩
set_option maxRecDepth 100000 in
set_option maxHeartbeats 400000 in
theorem c_many (q : cAll G h T) (c : Int32) : rM l G 12 mX11_many 0 0 [.ref (gN G + 0), .int c] h (fun h' v => v = some (.int (aMany T c)) ∧ cAll G h' T ∧ kp h h' cL) := by
  have hy := q.1.1
  obtain ⟨f0, s, L, h7, -⟩ := c_car q.1
  have r1 := q.1.2.2.2.2.2.2.1.1
  refine rM_start (by decide) (Nat.le_of_ble_eq_true rfl) ?_
  refine a_iload_n 1 dX11_many_0 rfl rfl ?_
  rcases (show (c).toInt = 0 ∨ (c).toInt = 1 ∨ (c).toInt = 2 ∨ (c).toInt = 3 ∨ (c).toInt = 4 ∨ ((c).toInt < 0 ∨ 4 < (c).toInt) by omega) with w_1 | w_1 | w_1 | w_1 | w_1 | w_1
  · refine a_tableIn 36 dX11_many_1 (by rw [w_1]; decide) (by rw [w_1]; decide) (by rw [w_1]; rfl) (by decide) ?_
    refine a_aload_n 37 dX11_many_36 rfl rfl ?_
    refine a_get fd_X11_34 rfl 40 dX11_many_37 rfl (by repeat (first | assumption | (refine rg_ne (by first | decide | omega) ?_) | apply rg_eq | refine rg_fr (by assumption) (by first | decide | (simp; omega)) ?_)) rfl ?_
    refine a_get fd_X11_105 rfl 43 dX11_many_40 rfl (by repeat (first | assumption | (refine rg_ne (by first | decide | omega) ?_) | apply rg_eq | refine rg_fr (by assumption) (by first | decide | (simp; omega)) ?_)) rfl ?_
    exact a_ireturn dX11_many_43 rfl rfl (Nat.le_of_ble_eq_true rfl) (Nat.le_of_ble_eq_true rfl) ⟨by unfold aMany; repeat (first | rfl | rw [if_pos (by omega)] | rw [if_neg (by omega)]), q, fun _ _ _ => rfl⟩
  · refine a_tableIn 44 dX11_many_1 (by rw [w_1]; decide) (by rw [w_1]; decide) (by rw [w_1]; rfl) (by decide) ?_
    refine a_aload_n 45 dX11_many_44 rfl rfl ?_
    refine a_get fd_X11_98 rfl 48 dX11_many_45 rfl (by repeat (first | assumption | (refine rg_ne (by first | decide | omega) ?_) | apply rg_eq | refine rg_fr (by assumption) (by first | decide | (simp; omega)) ?_)) rfl ?_
    exact a_ireturn dX11_many_48 rfl rfl (Nat.le_of_ble_eq_true rfl) (Nat.le_of_ble_eq_true rfl) ⟨by unfold aMany; repeat (first | rfl | rw [if_pos (by omega)] | rw [if_neg (by omega)]), q, fun _ _ _ => rfl⟩
  · refine a_tableIn 49 dX11_many_1 (by rw [w_1]; decide) (by rw [w_1]; decide) (by rw [w_1]; rfl) (by decide) ?_
    refine a_aload_n 50 dX11_many_49 rfl rfl ?_
    refine a_get fd_X11_174 rfl 53 dX11_many_50 rfl (by repeat (first | assumption | (refine rg_ne (by first | decide | omega) ?_) | apply rg_eq | refine rg_fr (by assumption) (by first | decide | (simp; omega)) ?_)) rfl ?_
    exact a_ireturn dX11_many_53 rfl rfl (Nat.le_of_ble_eq_true rfl) (Nat.le_of_ble_eq_true rfl) ⟨by unfold aMany; repeat (first | rfl | rw [if_pos (by omega)] | rw [if_neg (by omega)]), q, fun _ _ _ => rfl⟩
  · refine a_tableIn 54 dX11_many_1 (by rw [w_1]; decide) (by rw [w_1]; decide) (by rw [w_1]; rfl) (by decide) ?_
    refine a_aload_n 55 dX11_many_54 rfl rfl ?_
    refine a_get fd_X11_53 rfl 58 dX11_many_55 rfl (by repeat (first | assumption | (refine rg_ne (by first | decide | omega) ?_) | apply rg_eq | refine rg_fr (by assumption) (by first | decide | (simp; omega)) ?_)) rfl ?_
    refine a_get fd_X11_195 rfl 61 dX11_many_58 rfl (by repeat (first | assumption | (refine rg_ne (by first | decide | omega) ?_) | apply rg_eq | refine rg_fr (by assumption) (by first | decide | (simp; omega)) ?_)) rfl ?_
    exact a_ireturn dX11_many_61 rfl rfl (Nat.le_of_ble_eq_true rfl) (Nat.le_of_ble_eq_true rfl) ⟨by unfold aMany; repeat (first | rfl | rw [if_pos (by omega)] | rw [if_neg (by omega)]), q, fun _ _ _ => rfl⟩
  · refine a_tableIn 62 dX11_many_1 (by rw [w_1]; decide) (by rw [w_1]; decide) (by rw [w_1]; rfl) (by decide) ?_
    refine a_aload_n 63 dX11_many_62 rfl rfl ?_
    refine a_get fd_X11_34 rfl 66 dX11_many_63 rfl (by repeat (first | assumption | (refine rg_ne (by first | decide | omega) ?_) | apply rg_eq | refine rg_fr (by assumption) (by first | decide | (simp; omega)) ?_)) rfl ?_
    refine a_get fd_X11_365 rfl 69 dX11_many_66 rfl (by repeat (first | assumption | (refine rg_ne (by first | decide | omega) ?_) | apply rg_eq | refine rg_fr (by assumption) (by first | decide | (simp; omega)) ?_)) rfl ?_
    exact a_ireturn dX11_many_69 rfl rfl (Nat.le_of_ble_eq_true rfl) (Nat.le_of_ble_eq_true rfl) ⟨by unfold aMany; repeat (first | rfl | rw [if_pos (by omega)] | rw [if_neg (by omega)]), q, fun _ _ _ => rfl⟩
  · refine a_tableOut 70 dX11_many_1 w_1 (by decide) ?_
    refine a_bipush (-2) 72 dX11_many_70 rfl (by decide) ?_
    exact a_ireturn dX11_many_72 rfl rfl (Nat.le_of_ble_eq_true rfl) (Nat.le_of_ble_eq_true rfl) ⟨by unfold aMany; repeat (first | rfl | rw [if_pos (by omega)] | rw [if_neg (by omega)]), q, fun _ _ _ => rfl⟩
set_option maxRecDepth 100000 in
set_option maxHeartbeats 400000 in
theorem c_ofYawn (q : cAll G h T) (o : T.ok) (c d : Int32) : rM l G 12 mX11_ofYawn 0 0 [.ref (gN G + 0), .int c, .int d] h (fun h' v => v = some (.int (aOfYawn T c d)) ∧ cAll G h' T ∧ kp h h' cL) := by
  have hny := o.ny24
  have hy := q.1.1
  have r1 := q.1.2.2.2.2.2.2.1.1
  rcases oT_cases (n := T.ny) (by omega) c with ⟨e, hc⟩ | ⟨j, hj, rfl, e⟩
  · have ea : aOfYawn T c d = -1 := by unfold aOfYawn; rw [e]
    refine rM_start (by decide) (Nat.le_of_ble_eq_true rfl) ?_
    refine a_aload_n 1 dX11_ofYawn_0 rfl rfl ?_
    refine a_get fd_X11_53 rfl 4 dX11_ofYawn_1 rfl (by repeat (first | assumption | (refine rg_ne (by first | decide | omega) ?_) | apply rg_eq | refine rg_fr (by assumption) (by first | decide | (simp; omega)) ?_)) rfl ?_
    refine a_iload_n 5 dX11_ofYawn_4 rfl rfl ?_
    refine a_callV ok_X10_has ln_X11_208 in_X10_has rfl 8 dX11_ofYawn_5 rfl (c_has q.1 c) (by repeat (first | assumption | (refine rg_ne (by first | decide | omega) ?_) | apply rg_eq | refine rg_fr (by assumption) (by first | decide | (simp; omega)) ?_)) rfl rfl rfl ⟨(Nat.le_of_ble_eq_true rfl), (Nat.le_of_ble_eq_true rfl)⟩ (Nat.le_of_ble_eq_true rfl) ⟨(Nat.le_of_ble_eq_true rfl), (Nat.le_of_ble_eq_true rfl)⟩ ?_
    rintro _ _ ⟨rfl, rfl⟩
    refine a_if_ne 13 11 dX11_ofYawn_8 rfl (by decide) (fun c_8 => absurd (if_neg hc) c_8) (fun c_8 => ?_)
    refine a_iconst (-1) 12 dX11_ofYawn_11 rfl (by decide) ?_
    exact a_ireturn dX11_ofYawn_12 rfl rfl (Nat.le_of_ble_eq_true rfl) (Nat.le_of_ble_eq_true rfl) ⟨by rw [ea], q, fun _ _ _ => rfl⟩
  · have ea : aOfYawn T (nI j) d = if d.toInt = 0 then nI (T.ym j) else if d.toInt = 1 then nI (T.yw j) else -2 := by unfold aOfYawn; rw [e]
    refine rM_start (by decide) (Nat.le_of_ble_eq_true rfl) ?_
    refine a_aload_n 1 dX11_ofYawn_0 rfl rfl ?_
    refine a_get fd_X11_53 rfl 4 dX11_ofYawn_1 rfl (by repeat (first | assumption | (refine rg_ne (by first | decide | omega) ?_) | apply rg_eq | refine rg_fr (by assumption) (by first | decide | (simp; omega)) ?_)) rfl ?_
    refine a_iload_n 5 dX11_ofYawn_4 rfl rfl ?_
    refine a_callV ok_X10_has ln_X11_208 in_X10_has rfl 8 dX11_ofYawn_5 rfl (c_has q.1 (nI j)) (by repeat (first | assumption | (refine rg_ne (by first | decide | omega) ?_) | apply rg_eq | refine rg_fr (by assumption) (by first | decide | (simp; omega)) ?_)) rfl rfl rfl ⟨(Nat.le_of_ble_eq_true rfl), (Nat.le_of_ble_eq_true rfl)⟩ (Nat.le_of_ble_eq_true rfl) ⟨(Nat.le_of_ble_eq_true rfl), (Nat.le_of_ble_eq_true rfl)⟩ ?_
    rintro _ _ ⟨rfl, rfl⟩
    refine a_if_ne 13 11 dX11_ofYawn_8 rfl (by decide) (fun c_8 => ?_) (fun c_8 => absurd c_8 (by rw [if_pos (oT_yes hj (by omega))]; decide))
    refine a_iload_n 14 dX11_ofYawn_13 rfl rfl ?_
    rcases (show (d).toInt = 0 ∨ (d).toInt = 1 ∨ ((d).toInt ≠ 0 ∧ (d).toInt ≠ 1) by omega) with w_14 | w_14 | w_14
    · refine a_lookup 40 dX11_ofYawn_14 (by decide) (by rw [w_14] <;> rfl) (by decide) ?_
      refine a_aload_n 41 dX11_ofYawn_40 rfl rfl ?_
      refine a_get fd_X11_53 rfl 44 dX11_ofYawn_41 rfl (by repeat (first | assumption | (refine rg_ne (by first | decide | omega) ?_) | apply rg_eq | refine rg_fr (by assumption) (by first | decide | (simp; omega)) ?_)) rfl ?_
      refine a_iload_n 45 dX11_ofYawn_44 rfl rfl ?_
      refine a_callV ok_X10_minuteOf ln_X11_211 in_X10_minuteOf rfl 48 dX11_ofYawn_45 rfl (c_minute q.1 o hj) (by repeat (first | assumption | (refine rg_ne (by first | decide | omega) ?_) | apply rg_eq | refine rg_fr (by assumption) (by first | decide | (simp; omega)) ?_)) rfl rfl rfl ⟨(Nat.le_of_ble_eq_true rfl), (Nat.le_of_ble_eq_true rfl)⟩ (Nat.le_of_ble_eq_true rfl) ⟨(Nat.le_of_ble_eq_true rfl), (Nat.le_of_ble_eq_true rfl)⟩ ?_
      rintro _ _ ⟨rfl, rfl⟩
      exact a_ireturn dX11_ofYawn_48 rfl rfl (Nat.le_of_ble_eq_true rfl) (Nat.le_of_ble_eq_true rfl) ⟨by rw [ea]; repeat (first | rfl | rw [if_pos (by omega)] | rw [if_neg (by omega)]), q, fun _ _ _ => rfl⟩
    · refine a_lookup 49 dX11_ofYawn_14 (by decide) (by rw [w_14] <;> rfl) (by decide) ?_
      refine a_aload_n 50 dX11_ofYawn_49 rfl rfl ?_
      refine a_get fd_X11_53 rfl 53 dX11_ofYawn_50 rfl (by repeat (first | assumption | (refine rg_ne (by first | decide | omega) ?_) | apply rg_eq | refine rg_fr (by assumption) (by first | decide | (simp; omega)) ?_)) rfl ?_
      refine a_iload_n 54 dX11_ofYawn_53 rfl rfl ?_
      refine a_callV ok_X10_whoOf ln_X11_214 in_X10_whoOf rfl 57 dX11_ofYawn_54 rfl (c_who q.1 o hj) (by repeat (first | assumption | (refine rg_ne (by first | decide | omega) ?_) | apply rg_eq | refine rg_fr (by assumption) (by first | decide | (simp; omega)) ?_)) rfl rfl rfl ⟨(Nat.le_of_ble_eq_true rfl), (Nat.le_of_ble_eq_true rfl)⟩ (Nat.le_of_ble_eq_true rfl) ⟨(Nat.le_of_ble_eq_true rfl), (Nat.le_of_ble_eq_true rfl)⟩ ?_
      rintro _ _ ⟨rfl, rfl⟩
      exact a_ireturn dX11_ofYawn_57 rfl rfl (Nat.le_of_ble_eq_true rfl) (Nat.le_of_ble_eq_true rfl) ⟨by rw [ea]; repeat (first | rfl | rw [if_pos (by omega)] | rw [if_neg (by omega)]), q, fun _ _ _ => rfl⟩
    · refine a_lookup (off := 44) 58 dX11_ofYawn_14 (by decide) (by simp only [Op.lookupswitch.offset_cons, Op.lookupswitch.offset]; repeat (first | rfl | omega | split)) (by decide) ?_
      refine a_bipush (-2) 60 dX11_ofYawn_58 rfl (by decide) ?_
      exact a_ireturn dX11_ofYawn_60 rfl rfl (Nat.le_of_ble_eq_true rfl) (Nat.le_of_ble_eq_true rfl) ⟨by rw [ea]; repeat (first | rfl | rw [if_pos (by omega)] | rw [if_neg (by omega)]), q, fun _ _ _ => rfl⟩
set_option maxRecDepth 100000 in
set_option maxHeartbeats 400000 in
theorem c_ofLaw (q : cAll G h T) (o : T.ok) (c d : Int32) : rM l G 12 mX11_ofLaw 0 0 [.ref (gN G + 0), .int c, .int d] h (fun h' v => v = some (.int (aOfLaw T c d)) ∧ cAll G h' T ∧ kp h h' cL) := by
  have hnl := o.nl6
  have hy := q.1.1
  rcases oT_cases (n := T.nl) (by omega) c with ⟨e, hc⟩ | ⟨z, hz, rfl, e⟩
  · have ea : aOfLaw T c d = -1 := by unfold aOfLaw; rw [e]
    refine rM_start (by decide) (Nat.le_of_ble_eq_true rfl) ?_
    refine a_aload_n 1 dX11_ofLaw_0 rfl rfl ?_
    refine a_iload_n 2 dX11_ofLaw_1 rfl rfl ?_
    refine a_callV ok_X11_lawAt ln_X11_180 in_X11_lawAt rfl 5 dX11_ofLaw_2 rfl (c_lawN q.1 hc) (by repeat (first | assumption | (refine rg_ne (by first | decide | omega) ?_) | apply rg_eq | refine rg_fr (by assumption) (by first | decide | (simp; omega)) ?_)) rfl rfl rfl ⟨(Nat.le_of_ble_eq_true rfl), (Nat.le_of_ble_eq_true rfl)⟩ (Nat.le_of_ble_eq_true rfl) ⟨(Nat.le_of_ble_eq_true rfl), (Nat.le_of_ble_eq_true rfl)⟩ ?_
    rintro _ _ ⟨rfl, rfl⟩
    refine a_astoreN_n 6 dX11_ofLaw_5 rfl (by decide) ?_
    refine a_aloadN_n 7 dX11_ofLaw_6 rfl rfl ?_
    refine a_ifnullN 20 dX11_ofLaw_7 (by decide) ?_
    refine a_iconst (-1) 21 dX11_ofLaw_20 rfl (by decide) ?_
    exact a_ireturn dX11_ofLaw_21 rfl rfl (Nat.le_of_ble_eq_true rfl) (Nat.le_of_ble_eq_true rfl) ⟨by rw [ea], q, fun _ _ _ => rfl⟩
  · obtain ⟨cb, f, ⟨hl1, hl2⟩, hf⟩ := c_lat q.1 hz
    rcases oT_cases (n := 7) (by omega) d with ⟨e2, hd⟩ | ⟨w, hw, rfl, e2⟩
    · have ea : aOfLaw T (nI z) d = -1 := by unfold aOfLaw; rw [e, e2]
      refine rM_start (by decide) (Nat.le_of_ble_eq_true rfl) ?_
      refine a_aload_n 1 dX11_ofLaw_0 rfl rfl ?_
      refine a_iload_n 2 dX11_ofLaw_1 rfl rfl ?_
      refine a_callV ok_X11_lawAt ln_X11_180 in_X11_lawAt rfl 5 dX11_ofLaw_2 rfl (c_law q.1 o hz) (by repeat (first | assumption | (refine rg_ne (by first | decide | omega) ?_) | apply rg_eq | refine rg_fr (by assumption) (by first | decide | (simp; omega)) ?_)) rfl rfl rfl ⟨(Nat.le_of_ble_eq_true rfl), (Nat.le_of_ble_eq_true rfl)⟩ (Nat.le_of_ble_eq_true rfl) ⟨(Nat.le_of_ble_eq_true rfl), (Nat.le_of_ble_eq_true rfl)⟩ ?_
      rintro _ _ ⟨rfl, rfl⟩
      refine a_astore_n 6 dX11_ofLaw_5 rfl (by decide) ?_
      refine a_aload_n 7 dX11_ofLaw_6 rfl rfl ?_
      refine a_ifnull 10 dX11_ofLaw_7 rfl ?_
      refine a_iload_n 11 dX11_ofLaw_10 rfl rfl ?_
      refine a_if_lt 20 14 dX11_ofLaw_11 rfl (by decide) (fun c_11 => ?_) (fun c_11 => ?_)
      · refine a_iconst (-1) 21 dX11_ofLaw_20 rfl (by decide) ?_
        exact a_ireturn dX11_ofLaw_21 rfl rfl (Nat.le_of_ble_eq_true rfl) (Nat.le_of_ble_eq_true rfl) ⟨by rw [ea], q, fun _ _ _ => rfl⟩
      · refine a_iload_n 15 dX11_ofLaw_14 rfl rfl ?_
        refine a_bipush (7) 17 dX11_ofLaw_15 rfl (by decide) ?_
        refine a_icmp_lt 22 20 dX11_ofLaw_17 rfl (by decide) (fun c_17 => absurd c_17 (fun z => hd ⟨Int32.not_lt.mp c_11, z⟩)) (fun c_17 => ?_)
        refine a_iconst (-1) 21 dX11_ofLaw_20 rfl (by decide) ?_
        exact a_ireturn dX11_ofLaw_21 rfl rfl (Nat.le_of_ble_eq_true rfl) (Nat.le_of_ble_eq_true rfl) ⟨by rw [ea], q, fun _ _ _ => rfl⟩
    · have ea : aOfLaw T (nI z) (nI w) = nI (T.nu z w) := by unfold aOfLaw; rw [e, e2]
      have hf2 := hf w hw
      refine rM_start (by decide) (Nat.le_of_ble_eq_true rfl) ?_
      refine a_aload_n 1 dX11_ofLaw_0 rfl rfl ?_
      refine a_iload_n 2 dX11_ofLaw_1 rfl rfl ?_
      refine a_callV ok_X11_lawAt ln_X11_180 in_X11_lawAt rfl 5 dX11_ofLaw_2 rfl (c_law q.1 o hz) (by repeat (first | assumption | (refine rg_ne (by first | decide | omega) ?_) | apply rg_eq | refine rg_fr (by assumption) (by first | decide | (simp; omega)) ?_)) rfl rfl rfl ⟨(Nat.le_of_ble_eq_true rfl), (Nat.le_of_ble_eq_true rfl)⟩ (Nat.le_of_ble_eq_true rfl) ⟨(Nat.le_of_ble_eq_true rfl), (Nat.le_of_ble_eq_true rfl)⟩ ?_
      rintro _ _ ⟨rfl, rfl⟩
      refine a_astore_n 6 dX11_ofLaw_5 rfl (by decide) ?_
      refine a_aload_n 7 dX11_ofLaw_6 rfl rfl ?_
      refine a_ifnull 10 dX11_ofLaw_7 rfl ?_
      refine a_iload_n 11 dX11_ofLaw_10 rfl rfl ?_
      refine a_if_lt 20 14 dX11_ofLaw_11 rfl (by decide) (fun c_11 => absurd c_11 (nI_pos (by omega))) (fun c_11 => ?_)
      refine a_iload_n 15 dX11_ofLaw_14 rfl rfl ?_
      refine a_bipush (7) 17 dX11_ofLaw_15 rfl (by decide) ?_
      refine a_icmp_lt 22 20 dX11_ofLaw_17 rfl (by decide) (fun c_17 => ?_) (fun c_17 => absurd (nI_lt (b := 7) hw (by decide)) c_17)
      refine a_aload_n 23 dX11_ofLaw_22 rfl rfl ?_
      refine a_iload_n 24 dX11_ofLaw_23 rfl rfl ?_
      refine a_callV ok_X5_number ln_X11_184 in_X5_number rfl 27 dX11_ofLaw_24 rfl (k_X5_num hl1 hl2 w hw) (by repeat (first | assumption | (refine rg_ne (by first | decide | omega) ?_) | apply rg_eq | refine rg_fr (by assumption) (by first | decide | (simp; omega)) ?_)) rfl rfl rfl ⟨(Nat.le_of_ble_eq_true rfl), (Nat.le_of_ble_eq_true rfl)⟩ (Nat.le_of_ble_eq_true rfl) ⟨(Nat.le_of_ble_eq_true rfl), (Nat.le_of_ble_eq_true rfl)⟩ ?_
      rintro _ _ ⟨rfl, rfl⟩
      exact a_ireturn dX11_ofLaw_27 rfl rfl (Nat.le_of_ble_eq_true rfl) (Nat.le_of_ble_eq_true rfl) ⟨by rw [ea, hf2], q, fun _ _ _ => rfl⟩
set_option maxRecDepth 100000 in
set_option maxHeartbeats 400000 in
theorem c_might (q : cAll G h T) (o : T.ok) (c d i : Int32) : rM l G 12 mX11_might 0 0 [.ref (gN G + 0), .int c, .int d, .int i] h (fun h' v => v = some (.int (aMight T c d i)) ∧ cAll G h' T ∧ kp h h' cL) := by
  have hnl := o.nl6
  have hm := o.m12
  have hy := q.1.1
  rcases oT_cases (n := T.m) (by omega) d with ⟨e2, hd⟩ | ⟨x, hx, rfl, e2⟩
  · have ea : aMight T c d i = -1 := by unfold aMight; rw [e2]; cases oT T.nl c <;> rfl
    rcases oT_cases (n := T.nl) (by omega) c with ⟨e, hc⟩ | ⟨z, hz, rfl, e⟩
    · skip
      refine rM_start (by decide) (Nat.le_of_ble_eq_true rfl) ?_
      refine a_aload_n 1 dX11_might_0 rfl rfl ?_
      refine a_iload_n 2 dX11_might_1 rfl rfl ?_
      refine a_callV ok_X11_lawAt ln_X11_180 in_X11_lawAt rfl 5 dX11_might_2 rfl (c_lawN q.1 hc) (by repeat (first | assumption | (refine rg_ne (by first | decide | omega) ?_) | apply rg_eq | refine rg_fr (by assumption) (by first | decide | (simp; omega)) ?_)) rfl rfl rfl ⟨(Nat.le_of_ble_eq_true rfl), (Nat.le_of_ble_eq_true rfl)⟩ (Nat.le_of_ble_eq_true rfl) ⟨(Nat.le_of_ble_eq_true rfl), (Nat.le_of_ble_eq_true rfl)⟩ ?_
      rintro _ _ ⟨rfl, rfl⟩
      refine a_astoreN 7 dX11_might_5 rfl (by decide) ?_
      refine a_aload_n 8 dX11_might_7 rfl rfl ?_
      refine a_iload_n 9 dX11_might_8 rfl rfl ?_
      refine a_callV ok_X11_personAt ln_X11_152 in_X11_personAt rfl 12 dX11_might_9 rfl (c_personN q.1 hd) (by repeat (first | assumption | (refine rg_ne (by first | decide | omega) ?_) | apply rg_eq | refine rg_fr (by assumption) (by first | decide | (simp; omega)) ?_)) rfl rfl rfl ⟨(Nat.le_of_ble_eq_true rfl), (Nat.le_of_ble_eq_true rfl)⟩ (Nat.le_of_ble_eq_true rfl) ⟨(Nat.le_of_ble_eq_true rfl), (Nat.le_of_ble_eq_true rfl)⟩ ?_
      rintro _ _ ⟨rfl, rfl⟩
      refine a_astoreN 14 dX11_might_12 rfl (by decide) ?_
      refine a_aloadN 16 dX11_might_14 rfl rfl ?_
      refine a_ifnullN 24 dX11_might_16 (by decide) ?_
      refine a_iconst (-1) 25 dX11_might_24 rfl (by decide) ?_
      exact a_ireturn dX11_might_25 rfl rfl (Nat.le_of_ble_eq_true rfl) (Nat.le_of_ble_eq_true rfl) ⟨by rw [ea], q, fun _ _ _ => rfl⟩
    · skip
      refine rM_start (by decide) (Nat.le_of_ble_eq_true rfl) ?_
      refine a_aload_n 1 dX11_might_0 rfl rfl ?_
      refine a_iload_n 2 dX11_might_1 rfl rfl ?_
      refine a_callV ok_X11_lawAt ln_X11_180 in_X11_lawAt rfl 5 dX11_might_2 rfl (c_law q.1 o hz) (by repeat (first | assumption | (refine rg_ne (by first | decide | omega) ?_) | apply rg_eq | refine rg_fr (by assumption) (by first | decide | (simp; omega)) ?_)) rfl rfl rfl ⟨(Nat.le_of_ble_eq_true rfl), (Nat.le_of_ble_eq_true rfl)⟩ (Nat.le_of_ble_eq_true rfl) ⟨(Nat.le_of_ble_eq_true rfl), (Nat.le_of_ble_eq_true rfl)⟩ ?_
      rintro _ _ ⟨rfl, rfl⟩
      refine a_astore 7 dX11_might_5 rfl (by decide) ?_
      refine a_aload_n 8 dX11_might_7 rfl rfl ?_
      refine a_iload_n 9 dX11_might_8 rfl rfl ?_
      refine a_callV ok_X11_personAt ln_X11_152 in_X11_personAt rfl 12 dX11_might_9 rfl (c_personN q.1 hd) (by repeat (first | assumption | (refine rg_ne (by first | decide | omega) ?_) | apply rg_eq | refine rg_fr (by assumption) (by first | decide | (simp; omega)) ?_)) rfl rfl rfl ⟨(Nat.le_of_ble_eq_true rfl), (Nat.le_of_ble_eq_true rfl)⟩ (Nat.le_of_ble_eq_true rfl) ⟨(Nat.le_of_ble_eq_true rfl), (Nat.le_of_ble_eq_true rfl)⟩ ?_
      rintro _ _ ⟨rfl, rfl⟩
      refine a_astoreN 14 dX11_might_12 rfl (by decide) ?_
      refine a_aload 16 dX11_might_14 rfl rfl ?_
      refine a_ifnull 19 dX11_might_16 rfl ?_
      refine a_aloadN 21 dX11_might_19 rfl rfl ?_
      refine a_ifnonnullN 24 dX11_might_21 rfl ?_
      refine a_iconst (-1) 25 dX11_might_24 rfl (by decide) ?_
      exact a_ireturn dX11_might_25 rfl rfl (Nat.le_of_ble_eq_true rfl) (Nat.le_of_ble_eq_true rfl) ⟨by rw [ea], q, fun _ _ _ => rfl⟩
  · rcases oT_cases (n := T.nl) (by omega) c with ⟨e, hc⟩ | ⟨z, hz, rfl, e⟩
    · have ea : aMight T c (nI x) i = -1 := by unfold aMight; rw [e, e2]
      refine rM_start (by decide) (Nat.le_of_ble_eq_true rfl) ?_
      refine a_aload_n 1 dX11_might_0 rfl rfl ?_
      refine a_iload_n 2 dX11_might_1 rfl rfl ?_
      refine a_callV ok_X11_lawAt ln_X11_180 in_X11_lawAt rfl 5 dX11_might_2 rfl (c_lawN q.1 hc) (by repeat (first | assumption | (refine rg_ne (by first | decide | omega) ?_) | apply rg_eq | refine rg_fr (by assumption) (by first | decide | (simp; omega)) ?_)) rfl rfl rfl ⟨(Nat.le_of_ble_eq_true rfl), (Nat.le_of_ble_eq_true rfl)⟩ (Nat.le_of_ble_eq_true rfl) ⟨(Nat.le_of_ble_eq_true rfl), (Nat.le_of_ble_eq_true rfl)⟩ ?_
      rintro _ _ ⟨rfl, rfl⟩
      refine a_astoreN 7 dX11_might_5 rfl (by decide) ?_
      refine a_aload_n 8 dX11_might_7 rfl rfl ?_
      refine a_iload_n 9 dX11_might_8 rfl rfl ?_
      refine a_callV ok_X11_personAt ln_X11_152 in_X11_personAt rfl 12 dX11_might_9 rfl (c_person q.1 o hx) (by repeat (first | assumption | (refine rg_ne (by first | decide | omega) ?_) | apply rg_eq | refine rg_fr (by assumption) (by first | decide | (simp; omega)) ?_)) rfl rfl rfl ⟨(Nat.le_of_ble_eq_true rfl), (Nat.le_of_ble_eq_true rfl)⟩ (Nat.le_of_ble_eq_true rfl) ⟨(Nat.le_of_ble_eq_true rfl), (Nat.le_of_ble_eq_true rfl)⟩ ?_
      rintro _ _ ⟨rfl, rfl⟩
      refine a_astore 14 dX11_might_12 rfl (by decide) ?_
      refine a_aloadN 16 dX11_might_14 rfl rfl ?_
      refine a_ifnullN 24 dX11_might_16 (by decide) ?_
      refine a_iconst (-1) 25 dX11_might_24 rfl (by decide) ?_
      exact a_ireturn dX11_might_25 rfl rfl (Nat.le_of_ble_eq_true rfl) (Nat.le_of_ble_eq_true rfl) ⟨by rw [ea], q, fun _ _ _ => rfl⟩
    · by_cases hi : i = -9
      · subst hi
        have ea : aMight T (nI z) (nI x) (-9) = nI (T.own z x) := by unfold aMight; rw [e, e2]; dsimp only; rw [if_pos rfl]
        refine rM_start (by decide) (Nat.le_of_ble_eq_true rfl) ?_
        refine a_aload_n 1 dX11_might_0 rfl rfl ?_
        refine a_iload_n 2 dX11_might_1 rfl rfl ?_
        refine a_callV ok_X11_lawAt ln_X11_180 in_X11_lawAt rfl 5 dX11_might_2 rfl (c_law q.1 o hz) (by repeat (first | assumption | (refine rg_ne (by first | decide | omega) ?_) | apply rg_eq | refine rg_fr (by assumption) (by first | decide | (simp; omega)) ?_)) rfl rfl rfl ⟨(Nat.le_of_ble_eq_true rfl), (Nat.le_of_ble_eq_true rfl)⟩ (Nat.le_of_ble_eq_true rfl) ⟨(Nat.le_of_ble_eq_true rfl), (Nat.le_of_ble_eq_true rfl)⟩ ?_
        rintro _ _ ⟨rfl, rfl⟩
        refine a_astore 7 dX11_might_5 rfl (by decide) ?_
        refine a_aload_n 8 dX11_might_7 rfl rfl ?_
        refine a_iload_n 9 dX11_might_8 rfl rfl ?_
        refine a_callV ok_X11_personAt ln_X11_152 in_X11_personAt rfl 12 dX11_might_9 rfl (c_person q.1 o hx) (by repeat (first | assumption | (refine rg_ne (by first | decide | omega) ?_) | apply rg_eq | refine rg_fr (by assumption) (by first | decide | (simp; omega)) ?_)) rfl rfl rfl ⟨(Nat.le_of_ble_eq_true rfl), (Nat.le_of_ble_eq_true rfl)⟩ (Nat.le_of_ble_eq_true rfl) ⟨(Nat.le_of_ble_eq_true rfl), (Nat.le_of_ble_eq_true rfl)⟩ ?_
        rintro _ _ ⟨rfl, rfl⟩
        refine a_astore 14 dX11_might_12 rfl (by decide) ?_
        refine a_aload 16 dX11_might_14 rfl rfl ?_
        refine a_ifnull 19 dX11_might_16 rfl ?_
        refine a_aload 21 dX11_might_19 rfl rfl ?_
        refine a_ifnonnull 26 dX11_might_21 (by decide) ?_
        refine a_iload_n 27 dX11_might_26 rfl rfl ?_
        refine a_bipush (-9) 29 dX11_might_27 rfl (by decide) ?_
        refine a_icmp_ne 41 32 dX11_might_29 rfl (by decide) (fun c_29 => absurd c_29 (fun z => z rfl)) (fun c_29 => ?_)
        refine a_aload_n 33 dX11_might_32 rfl rfl ?_
        refine a_aload 35 dX11_might_33 rfl rfl ?_
        refine a_aload 37 dX11_might_35 rfl rfl ?_
        refine a_callV ok_X11_ownMight ln_X11_187 in_X11_ownMight rfl 40 dX11_might_37 rfl (c_own q.1 o hz hx) (by repeat (first | assumption | (refine rg_ne (by first | decide | omega) ?_) | apply rg_eq | refine rg_fr (by assumption) (by first | decide | (simp; omega)) ?_)) rfl rfl rfl ⟨(Nat.le_of_ble_eq_true rfl), (Nat.le_of_ble_eq_true rfl)⟩ (Nat.le_of_ble_eq_true rfl) ⟨(Nat.le_of_ble_eq_true rfl), (Nat.le_of_ble_eq_true rfl)⟩ ?_
        rintro _ _ ⟨rfl, rfl⟩
        exact a_ireturn dX11_might_40 rfl rfl (Nat.le_of_ble_eq_true rfl) (Nat.le_of_ble_eq_true rfl) ⟨by rw [ea], q, fun _ _ _ => rfl⟩
      · rcases oT_cases (n := T.m) (by omega) i with ⟨e3, hd⟩ | ⟨y, hy0, rfl, e3⟩
        · have ea : aMight T (nI z) (nI x) i = -1 := by unfold aMight; rw [e, e2]; dsimp only; rw [if_neg hi, e3]
          refine rM_start (by decide) (Nat.le_of_ble_eq_true rfl) ?_
          refine a_aload_n 1 dX11_might_0 rfl rfl ?_
          refine a_iload_n 2 dX11_might_1 rfl rfl ?_
          refine a_callV ok_X11_lawAt ln_X11_180 in_X11_lawAt rfl 5 dX11_might_2 rfl (c_law q.1 o hz) (by repeat (first | assumption | (refine rg_ne (by first | decide | omega) ?_) | apply rg_eq | refine rg_fr (by assumption) (by first | decide | (simp; omega)) ?_)) rfl rfl rfl ⟨(Nat.le_of_ble_eq_true rfl), (Nat.le_of_ble_eq_true rfl)⟩ (Nat.le_of_ble_eq_true rfl) ⟨(Nat.le_of_ble_eq_true rfl), (Nat.le_of_ble_eq_true rfl)⟩ ?_
          rintro _ _ ⟨rfl, rfl⟩
          refine a_astore 7 dX11_might_5 rfl (by decide) ?_
          refine a_aload_n 8 dX11_might_7 rfl rfl ?_
          refine a_iload_n 9 dX11_might_8 rfl rfl ?_
          refine a_callV ok_X11_personAt ln_X11_152 in_X11_personAt rfl 12 dX11_might_9 rfl (c_person q.1 o hx) (by repeat (first | assumption | (refine rg_ne (by first | decide | omega) ?_) | apply rg_eq | refine rg_fr (by assumption) (by first | decide | (simp; omega)) ?_)) rfl rfl rfl ⟨(Nat.le_of_ble_eq_true rfl), (Nat.le_of_ble_eq_true rfl)⟩ (Nat.le_of_ble_eq_true rfl) ⟨(Nat.le_of_ble_eq_true rfl), (Nat.le_of_ble_eq_true rfl)⟩ ?_
          rintro _ _ ⟨rfl, rfl⟩
          refine a_astore 14 dX11_might_12 rfl (by decide) ?_
          refine a_aload 16 dX11_might_14 rfl rfl ?_
          refine a_ifnull 19 dX11_might_16 rfl ?_
          refine a_aload 21 dX11_might_19 rfl rfl ?_
          refine a_ifnonnull 26 dX11_might_21 (by decide) ?_
          refine a_iload_n 27 dX11_might_26 rfl rfl ?_
          refine a_bipush (-9) 29 dX11_might_27 rfl (by decide) ?_
          refine a_icmp_ne 41 32 dX11_might_29 rfl (by decide) (fun c_29 => ?_) (fun c_29 => absurd c_29 hi)
          refine a_aload_n 42 dX11_might_41 rfl rfl ?_
          refine a_iload_n 43 dX11_might_42 rfl rfl ?_
          refine a_callV ok_X11_personAt ln_X11_152 in_X11_personAt rfl 46 dX11_might_43 rfl (c_personN q.1 hd) (by repeat (first | assumption | (refine rg_ne (by first | decide | omega) ?_) | apply rg_eq | refine rg_fr (by assumption) (by first | decide | (simp; omega)) ?_)) rfl rfl rfl ⟨(Nat.le_of_ble_eq_true rfl), (Nat.le_of_ble_eq_true rfl)⟩ (Nat.le_of_ble_eq_true rfl) ⟨(Nat.le_of_ble_eq_true rfl), (Nat.le_of_ble_eq_true rfl)⟩ ?_
          rintro _ _ ⟨rfl, rfl⟩
          refine a_astoreN 48 dX11_might_46 rfl (by decide) ?_
          refine a_aloadN 50 dX11_might_48 rfl rfl ?_
          refine a_ifnonnullN 53 dX11_might_50 rfl ?_
          refine a_iconst (-1) 54 dX11_might_53 rfl (by decide) ?_
          exact a_ireturn dX11_might_54 rfl rfl (Nat.le_of_ble_eq_true rfl) (Nat.le_of_ble_eq_true rfl) ⟨by rw [ea], q, fun _ _ _ => rfl⟩
        · have ea : aMight T (nI z) (nI x) (nI y) = if x = y then -2 else nI (T.mi z x y) := by unfold aMight; rw [e, e2]; dsimp only; rw [if_neg hi, e3]
          have exy := nI_eq (a := x) (b := y) (by omega) (by omega)
          refine rM_start (by decide) (Nat.le_of_ble_eq_true rfl) ?_
          refine a_aload_n 1 dX11_might_0 rfl rfl ?_
          refine a_iload_n 2 dX11_might_1 rfl rfl ?_
          refine a_callV ok_X11_lawAt ln_X11_180 in_X11_lawAt rfl 5 dX11_might_2 rfl (c_law q.1 o hz) (by repeat (first | assumption | (refine rg_ne (by first | decide | omega) ?_) | apply rg_eq | refine rg_fr (by assumption) (by first | decide | (simp; omega)) ?_)) rfl rfl rfl ⟨(Nat.le_of_ble_eq_true rfl), (Nat.le_of_ble_eq_true rfl)⟩ (Nat.le_of_ble_eq_true rfl) ⟨(Nat.le_of_ble_eq_true rfl), (Nat.le_of_ble_eq_true rfl)⟩ ?_
          rintro _ _ ⟨rfl, rfl⟩
          refine a_astore 7 dX11_might_5 rfl (by decide) ?_
          refine a_aload_n 8 dX11_might_7 rfl rfl ?_
          refine a_iload_n 9 dX11_might_8 rfl rfl ?_
          refine a_callV ok_X11_personAt ln_X11_152 in_X11_personAt rfl 12 dX11_might_9 rfl (c_person q.1 o hx) (by repeat (first | assumption | (refine rg_ne (by first | decide | omega) ?_) | apply rg_eq | refine rg_fr (by assumption) (by first | decide | (simp; omega)) ?_)) rfl rfl rfl ⟨(Nat.le_of_ble_eq_true rfl), (Nat.le_of_ble_eq_true rfl)⟩ (Nat.le_of_ble_eq_true rfl) ⟨(Nat.le_of_ble_eq_true rfl), (Nat.le_of_ble_eq_true rfl)⟩ ?_
          rintro _ _ ⟨rfl, rfl⟩
          refine a_astore 14 dX11_might_12 rfl (by decide) ?_
          refine a_aload 16 dX11_might_14 rfl rfl ?_
          refine a_ifnull 19 dX11_might_16 rfl ?_
          refine a_aload 21 dX11_might_19 rfl rfl ?_
          refine a_ifnonnull 26 dX11_might_21 (by decide) ?_
          refine a_iload_n 27 dX11_might_26 rfl rfl ?_
          refine a_bipush (-9) 29 dX11_might_27 rfl (by decide) ?_
          refine a_icmp_ne 41 32 dX11_might_29 rfl (by decide) (fun c_29 => ?_) (fun c_29 => absurd c_29 hi)
          refine a_aload_n 42 dX11_might_41 rfl rfl ?_
          refine a_iload_n 43 dX11_might_42 rfl rfl ?_
          refine a_callV ok_X11_personAt ln_X11_152 in_X11_personAt rfl 46 dX11_might_43 rfl (c_person q.1 o hy0) (by repeat (first | assumption | (refine rg_ne (by first | decide | omega) ?_) | apply rg_eq | refine rg_fr (by assumption) (by first | decide | (simp; omega)) ?_)) rfl rfl rfl ⟨(Nat.le_of_ble_eq_true rfl), (Nat.le_of_ble_eq_true rfl)⟩ (Nat.le_of_ble_eq_true rfl) ⟨(Nat.le_of_ble_eq_true rfl), (Nat.le_of_ble_eq_true rfl)⟩ ?_
          rintro _ _ ⟨rfl, rfl⟩
          refine a_astore 48 dX11_might_46 rfl (by decide) ?_
          refine a_aload 50 dX11_might_48 rfl rfl ?_
          refine a_ifnonnull 55 dX11_might_50 (by decide) ?_
          refine a_iload_n 56 dX11_might_55 rfl rfl ?_
          refine a_iload_n 57 dX11_might_56 rfl rfl ?_
          refine a_icmp_ne 65 60 dX11_might_57 rfl (by decide) (fun c_57 => ?_) (fun c_57 => ?_)
          · refine a_aload_n 66 dX11_might_65 rfl rfl ?_
            refine a_aload 68 dX11_might_66 rfl rfl ?_
            refine a_aload 70 dX11_might_68 rfl rfl ?_
            refine a_aload 72 dX11_might_70 rfl rfl ?_
            refine a_callV ok_X11_catchMight ln_X11_191 in_X11_catchMight rfl 75 dX11_might_72 rfl (c_catch q.1 o hz hx hy0) (by repeat (first | assumption | (refine rg_ne (by first | decide | omega) ?_) | apply rg_eq | refine rg_fr (by assumption) (by first | decide | (simp; omega)) ?_)) rfl rfl rfl ⟨(Nat.le_of_ble_eq_true rfl), (Nat.le_of_ble_eq_true rfl)⟩ (Nat.le_of_ble_eq_true rfl) ⟨(Nat.le_of_ble_eq_true rfl), (Nat.le_of_ble_eq_true rfl)⟩ ?_
            rintro _ _ ⟨rfl, rfl⟩
            exact a_ireturn dX11_might_75 rfl rfl (Nat.le_of_ble_eq_true rfl) (Nat.le_of_ble_eq_true rfl) ⟨by rw [ea, if_neg (fun z => c_57 (exy.mpr z))], q, fun _ _ _ => rfl⟩
          · refine a_bipush (-2) 62 dX11_might_60 rfl (by decide) ?_
            refine a_goto 75 dX11_might_62 (by decide) ?_
            exact a_ireturn dX11_might_75 rfl rfl (Nat.le_of_ble_eq_true rfl) (Nat.le_of_ble_eq_true rfl) ⟨by rw [ea, if_pos (exy.mp c_57)], q, fun _ _ _ => rfl⟩
end CONE
