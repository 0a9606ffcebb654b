/-! THE MODEL's calls that change little -/
theorem mX_ft {G : rG} {h h' : rH} {T : Tn} {i i' : Nat → Int32} {j : Nat → Int64} {f t : Int32} (q : mX G h T i j) (e38 : h'[38]? = some (mo G i' j)) (hf : fr h h' [38]) (h0 : i' 0 = f) (h39 : i' 39 = t) (hk : i' 1 = i 1 ∧ i' 2 = i 2 ∧ i' 3 = i 3 ∧ i' 15 = i 15 ∧ i' 20 = i 20 ∧ i' 23 = i 23) : mX G h' (setFT T f t) i' j := by
  obtain ⟨k1, k2, k3, k15, k20, k23⟩ := hk
  obtain ⟨⟨⟨fn, -, a2, a3, a4, a5, a6, a7, a8⟩, b1, b2, b3, b4, b5, ⟨s, b6, b7⟩, b8⟩, ⟨-, c2, c3, ⟨g1, c4, c5⟩, ⟨g2, c6, c7⟩, ⟨g3, c8, c9⟩, ⟨g4, c10, c11⟩⟩, ⟨-, d2, d3, g5, d4, d5⟩, ⟨-, e2, e3, ⟨g6, e4, e5⟩, ⟨g7, e6, e7⟩⟩, q5, q6, -, -, q9⟩ := q
  have hp := kp_fr hf
  exact ⟨⟨⟨fn, e38, k2.trans a2, a3, rg_fr hf (by decide) a4, a5, rg_fr hf (by decide) a6, rg_fr hf (by decide) a7, a8⟩, b1, by rw [k1, k2]; exact b2, k3.trans b3, rg_fr hf (by decide) b4, b5, ⟨s, rg_fr hf (by decide) b6, b7⟩, b8⟩, ⟨e38, k15.trans c2, c3, ⟨g1, rg_fr hf (by decide) c4, c5⟩, ⟨g2, rg_fr hf (by decide) c6, c7⟩, ⟨g3, rg_fr hf (by decide) c8, c9⟩, ⟨g4, rg_fr hf (by decide) c10, c11⟩⟩, ⟨e38, k20.trans d2, d3, g5, rg_fr hf (by decide) d4, d5⟩, ⟨e38, k23.trans e2, e3, ⟨g6, rg_fr hf (by decide) e4, e5⟩, ⟨g7, rg_fr hf (by decide) e6, e7⟩⟩, q5.kp hp (by decide), q6.kp hp (by decide), h0, h39, k1.trans q9⟩
section MONE
variable {l : Launch} {G : rG} {h : rH} {T : Tn}
theorem mX_fa {h' : rH} {i : Nat → Int32} {j : Nat → Int64} {f : Int32} (q : mX G h T i j) (e38 : h'[38]? = some (mo G (upd i 0 f) j)) (hf : fr h h' [38]) : mX G h' (setFT T f T.tr) (upd i 0 f) j := mX_ft q e38 hf rfl q.2.2.2.2.2.2.2.1 ⟨rfl, rfl, rfl, rfl, rfl, rfl⟩
theorem mX_tr {h' : rH} {i : Nat → Int32} {j : Nat → Int64} {t : Int32} (q : mX G h T i j) (e38 : h'[38]? = some (mo G (upd i 39 t) j)) (hf : fr h h' [38]) : mX G h' (setFT T T.fa t) (upd i 39 t) j := mX_ft q e38 hf q.2.2.2.2.2.2.1 rfl ⟨rfl, rfl, rfl, rfl, rfl, rfl⟩
theorem kpm {h' : rH} {S : List Nat} (hf : fr h h' S) (hS : ∀ k ∈ S, k ∈ mL) : kp h h' mL := kp_mono (kp_fr hf) hS
set_option maxRecDepth 100000 in
set_option maxHeartbeats 400000 in
theorem m_trace (q : mAll G h T) : rM l G 12 mX12_trace 0 0 [.ref (gN G + 38)] h (fun h' v => v = some (.int T.tr) ∧ mAll G h' T ∧ kp h h' mL) := by
  obtain ⟨i, j, q⟩ := q
  have hm := q.at
  have e := q.2.2.2.2.2.2.2.1
  refine rM_start (by decide) (Nat.le_of_ble_eq_true rfl) ?_
  refine a_aload_n 1 dX12_trace_0 rfl rfl ?_
  refine a_get fd_X12_327 rfl 4 dX12_trace_1 rfl (by repeat (first | assumption | (refine rg_ne (by first | decide | omega) ?_) | apply rg_eq | refine rg_fr (by assumption) (by first | decide | (simp; omega)) ?_)) rfl ?_
  exact a_ireturn dX12_trace_4 rfl rfl (Nat.le_of_ble_eq_true rfl) (Nat.le_of_ble_eq_true rfl) ⟨by rw [e], ⟨i, j, q⟩, fun _ _ _ => rfl⟩
set_option maxRecDepth 100000 in
set_option maxHeartbeats 400000 in
theorem m_fault (q : mAll G h T) : rM l G 12 mX12_fault 0 0 [.ref (gN G + 38)] h (fun h' v => v = some (.int T.fa) ∧ mAll G h' T ∧ kp h h' mL) := by
  obtain ⟨i, j, q⟩ := q
  have hm := q.at
  have e := q.2.2.2.2.2.2.1
  refine rM_start (by decide) (Nat.le_of_ble_eq_true rfl) ?_
  refine a_aload_n 1 dX12_fault_0 rfl rfl ?_
  refine a_get fd_X12_79 rfl 4 dX12_fault_1 rfl (by repeat (first | assumption | (refine rg_ne (by first | decide | omega) ?_) | apply rg_eq | refine rg_fr (by assumption) (by first | decide | (simp; omega)) ?_)) rfl ?_
  exact a_ireturn dX12_fault_4 rfl rfl (Nat.le_of_ble_eq_true rfl) (Nat.le_of_ble_eq_true rfl) ⟨by rw [e], ⟨i, j, q⟩, fun _ _ _ => rfl⟩
theorem in02 (d : Int32) : ((0 : Int64) ≤ d.toInt64 ∧ d.toInt64 ≤ 2) ↔ (0 ≤ d ∧ d ≤ 2) := by
  rw [in64c d 2 (by decide) rfl, isK_3]
set_option maxRecDepth 100000 in
set_option maxHeartbeats 400000 in
theorem m_as (q : mAll G h T) (o : T.ok) (c d : Int32) : rM l G 12 mX12_as 0 0 [.ref (gN G + 38), .int c, .int d] h (fun h' v => v = some (.int (aAs T c d)) ∧ mAll G h' (setFT T (fAs T c d) T.tr) ∧ kp h h' mL) := by
  obtain ⟨i, j, q⟩ := q
  have hm12 := o.m12
  have hm := q.at
  rcases oT_cases (n := T.m) (by omega) c with ⟨e, hc⟩ | ⟨x, hx, rfl, e⟩
  · have ea : aAs T c d = -1 := by unfold aAs; rw [e]
    have ef : fAs T c d = 0 := by unfold fAs; rw [e]
    refine rM_start (by decide) (Nat.le_of_ble_eq_true rfl) ?_
    refine a_aload_n 1 dX12_as_0 rfl rfl ?_
    refine a_iload_n 2 dX12_as_1 rfl rfl ?_
    refine a_callV ok_X12_noOne ln_X12_194 in_X12_noOne rfl 5 dX12_as_2 rfl (m_noOne q c) (by repeat (first | assumption | (refine rg_ne (by first | decide | omega) ?_) | apply rg_eq | refine rg_fr (by assumption) (by first | decide | (simp; omega)) ?_)) rfl rfl rfl ⟨(Nat.le_of_ble_eq_true rfl), (Nat.le_of_ble_eq_true rfl)⟩ (Nat.le_of_ble_eq_true rfl) ⟨(Nat.le_of_ble_eq_true rfl), (Nat.le_of_ble_eq_true rfl)⟩ ?_
    rintro _ _ ⟨rfl, rfl⟩
    refine a_if_eq 14 8 dX12_as_5 rfl (by decide) (fun c_5 => absurd c_5 (by rw [if_neg hc]; decide)) (fun c_5 => ?_)
    refine a_aload_n 9 dX12_as_8 rfl rfl ?_
    refine a_iconst (-1) 10 dX12_as_9 rfl (by decide) ?_
    refine a_callV ok_X12_refused ln_X12_91 in_X12_refused rfl 13 dX12_as_10 rfl (k_X12_refused hm (-1)) (by repeat (first | assumption | (refine rg_ne (by first | decide | omega) ?_) | apply rg_eq | refine rg_fr (by assumption) (by first | decide | (simp; omega)) ?_)) rfl rfl rfl ⟨(Nat.le_of_ble_eq_true rfl), (Nat.le_of_ble_eq_true rfl)⟩ (Nat.le_of_ble_eq_true rfl) ⟨(Nat.le_of_ble_eq_true rfl), (Nat.le_of_ble_eq_true rfl)⟩ ?_
    rintro h2 v ⟨rfl, hm2, hf2⟩
    exact a_ireturn dX12_as_13 rfl rfl (Nat.le_of_ble_eq_true rfl) (Nat.le_of_ble_eq_true rfl) ⟨by rw [ea], by rw [ef]; exact ⟨_, j, mX_fa q hm2 hf2⟩, kpm hf2 (by decide)⟩
  · have ea : aAs T (nI x) d = if 0 ≤ d ∧ d ≤ 2 then (if nI (T.kd x) < d then -12 else 1) else -2 := by unfold aAs; rw [e]
    have ef : fAs T (nI x) d = if 0 ≤ d ∧ d ≤ 2 then (if nI (T.kd x) < d then 2 else 0) else 0 := by unfold fAs; rw [e]
    obtain ⟨-, -, -, ⟨g, hg, hg2⟩, -⟩ := id q.2.1
    have vx : vp_in (nI x) 12 := vp_in_nI (by omega) (by decide)
    have ex : (nI x).toNatClampNeg = x := nI_clamp (by omega)
    have hgx := (hg2 x hx).1
    have hin := in02 d
    by_cases hd : 0 ≤ d ∧ d ≤ 2
    · rw [if_pos hd] at ea ef
      refine rM_start (by decide) (Nat.le_of_ble_eq_true rfl) ?_
      refine a_aload_n 1 dX12_as_0 rfl rfl ?_
      refine a_iload_n 2 dX12_as_1 rfl rfl ?_
      refine a_callV ok_X12_noOne ln_X12_194 in_X12_noOne rfl 5 dX12_as_2 rfl (m_noOne q (nI x)) (by repeat (first | assumption | (refine rg_ne (by first | decide | omega) ?_) | apply rg_eq | refine rg_fr (by assumption) (by first | decide | (simp; omega)) ?_)) rfl rfl rfl ⟨(Nat.le_of_ble_eq_true rfl), (Nat.le_of_ble_eq_true rfl)⟩ (Nat.le_of_ble_eq_true rfl) ⟨(Nat.le_of_ble_eq_true rfl), (Nat.le_of_ble_eq_true rfl)⟩ ?_
      rintro _ _ ⟨rfl, rfl⟩
      refine a_if_eq 14 8 dX12_as_5 rfl (by decide) (fun c_5 => ?_) (fun c_5 => absurd (if_pos (oT_yes hx (by omega))) c_5)
      refine a_iload_n 15 dX12_as_14 rfl rfl ?_
      refine a_i2l 16 dX12_as_15 rfl ?_
      refine a_lconst (0) 17 dX12_as_16 rfl (by decide) ?_
      refine a_ldc2 (2) 20 dX12_as_17 rfl lk_X12_95 ?_
      refine a_callS ok_X12_in ln_X12_97 is_X12_in rfl 23 dX12_as_20 rfl (k_X12_in _ _ _) rfl rfl ⟨(Nat.le_of_ble_eq_true rfl), (Nat.le_of_ble_eq_true rfl)⟩ (Nat.le_of_ble_eq_true rfl) ⟨(Nat.le_of_ble_eq_true rfl), (Nat.le_of_ble_eq_true rfl)⟩ ?_
      rintro _ _ ⟨rfl, rfl⟩
      refine a_if_ne 33 26 dX12_as_23 rfl (by decide) (fun c_23 => ?_) (fun c_23 => absurd c_23 (by rw [if_pos (hin.mpr hd)]; decide))
      refine a_aload_n 34 dX12_as_33 rfl rfl ?_
      refine a_get fd_X12_29 rfl 37 dX12_as_34 rfl (by repeat (first | assumption | (refine rg_ne (by first | decide | omega) ?_) | apply rg_eq | refine rg_fr (by assumption) (by first | decide | (simp; omega)) ?_)) rfl ?_
      refine a_iload_n 38 dX12_as_37 rfl rfl ?_
      refine a_iaload 39 dX12_as_38 rfl (by repeat (first | assumption | (refine rg_ne (by first | decide | omega) ?_) | apply rg_eq | refine rg_fr (by assumption) (by first | decide | (simp; omega)) ?_)) vx ?_
      rw [ex, hgx]
      refine a_iload_n 40 dX12_as_39 rfl rfl ?_
      refine a_icmp_lt 51 43 dX12_as_40 rfl (by decide) (fun c_40 => ?_) (fun c_40 => ?_)
      · refine a_aload_n 52 dX12_as_51 rfl rfl ?_
        refine a_iconst (2) 53 dX12_as_52 rfl (by decide) ?_
        refine a_callV ok_X12_failed ln_X12_101 in_X12_failed rfl 56 dX12_as_53 rfl (k_X12_failed hm 2) (by repeat (first | assumption | (refine rg_ne (by first | decide | omega) ?_) | apply rg_eq | refine rg_fr (by assumption) (by first | decide | (simp; omega)) ?_)) rfl rfl rfl ⟨(Nat.le_of_ble_eq_true rfl), (Nat.le_of_ble_eq_true rfl)⟩ (Nat.le_of_ble_eq_true rfl) ⟨(Nat.le_of_ble_eq_true rfl), (Nat.le_of_ble_eq_true rfl)⟩ ?_
        rintro h2 v ⟨rfl, hm2, hf2⟩
        exact a_ireturn dX12_as_56 rfl rfl (Nat.le_of_ble_eq_true rfl) (Nat.le_of_ble_eq_true rfl) ⟨by rw [ea, if_pos c_40]; rfl, by rw [ef, if_pos c_40]; exact ⟨_, j, mX_fa q hm2 hf2⟩, kpm hf2 (by decide)⟩
      · refine a_aload_n 44 dX12_as_43 rfl rfl ?_
        refine a_iconst (1) 45 dX12_as_44 rfl (by decide) ?_
        refine a_callV ok_X12_refused ln_X12_91 in_X12_refused rfl 48 dX12_as_45 rfl (k_X12_refused hm 1) (by repeat (first | assumption | (refine rg_ne (by first | decide | omega) ?_) | apply rg_eq | refine rg_fr (by assumption) (by first | decide | (simp; omega)) ?_)) rfl rfl rfl ⟨(Nat.le_of_ble_eq_true rfl), (Nat.le_of_ble_eq_true rfl)⟩ (Nat.le_of_ble_eq_true rfl) ⟨(Nat.le_of_ble_eq_true rfl), (Nat.le_of_ble_eq_true rfl)⟩ ?_
        rintro h2 v ⟨rfl, hm2, hf2⟩
        refine a_goto 56 dX12_as_48 (by decide) ?_
        exact a_ireturn dX12_as_56 rfl rfl (Nat.le_of_ble_eq_true rfl) (Nat.le_of_ble_eq_true rfl) ⟨by rw [ea, if_neg c_40], by rw [ef, if_neg c_40]; exact ⟨_, j, mX_fa q hm2 hf2⟩, kpm hf2 (by decide)⟩
    · rw [if_neg hd] at ea ef
      refine rM_start (by decide) (Nat.le_of_ble_eq_true rfl) ?_
      refine a_aload_n 1 dX12_as_0 rfl rfl ?_
      refine a_iload_n 2 dX12_as_1 rfl rfl ?_
      refine a_callV ok_X12_noOne ln_X12_194 in_X12_noOne rfl 5 dX12_as_2 rfl (m_noOne q (nI x)) (by repeat (first | assumption | (refine rg_ne (by first | decide | omega) ?_) | apply rg_eq | refine rg_fr (by assumption) (by first | decide | (simp; omega)) ?_)) rfl rfl rfl ⟨(Nat.le_of_ble_eq_true rfl), (Nat.le_of_ble_eq_true rfl)⟩ (Nat.le_of_ble_eq_true rfl) ⟨(Nat.le_of_ble_eq_true rfl), (Nat.le_of_ble_eq_true rfl)⟩ ?_
      rintro _ _ ⟨rfl, rfl⟩
      refine a_if_eq 14 8 dX12_as_5 rfl (by decide) (fun c_5 => ?_) (fun c_5 => absurd (if_pos (oT_yes hx (by omega))) c_5)
      refine a_iload_n 15 dX12_as_14 rfl rfl ?_
      refine a_i2l 16 dX12_as_15 rfl ?_
      refine a_lconst (0) 17 dX12_as_16 rfl (by decide) ?_
      refine a_ldc2 (2) 20 dX12_as_17 rfl lk_X12_95 ?_
      refine a_callS ok_X12_in ln_X12_97 is_X12_in rfl 23 dX12_as_20 rfl (k_X12_in _ _ _) rfl rfl ⟨(Nat.le_of_ble_eq_true rfl), (Nat.le_of_ble_eq_true rfl)⟩ (Nat.le_of_ble_eq_true rfl) ⟨(Nat.le_of_ble_eq_true rfl), (Nat.le_of_ble_eq_true rfl)⟩ ?_
      rintro _ _ ⟨rfl, rfl⟩
      refine a_if_ne 33 26 dX12_as_23 rfl (by decide) (fun c_23 => absurd (if_neg (fun v => hd (hin.mp v))) c_23) (fun c_23 => ?_)
      refine a_aload_n 27 dX12_as_26 rfl rfl ?_
      refine a_bipush (-2) 29 dX12_as_27 rfl (by decide) ?_
      refine a_callV ok_X12_refused ln_X12_91 in_X12_refused rfl 32 dX12_as_29 rfl (k_X12_refused hm (-2)) (by repeat (first | assumption | (refine rg_ne (by first | decide | omega) ?_) | apply rg_eq | refine rg_fr (by assumption) (by first | decide | (simp; omega)) ?_)) rfl rfl rfl ⟨(Nat.le_of_ble_eq_true rfl), (Nat.le_of_ble_eq_true rfl)⟩ (Nat.le_of_ble_eq_true rfl) ⟨(Nat.le_of_ble_eq_true rfl), (Nat.le_of_ble_eq_true rfl)⟩ ?_
      rintro h2 v ⟨rfl, hm2, hf2⟩
      exact a_ireturn dX12_as_32 rfl rfl (Nat.le_of_ble_eq_true rfl) (Nat.le_of_ble_eq_true rfl) ⟨by rw [ea], by rw [ef]; exact ⟨_, j, mX_fa q hm2 hf2⟩, kpm hf2 (by decide)⟩
set_option maxRecDepth 100000 in
set_option maxHeartbeats 400000 in
theorem m_wake (q : mAll G h T) (o : T.ok) (c : Int32) : rM l G 12 mX12_wake 0 0 [.ref (gN G + 38), .int c] h (fun h' v => v = some (.int (aWake T c)) ∧ mAll G h' (setFT T T.fa (tWake T c)) ∧ kp h h' mL) := by
  obtain ⟨i, j, q⟩ := q
  have hm12 := o.m12
  have hm := q.at
  rcases oT_cases (n := T.m) (by omega) c with ⟨e, hc⟩ | ⟨x, hx, rfl, e⟩
  · have ea : aWake T c = -1 := by unfold aWake; rw [e]
    have et : tWake T c = T.tr := by unfold tWake; rw [e]
    refine rM_start (by decide) (Nat.le_of_ble_eq_true rfl) ?_
    refine a_aload_n 1 dX12_wake_0 rfl rfl ?_
    refine a_iload_n 2 dX12_wake_1 rfl rfl ?_
    refine a_callV ok_X12_noOne ln_X12_194 in_X12_noOne rfl 5 dX12_wake_2 rfl (m_noOne q c) (by repeat (first | assumption | (refine rg_ne (by first | decide | omega) ?_) | apply rg_eq | refine rg_fr (by assumption) (by first | decide | (simp; omega)) ?_)) rfl rfl rfl ⟨(Nat.le_of_ble_eq_true rfl), (Nat.le_of_ble_eq_true rfl)⟩ (Nat.le_of_ble_eq_true rfl) ⟨(Nat.le_of_ble_eq_true rfl), (Nat.le_of_ble_eq_true rfl)⟩ ?_
    rintro _ _ ⟨rfl, rfl⟩
    refine a_if_eq 10 8 dX12_wake_5 rfl (by decide) (fun c_5 => absurd c_5 (by rw [if_neg hc]; decide)) (fun c_5 => ?_)
    refine a_iconst (-1) 9 dX12_wake_8 rfl (by decide) ?_
    exact a_ireturn dX12_wake_9 rfl rfl (Nat.le_of_ble_eq_true rfl) (Nat.le_of_ble_eq_true rfl) ⟨by rw [ea], by rw [et]; exact ⟨i, j, q⟩, fun _ _ _ => rfl⟩
  · have ea : aWake T (nI x) = if T.kd x = 2 then 80 else nI x := by unfold aWake; rw [e]
    have et : tWake T (nI x) = if T.kd x = 2 then 31 * T.tr + 5 else 31 * T.tr + 4 := by unfold tWake; rw [e]
    obtain ⟨-, -, -, ⟨g, hg, hg2⟩, -⟩ := id q.2.1
    have vx : vp_in (nI x) 12 := vp_in_nI (by omega) (by decide)
    have ex : (nI x).toNatClampNeg = x := nI_clamp (by omega)
    have hgx := (hg2 x hx).1
    have hk3 := o.kd3 hx
    have e2 : nI (T.kd x) = 2 ↔ T.kd x = 2 := by rw [show (2 : Int32) = nI 2 from rfl]; exact nI_eq (by omega) (by omega)
    have htr := q.2.2.2.2.2.2.2.1
    by_cases hk : T.kd x = 2
    · rw [if_pos hk] at ea et
      refine rM_start (by decide) (Nat.le_of_ble_eq_true rfl) ?_
      refine a_aload_n 1 dX12_wake_0 rfl rfl ?_
      refine a_iload_n 2 dX12_wake_1 rfl rfl ?_
      refine a_callV ok_X12_noOne ln_X12_194 in_X12_noOne rfl 5 dX12_wake_2 rfl (m_noOne q (nI x)) (by repeat (first | assumption | (refine rg_ne (by first | decide | omega) ?_) | apply rg_eq | refine rg_fr (by assumption) (by first | decide | (simp; omega)) ?_)) rfl rfl rfl ⟨(Nat.le_of_ble_eq_true rfl), (Nat.le_of_ble_eq_true rfl)⟩ (Nat.le_of_ble_eq_true rfl) ⟨(Nat.le_of_ble_eq_true rfl), (Nat.le_of_ble_eq_true rfl)⟩ ?_
      rintro _ _ ⟨rfl, rfl⟩
      refine a_if_eq 10 8 dX12_wake_5 rfl (by decide) (fun c_5 => ?_) (fun c_5 => absurd (if_pos (oT_yes hx (by omega))) c_5)
      refine a_aload_n 11 dX12_wake_10 rfl rfl ?_
      refine a_aload_n 12 dX12_wake_11 rfl rfl ?_
      refine a_get fd_X12_29 rfl 15 dX12_wake_12 rfl (by repeat (first | assumption | (refine rg_ne (by first | decide | omega) ?_) | apply rg_eq | refine rg_fr (by assumption) (by first | decide | (simp; omega)) ?_)) rfl ?_
      refine a_iload_n 16 dX12_wake_15 rfl rfl ?_
      refine a_iaload 17 dX12_wake_16 rfl (by repeat (first | assumption | (refine rg_ne (by first | decide | omega) ?_) | apply rg_eq | refine rg_fr (by assumption) (by first | decide | (simp; omega)) ?_)) vx ?_
      rw [ex, hgx]
      refine a_iconst (2) 18 dX12_wake_17 rfl (by decide) ?_
      refine a_icmp_ne 25 21 dX12_wake_18 rfl (by decide) (fun c_18 => absurd (e2.mpr hk) c_18) (fun c_18 => ?_)
      refine a_iconst (5) 22 dX12_wake_21 rfl (by decide) ?_
      refine a_goto 26 dX12_wake_22 (by decide) ?_
      refine a_callV ok_X12_traced ln_X12_330 in_X12_traced rfl 29 dX12_wake_26 rfl (k_X12_traced hm 5) (by repeat (first | assumption | (refine rg_ne (by first | decide | omega) ?_) | apply rg_eq | refine rg_fr (by assumption) (by first | decide | (simp; omega)) ?_)) rfl rfl rfl ⟨(Nat.le_of_ble_eq_true rfl), (Nat.le_of_ble_eq_true rfl)⟩ (Nat.le_of_ble_eq_true rfl) ⟨(Nat.le_of_ble_eq_true rfl), (Nat.le_of_ble_eq_true rfl)⟩ ?_
      rintro h2 v ⟨rfl, hm2, hf2⟩
      rw [htr] at hm2
      have hg22 := rg_fr hf2 (by decide) hg
      refine a_aload_n 30 dX12_wake_29 rfl rfl ?_
      refine a_get fd_X12_29 rfl 33 dX12_wake_30 rfl (by repeat (first | assumption | (refine rg_ne (by first | decide | omega) ?_) | apply rg_eq | refine rg_fr (by assumption) (by first | decide | (simp; omega)) ?_)) rfl ?_
      refine a_iload_n 34 dX12_wake_33 rfl rfl ?_
      refine a_iaload 35 dX12_wake_34 rfl (by repeat (first | assumption | (refine rg_ne (by first | decide | omega) ?_) | apply rg_eq | refine rg_fr (by assumption) (by first | decide | (simp; omega)) ?_)) vx ?_
      rw [ex, hgx]
      refine a_iconst (2) 36 dX12_wake_35 rfl (by decide) ?_
      refine a_icmp_ne 44 39 dX12_wake_36 rfl (by decide) (fun c_36 => absurd (e2.mpr hk) c_36) (fun c_36 => ?_)
      refine a_bipush (80) 41 dX12_wake_39 rfl (by decide) ?_
      refine a_goto 45 dX12_wake_41 (by decide) ?_
      exact a_ireturn dX12_wake_45 rfl rfl (Nat.le_of_ble_eq_true rfl) (Nat.le_of_ble_eq_true rfl) ⟨by rw [ea], by rw [et]; exact ⟨_, j, mX_tr q hm2 hf2⟩, kpm hf2 (by decide)⟩
    · rw [if_neg hk] at ea et
      refine rM_start (by decide) (Nat.le_of_ble_eq_true rfl) ?_
      refine a_aload_n 1 dX12_wake_0 rfl rfl ?_
      refine a_iload_n 2 dX12_wake_1 rfl rfl ?_
      refine a_callV ok_X12_noOne ln_X12_194 in_X12_noOne rfl 5 dX12_wake_2 rfl (m_noOne q (nI x)) (by repeat (first | assumption | (refine rg_ne (by first | decide | omega) ?_) | apply rg_eq | refine rg_fr (by assumption) (by first | decide | (simp; omega)) ?_)) rfl rfl rfl ⟨(Nat.le_of_ble_eq_true rfl), (Nat.le_of_ble_eq_true rfl)⟩ (Nat.le_of_ble_eq_true rfl) ⟨(Nat.le_of_ble_eq_true rfl), (Nat.le_of_ble_eq_true rfl)⟩ ?_
      rintro _ _ ⟨rfl, rfl⟩
      refine a_if_eq 10 8 dX12_wake_5 rfl (by decide) (fun c_5 => ?_) (fun c_5 => absurd (if_pos (oT_yes hx (by omega))) c_5)
      refine a_aload_n 11 dX12_wake_10 rfl rfl ?_
      refine a_aload_n 12 dX12_wake_11 rfl rfl ?_
      refine a_get fd_X12_29 rfl 15 dX12_wake_12 rfl (by repeat (first | assumption | (refine rg_ne (by first | decide | omega) ?_) | apply rg_eq | refine rg_fr (by assumption) (by first | decide | (simp; omega)) ?_)) rfl ?_
      refine a_iload_n 16 dX12_wake_15 rfl rfl ?_
      refine a_iaload 17 dX12_wake_16 rfl (by repeat (first | assumption | (refine rg_ne (by first | decide | omega) ?_) | apply rg_eq | refine rg_fr (by assumption) (by first | decide | (simp; omega)) ?_)) vx ?_
      rw [ex, hgx]
      refine a_iconst (2) 18 dX12_wake_17 rfl (by decide) ?_
      refine a_icmp_ne 25 21 dX12_wake_18 rfl (by decide) (fun c_18 => ?_) (fun c_18 => absurd c_18 (fun v => hk (e2.mp v)))
      refine a_iconst (4) 26 dX12_wake_25 rfl (by decide) ?_
      refine a_callV ok_X12_traced ln_X12_330 in_X12_traced rfl 29 dX12_wake_26 rfl (k_X12_traced hm 4) (by repeat (first | assumption | (refine rg_ne (by first | decide | omega) ?_) | apply rg_eq | refine rg_fr (by assumption) (by first | decide | (simp; omega)) ?_)) rfl rfl rfl ⟨(Nat.le_of_ble_eq_true rfl), (Nat.le_of_ble_eq_true rfl)⟩ (Nat.le_of_ble_eq_true rfl) ⟨(Nat.le_of_ble_eq_true rfl), (Nat.le_of_ble_eq_true rfl)⟩ ?_
      rintro h2 v ⟨rfl, hm2, hf2⟩
      rw [htr] at hm2
      have hg22 := rg_fr hf2 (by decide) hg
      refine a_aload_n 30 dX12_wake_29 rfl rfl ?_
      refine a_get fd_X12_29 rfl 33 dX12_wake_30 rfl (by repeat (first | assumption | (refine rg_ne (by first | decide | omega) ?_) | apply rg_eq | refine rg_fr (by assumption) (by first | decide | (simp; omega)) ?_)) rfl ?_
      refine a_iload_n 34 dX12_wake_33 rfl rfl ?_
      refine a_iaload 35 dX12_wake_34 rfl (by repeat (first | assumption | (refine rg_ne (by first | decide | omega) ?_) | apply rg_eq | refine rg_fr (by assumption) (by first | decide | (simp; omega)) ?_)) vx ?_
      rw [ex, hgx]
      refine a_iconst (2) 36 dX12_wake_35 rfl (by decide) ?_
      refine a_icmp_ne 44 39 dX12_wake_36 rfl (by decide) (fun c_36 => ?_) (fun c_36 => absurd c_36 (fun v => hk (e2.mp v)))
      refine a_iload_n 45 dX12_wake_44 rfl rfl ?_
      exact a_ireturn dX12_wake_45 rfl rfl (Nat.le_of_ble_eq_true rfl) (Nat.le_of_ble_eq_true rfl) ⟨by rw [ea], by rw [et]; exact ⟨_, j, mX_tr q hm2 hf2⟩, kpm hf2 (by decide)⟩
set_option maxRecDepth 100000 in
set_option maxHeartbeats 400000 in
theorem m_tell (q : mAll G h T) (o : T.ok) (c : Int32) : rM l G 12 mX12_tell 0 0 [.ref (gN G + 38), .int c] h (fun h' v => v = some (.int (aTell T c)) ∧ mAll G h' (setFT T T.fa (tTell T c)) ∧ kp h h' mL) := by
  obtain ⟨i, j, q⟩ := q
  have hm12 := o.m12
  have hm := q.at
  rcases oT_cases (n := T.m) (by omega) c with ⟨e, hc⟩ | ⟨x, hx, rfl, e⟩
  · have ea : aTell T c = -1 := by unfold aTell; rw [e]
    have et : tTell T c = T.tr := by unfold tTell; rw [e]
    refine rM_start (by decide) (Nat.le_of_ble_eq_true rfl) ?_
    refine a_aload_n 1 dX12_tell_0 rfl rfl ?_
    refine a_iload_n 2 dX12_tell_1 rfl rfl ?_
    refine a_callV ok_X12_noOne ln_X12_194 in_X12_noOne rfl 5 dX12_tell_2 rfl (m_noOne q c) (by repeat (first | assumption | (refine rg_ne (by first | decide | omega) ?_) | apply rg_eq | refine rg_fr (by assumption) (by first | decide | (simp; omega)) ?_)) rfl rfl rfl ⟨(Nat.le_of_ble_eq_true rfl), (Nat.le_of_ble_eq_true rfl)⟩ (Nat.le_of_ble_eq_true rfl) ⟨(Nat.le_of_ble_eq_true rfl), (Nat.le_of_ble_eq_true rfl)⟩ ?_
    rintro _ _ ⟨rfl, rfl⟩
    refine a_if_eq 10 8 dX12_tell_5 rfl (by decide) (fun c_5 => absurd c_5 (by rw [if_neg hc]; decide)) (fun c_5 => ?_)
    refine a_iconst (-1) 9 dX12_tell_8 rfl (by decide) ?_
    exact a_ireturn dX12_tell_9 rfl rfl (Nat.le_of_ble_eq_true rfl) (Nat.le_of_ble_eq_true rfl) ⟨by rw [ea], by rw [et]; exact ⟨i, j, q⟩, fun _ _ _ => rfl⟩
  · have ea : aTell T (nI x) = if T.kd x = 0 then 9 - nI (T.sl x) else if T.kd x = 1 then 9 - nI (T.sl x) + 100 else 9 - nI (T.sl x) + 100 + (9 - nI (T.sl x)) := by unfold aTell; rw [e]
    have et : tTell T (nI x) = if T.kd x = 0 then 31 * T.tr + 1 else if T.kd x = 1 then 31 * (31 * T.tr + 2) + 1 else 31 * (31 * (31 * (31 * T.tr + 3) + 2) + 1) + 1 := by unfold tTell; rw [e]
    obtain ⟨-, -, -, ⟨g, hg, hg2⟩, -, ⟨gs, hs, hs2⟩, -⟩ := id q.2.1
    have vx : vp_in (nI x) 12 := vp_in_nI (by omega) (by decide)
    have ex : (nI x).toNatClampNeg = x := nI_clamp (by omega)
    have hgx := (hg2 x hx).1
    have hsx := (hs2 x hx).1
    have htr := q.2.2.2.2.2.2.2.1
    have hsl := o.sl10 hx
    rcases kd_cases o hx with e3 | e3 | e3
    · rw [e3] at ea et hgx
      refine rM_start (by decide) (Nat.le_of_ble_eq_true rfl) ?_
      refine a_aload_n 1 dX12_tell_0 rfl rfl ?_
      refine a_iload_n 2 dX12_tell_1 rfl rfl ?_
      refine a_callV ok_X12_noOne ln_X12_194 in_X12_noOne rfl 5 dX12_tell_2 rfl (m_noOne q (nI x)) (by repeat (first | assumption | (refine rg_ne (by first | decide | omega) ?_) | apply rg_eq | refine rg_fr (by assumption) (by first | decide | (simp; omega)) ?_)) rfl rfl rfl ⟨(Nat.le_of_ble_eq_true rfl), (Nat.le_of_ble_eq_true rfl)⟩ (Nat.le_of_ble_eq_true rfl) ⟨(Nat.le_of_ble_eq_true rfl), (Nat.le_of_ble_eq_true rfl)⟩ ?_
      rintro _ _ ⟨rfl, rfl⟩
      refine a_if_eq 10 8 dX12_tell_5 rfl (by decide) (fun c_5 => ?_) (fun c_5 => absurd (if_pos (oT_yes hx (by omega))) c_5)
      refine a_aload_n 11 dX12_tell_10 rfl rfl ?_
      refine a_get fd_X12_29 rfl 14 dX12_tell_11 rfl (by repeat (first | assumption | (refine rg_ne (by first | decide | omega) ?_) | apply rg_eq | refine rg_fr (by assumption) (by first | decide | (simp; omega)) ?_)) rfl ?_
      refine a_iload_n 15 dX12_tell_14 rfl rfl ?_
      refine a_iaload 16 dX12_tell_15 rfl (by repeat (first | assumption | (refine rg_ne (by first | decide | omega) ?_) | apply rg_eq | refine rg_fr (by assumption) (by first | decide | (simp; omega)) ?_)) vx ?_
      rw [ex, hgx]
      refine a_istore_n 17 dX12_tell_16 rfl (by decide) ?_
      refine a_iload_n 18 dX12_tell_17 rfl rfl ?_
      refine a_iconst (2) 19 dX12_tell_18 rfl (by decide) ?_
      refine a_icmp_ne 27 22 dX12_tell_19 rfl (by decide) (fun c_19 => ?_) (fun c_19 => absurd c_19 (by decide))
      refine a_iload_n 28 dX12_tell_27 rfl rfl ?_
      refine a_if_le 36 31 dX12_tell_28 rfl (by decide) (fun c_28 => ?_) (fun c_28 => absurd (show nI 0 ≤ 0 by decide) c_28)
      refine a_aload_n 37 dX12_tell_36 rfl rfl ?_
      refine a_iconst (1) 38 dX12_tell_37 rfl (by decide) ?_
      refine a_callV ok_X12_traced ln_X12_330 in_X12_traced rfl 41 dX12_tell_38 rfl (k_X12_traced hm 1) (by repeat (first | assumption | (refine rg_ne (by first | decide | omega) ?_) | apply rg_eq | refine rg_fr (by assumption) (by first | decide | (simp; omega)) ?_)) rfl rfl rfl ⟨(Nat.le_of_ble_eq_true rfl), (Nat.le_of_ble_eq_true rfl)⟩ (Nat.le_of_ble_eq_true rfl) ⟨(Nat.le_of_ble_eq_true rfl), (Nat.le_of_ble_eq_true rfl)⟩ ?_
      rintro h2 v ⟨rfl, hm2, hf2⟩
      rw [htr] at hm2
      have hs22 := rg_fr hf2 (by decide) hs
      refine a_iload_n 42 dX12_tell_41 rfl rfl ?_
      refine a_iconst (2) 43 dX12_tell_42 rfl (by decide) ?_
      refine a_icmp_ne 51 46 dX12_tell_43 rfl (by decide) (fun c_43 => ?_) (fun c_43 => absurd c_43 (by decide))
      refine a_bipush (9) 53 dX12_tell_51 rfl (by decide) ?_
      refine a_aload_n 54 dX12_tell_53 rfl rfl ?_
      refine a_get fd_X12_35 rfl 57 dX12_tell_54 rfl (by repeat (first | assumption | (refine rg_ne (by first | decide | omega) ?_) | apply rg_eq | refine rg_fr (by assumption) (by first | decide | (simp; omega)) ?_)) rfl ?_
      refine a_iload_n 58 dX12_tell_57 rfl rfl ?_
      refine a_iaload 59 dX12_tell_58 rfl (by repeat (first | assumption | (refine rg_ne (by first | decide | omega) ?_) | apply rg_eq | refine rg_fr (by assumption) (by first | decide | (simp; omega)) ?_)) vx ?_
      rw [ex, hsx]
      refine a_isub 60 dX12_tell_59 rfl ?_
      refine a_istore_n 61 dX12_tell_60 rfl (by decide) ?_
      refine a_iload_n 62 dX12_tell_61 rfl rfl ?_
      refine a_if_ne 69 65 dX12_tell_62 rfl (by decide) (fun c_62 => absurd (show nI 0 = 0 by decide) c_62) (fun c_62 => ?_)
      refine a_iload_n 66 dX12_tell_65 rfl rfl ?_
      refine a_goto 87 dX12_tell_66 (by decide) ?_
      exact a_ireturn dX12_tell_87 rfl rfl (Nat.le_of_ble_eq_true rfl) (Nat.le_of_ble_eq_true rfl) ⟨by rw [ea]; rfl, by rw [et]; exact ⟨_, j, mX_tr q hm2 hf2⟩, kpm hf2 (by decide)⟩
    · rw [e3] at ea et hgx
      refine rM_start (by decide) (Nat.le_of_ble_eq_true rfl) ?_
      refine a_aload_n 1 dX12_tell_0 rfl rfl ?_
      refine a_iload_n 2 dX12_tell_1 rfl rfl ?_
      refine a_callV ok_X12_noOne ln_X12_194 in_X12_noOne rfl 5 dX12_tell_2 rfl (m_noOne q (nI x)) (by repeat (first | assumption | (refine rg_ne (by first | decide | omega) ?_) | apply rg_eq | refine rg_fr (by assumption) (by first | decide | (simp; omega)) ?_)) rfl rfl rfl ⟨(Nat.le_of_ble_eq_true rfl), (Nat.le_of_ble_eq_true rfl)⟩ (Nat.le_of_ble_eq_true rfl) ⟨(Nat.le_of_ble_eq_true rfl), (Nat.le_of_ble_eq_true rfl)⟩ ?_
      rintro _ _ ⟨rfl, rfl⟩
      refine a_if_eq 10 8 dX12_tell_5 rfl (by decide) (fun c_5 => ?_) (fun c_5 => absurd (if_pos (oT_yes hx (by omega))) c_5)
      refine a_aload_n 11 dX12_tell_10 rfl rfl ?_
      refine a_get fd_X12_29 rfl 14 dX12_tell_11 rfl (by repeat (first | assumption | (refine rg_ne (by first | decide | omega) ?_) | apply rg_eq | refine rg_fr (by assumption) (by first | decide | (simp; omega)) ?_)) rfl ?_
      refine a_iload_n 15 dX12_tell_14 rfl rfl ?_
      refine a_iaload 16 dX12_tell_15 rfl (by repeat (first | assumption | (refine rg_ne (by first | decide | omega) ?_) | apply rg_eq | refine rg_fr (by assumption) (by first | decide | (simp; omega)) ?_)) vx ?_
      rw [ex, hgx]
      refine a_istore_n 17 dX12_tell_16 rfl (by decide) ?_
      refine a_iload_n 18 dX12_tell_17 rfl rfl ?_
      refine a_iconst (2) 19 dX12_tell_18 rfl (by decide) ?_
      refine a_icmp_ne 27 22 dX12_tell_19 rfl (by decide) (fun c_19 => ?_) (fun c_19 => absurd c_19 (by decide))
      refine a_iload_n 28 dX12_tell_27 rfl rfl ?_
      refine a_if_le 36 31 dX12_tell_28 rfl (by decide) (fun c_28 => absurd c_28 (by decide)) (fun c_28 => ?_)
      refine a_aload_n 32 dX12_tell_31 rfl rfl ?_
      refine a_iconst (2) 33 dX12_tell_32 rfl (by decide) ?_
      refine a_callV ok_X12_traced ln_X12_330 in_X12_traced rfl 36 dX12_tell_33 rfl (k_X12_traced hm 2) (by repeat (first | assumption | (refine rg_ne (by first | decide | omega) ?_) | apply rg_eq | refine rg_fr (by assumption) (by first | decide | (simp; omega)) ?_)) rfl rfl rfl ⟨(Nat.le_of_ble_eq_true rfl), (Nat.le_of_ble_eq_true rfl)⟩ (Nat.le_of_ble_eq_true rfl) ⟨(Nat.le_of_ble_eq_true rfl), (Nat.le_of_ble_eq_true rfl)⟩ ?_
      rintro h2 v ⟨rfl, hm2, hf2⟩
      rw [htr] at hm2
      have q2 := mX_tr q hm2 hf2
      refine a_aload_n 37 dX12_tell_36 rfl rfl ?_
      refine a_iconst (1) 38 dX12_tell_37 rfl (by decide) ?_
      refine a_callV ok_X12_traced ln_X12_330 in_X12_traced rfl 41 dX12_tell_38 rfl (k_X12_traced hm2 1) (by repeat (first | assumption | (refine rg_ne (by first | decide | omega) ?_) | apply rg_eq | refine rg_fr (by assumption) (by first | decide | (simp; omega)) ?_)) rfl rfl rfl ⟨(Nat.le_of_ble_eq_true rfl), (Nat.le_of_ble_eq_true rfl)⟩ (Nat.le_of_ble_eq_true rfl) ⟨(Nat.le_of_ble_eq_true rfl), (Nat.le_of_ble_eq_true rfl)⟩ ?_
      rintro h3 v ⟨rfl, hm3, hf3⟩
      have hs22 := rg_fr (fr_trans hf2 hf3 (by decide)) (by decide) hs
      refine a_iload_n 42 dX12_tell_41 rfl rfl ?_
      refine a_iconst (2) 43 dX12_tell_42 rfl (by decide) ?_
      refine a_icmp_ne 51 46 dX12_tell_43 rfl (by decide) (fun c_43 => ?_) (fun c_43 => absurd c_43 (by decide))
      refine a_bipush (9) 53 dX12_tell_51 rfl (by decide) ?_
      refine a_aload_n 54 dX12_tell_53 rfl rfl ?_
      refine a_get fd_X12_35 rfl 57 dX12_tell_54 rfl (by repeat (first | assumption | (refine rg_ne (by first | decide | omega) ?_) | apply rg_eq | refine rg_fr (by assumption) (by first | decide | (simp; omega)) ?_)) rfl ?_
      refine a_iload_n 58 dX12_tell_57 rfl rfl ?_
      refine a_iaload 59 dX12_tell_58 rfl (by repeat (first | assumption | (refine rg_ne (by first | decide | omega) ?_) | apply rg_eq | refine rg_fr (by assumption) (by first | decide | (simp; omega)) ?_)) vx ?_
      rw [ex, hsx]
      refine a_isub 60 dX12_tell_59 rfl ?_
      refine a_istore_n 61 dX12_tell_60 rfl (by decide) ?_
      refine a_iload_n 62 dX12_tell_61 rfl rfl ?_
      refine a_if_ne 69 65 dX12_tell_62 rfl (by decide) (fun c_62 => ?_) (fun c_62 => absurd c_62 (by decide))
      refine a_iload_n 70 dX12_tell_69 rfl rfl ?_
      refine a_iconst (1) 71 dX12_tell_70 rfl (by decide) ?_
      refine a_icmp_ne 81 74 dX12_tell_71 rfl (by decide) (fun c_71 => absurd (show nI 1 = 1 by decide) c_71) (fun c_71 => ?_)
      refine a_iload_n 75 dX12_tell_74 rfl rfl ?_
      refine a_bipush (100) 77 dX12_tell_75 rfl (by decide) ?_
      refine a_iadd 78 dX12_tell_77 rfl ?_
      refine a_goto 87 dX12_tell_78 (by decide) ?_
      exact a_ireturn dX12_tell_87 rfl rfl (Nat.le_of_ble_eq_true rfl) (Nat.le_of_ble_eq_true rfl) ⟨by rw [ea]; rfl, by rw [et]; exact ⟨_, j, mX_tr (T := setFT T T.fa (31 * T.tr + 2)) q2 hm3 hf3⟩, kpm (fr_trans hf2 hf3 (by decide)) (by decide)⟩
    · rw [e3] at ea et hgx
      have e2n : (2 : Int32) * (9 - nI (T.sl x)) + 100 = 9 - nI (T.sl x) + 100 + (9 - nI (T.sl x)) := by
        rw [show (9 : Int32) = nI 9 from rfl, pk_sub (by omega), show (2 : Int32) = nI 2 from rfl, show (100 : Int32) = nI 100 from rfl, pk_mul, nI_add, nI_add, nI_add]
        congr 1
        omega
      refine rM_start (by decide) (Nat.le_of_ble_eq_true rfl) ?_
      refine a_aload_n 1 dX12_tell_0 rfl rfl ?_
      refine a_iload_n 2 dX12_tell_1 rfl rfl ?_
      refine a_callV ok_X12_noOne ln_X12_194 in_X12_noOne rfl 5 dX12_tell_2 rfl (m_noOne q (nI x)) (by repeat (first | assumption | (refine rg_ne (by first | decide | omega) ?_) | apply rg_eq | refine rg_fr (by assumption) (by first | decide | (simp; omega)) ?_)) rfl rfl rfl ⟨(Nat.le_of_ble_eq_true rfl), (Nat.le_of_ble_eq_true rfl)⟩ (Nat.le_of_ble_eq_true rfl) ⟨(Nat.le_of_ble_eq_true rfl), (Nat.le_of_ble_eq_true rfl)⟩ ?_
      rintro _ _ ⟨rfl, rfl⟩
      refine a_if_eq 10 8 dX12_tell_5 rfl (by decide) (fun c_5 => ?_) (fun c_5 => absurd (if_pos (oT_yes hx (by omega))) c_5)
      refine a_aload_n 11 dX12_tell_10 rfl rfl ?_
      refine a_get fd_X12_29 rfl 14 dX12_tell_11 rfl (by repeat (first | assumption | (refine rg_ne (by first | decide | omega) ?_) | apply rg_eq | refine rg_fr (by assumption) (by first | decide | (simp; omega)) ?_)) rfl ?_
      refine a_iload_n 15 dX12_tell_14 rfl rfl ?_
      refine a_iaload 16 dX12_tell_15 rfl (by repeat (first | assumption | (refine rg_ne (by first | decide | omega) ?_) | apply rg_eq | refine rg_fr (by assumption) (by first | decide | (simp; omega)) ?_)) vx ?_
      rw [ex, hgx]
      refine a_istore_n 17 dX12_tell_16 rfl (by decide) ?_
      refine a_iload_n 18 dX12_tell_17 rfl rfl ?_
      refine a_iconst (2) 19 dX12_tell_18 rfl (by decide) ?_
      refine a_icmp_ne 27 22 dX12_tell_19 rfl (by decide) (fun c_19 => absurd (show nI 2 = 2 by decide) c_19) (fun c_19 => ?_)
      refine a_aload_n 23 dX12_tell_22 rfl rfl ?_
      refine a_iconst (3) 24 dX12_tell_23 rfl (by decide) ?_
      refine a_callV ok_X12_traced ln_X12_330 in_X12_traced rfl 27 dX12_tell_24 rfl (k_X12_traced hm 3) (by repeat (first | assumption | (refine rg_ne (by first | decide | omega) ?_) | apply rg_eq | refine rg_fr (by assumption) (by first | decide | (simp; omega)) ?_)) rfl rfl rfl ⟨(Nat.le_of_ble_eq_true rfl), (Nat.le_of_ble_eq_true rfl)⟩ (Nat.le_of_ble_eq_true rfl) ⟨(Nat.le_of_ble_eq_true rfl), (Nat.le_of_ble_eq_true rfl)⟩ ?_
      rintro h2 v ⟨rfl, hm2, hf2⟩
      rw [htr] at hm2
      have q2 := mX_tr q hm2 hf2
      refine a_iload_n 28 dX12_tell_27 rfl rfl ?_
      refine a_if_le 36 31 dX12_tell_28 rfl (by decide) (fun c_28 => absurd c_28 (by decide)) (fun c_28 => ?_)
      refine a_aload_n 32 dX12_tell_31 rfl rfl ?_
      refine a_iconst (2) 33 dX12_tell_32 rfl (by decide) ?_
      refine a_callV ok_X12_traced ln_X12_330 in_X12_traced rfl 36 dX12_tell_33 rfl (k_X12_traced hm2 2) (by repeat (first | assumption | (refine rg_ne (by first | decide | omega) ?_) | apply rg_eq | refine rg_fr (by assumption) (by first | decide | (simp; omega)) ?_)) rfl rfl rfl ⟨(Nat.le_of_ble_eq_true rfl), (Nat.le_of_ble_eq_true rfl)⟩ (Nat.le_of_ble_eq_true rfl) ⟨(Nat.le_of_ble_eq_true rfl), (Nat.le_of_ble_eq_true rfl)⟩ ?_
      rintro h3 v ⟨rfl, hm3, hf3⟩
      have q3 := mX_tr q2 hm3 hf3
      refine a_aload_n 37 dX12_tell_36 rfl rfl ?_
      refine a_iconst (1) 38 dX12_tell_37 rfl (by decide) ?_
      refine a_callV ok_X12_traced ln_X12_330 in_X12_traced rfl 41 dX12_tell_38 rfl (k_X12_traced hm3 1) (by repeat (first | assumption | (refine rg_ne (by first | decide | omega) ?_) | apply rg_eq | refine rg_fr (by assumption) (by first | decide | (simp; omega)) ?_)) rfl rfl rfl ⟨(Nat.le_of_ble_eq_true rfl), (Nat.le_of_ble_eq_true rfl)⟩ (Nat.le_of_ble_eq_true rfl) ⟨(Nat.le_of_ble_eq_true rfl), (Nat.le_of_ble_eq_true rfl)⟩ ?_
      rintro h4 v ⟨rfl, hm4, hf4⟩
      have q4 := mX_tr q3 hm4 hf4
      refine a_iload_n 42 dX12_tell_41 rfl rfl ?_
      refine a_iconst (2) 43 dX12_tell_42 rfl (by decide) ?_
      refine a_icmp_ne 51 46 dX12_tell_43 rfl (by decide) (fun c_43 => absurd (show nI 2 = 2 by decide) c_43) (fun c_43 => ?_)
      refine a_aload_n 47 dX12_tell_46 rfl rfl ?_
      refine a_iconst (1) 48 dX12_tell_47 rfl (by decide) ?_
      refine a_callV ok_X12_traced ln_X12_330 in_X12_traced rfl 51 dX12_tell_48 rfl (k_X12_traced hm4 1) (by repeat (first | assumption | (refine rg_ne (by first | decide | omega) ?_) | apply rg_eq | refine rg_fr (by assumption) (by first | decide | (simp; omega)) ?_)) rfl rfl rfl ⟨(Nat.le_of_ble_eq_true rfl), (Nat.le_of_ble_eq_true rfl)⟩ (Nat.le_of_ble_eq_true rfl) ⟨(Nat.le_of_ble_eq_true rfl), (Nat.le_of_ble_eq_true rfl)⟩ ?_
      rintro h5 v ⟨rfl, hm5, hf5⟩
      have q5 := mX_tr q4 hm5 hf5
      have ff := fr_trans (fr_trans (fr_trans hf2 hf3 (by decide)) hf4 (by decide)) hf5 (by decide)
      have hs22 := rg_fr ff (by decide) hs
      refine a_bipush (9) 53 dX12_tell_51 rfl (by decide) ?_
      refine a_aload_n 54 dX12_tell_53 rfl rfl ?_
      refine a_get fd_X12_35 rfl 57 dX12_tell_54 rfl (by repeat (first | assumption | (refine rg_ne (by first | decide | omega) ?_) | apply rg_eq | refine rg_fr (by assumption) (by first | decide | (simp; omega)) ?_)) rfl ?_
      refine a_iload_n 58 dX12_tell_57 rfl rfl ?_
      refine a_iaload 59 dX12_tell_58 rfl (by repeat (first | assumption | (refine rg_ne (by first | decide | omega) ?_) | apply rg_eq | refine rg_fr (by assumption) (by first | decide | (simp; omega)) ?_)) vx ?_
      rw [ex, hsx]
      refine a_isub 60 dX12_tell_59 rfl ?_
      refine a_istore_n 61 dX12_tell_60 rfl (by decide) ?_
      refine a_iload_n 62 dX12_tell_61 rfl rfl ?_
      refine a_if_ne 69 65 dX12_tell_62 rfl (by decide) (fun c_62 => ?_) (fun c_62 => absurd c_62 (by decide))
      refine a_iload_n 70 dX12_tell_69 rfl rfl ?_
      refine a_iconst (1) 71 dX12_tell_70 rfl (by decide) ?_
      refine a_icmp_ne 81 74 dX12_tell_71 rfl (by decide) (fun c_71 => ?_) (fun c_71 => absurd c_71 (by decide))
      refine a_iconst (2) 82 dX12_tell_81 rfl (by decide) ?_
      refine a_iload_n 83 dX12_tell_82 rfl rfl ?_
      refine a_imul 84 dX12_tell_83 rfl ?_
      refine a_bipush (100) 86 dX12_tell_84 rfl (by decide) ?_
      refine a_iadd 87 dX12_tell_86 rfl ?_
      rw [e2n]
      exact a_ireturn dX12_tell_87 rfl rfl (Nat.le_of_ble_eq_true rfl) (Nat.le_of_ble_eq_true rfl) ⟨by rw [ea]; rfl, by rw [et]; exact ⟨_, j, q5⟩, kpm ff (by decide)⟩
end MONE
