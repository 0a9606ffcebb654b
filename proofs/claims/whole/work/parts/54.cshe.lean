/-! THE CLASS's calls on sheets, on -/
theorem sheet_n {n : Int32} (h0 : ¬ n < 0) (h1 : n ≤ 60) : ∃ k : Nat, k ≤ 60 ∧ n = nI k := nI_of2 (M := 60) (n := 60) rfl h0 h1
section CSHE2
variable {l : Launch} {G : rG} {h : rH} {T : Tn}
theorem q_fa0 (q : cAll G h T) : cAll G (h.set 0 (ytc G (nI T.m) (nI T.nl) 0 T.tr)) (setFT T 0 T.tr) := all_0 q (rg_eq q.1.1) (kp_fr (fr_set (fr_refl _ _) (by decide)))
theorem kp_0L {h h1 : rH} (hf : fr h h1 [0]) : kp h h1 cL := kp_mono (kp_fr hf) (by decide)
set_option maxRecDepth 100000 in
set_option maxHeartbeats 400000 in
theorem c_sheetC (q : cAll G h T) (c d n : Int32) : rM l G 12 mX11_sheet 0 0 [.ref (gN G + 0), .int c, .int d, .int n] h (fun h' v => v = some (.int (aSheet T c d n)) ∧ cAll G h' (tSheet T c d n) ∧ kp h h' cL) := by
  have hy := q.1.1
  have q0 := q_fa0 q
  have hy0 := q0.1.1
  have f0 : fr h (h.set 0 (ytc G (nI T.m) (nI T.nl) 0 T.tr)) [0] := fr_set (fr_refl _ _) (by decide)
  rcases oT_cases (n := 4) (by decide) c with ⟨e, hc⟩ | ⟨z, hz, rfl, e⟩
  · have ea : aSheet T c d n = -1 := by unfold aSheet; rw [e]
    have et : tSheet T c d n = setFT T 0 T.tr := by unfold tSheet; rw [e]
    refine rM_start (by decide) (Nat.le_of_ble_eq_true rfl) ?_
    refine a_aload_n 1 dX11_sheet_0 rfl rfl ?_
    refine a_iconst (0) 2 dX11_sheet_1 rfl (by decide) ?_
    refine a_put fd_X11_268 cl_X11 rfl 5 dX11_sheet_2 rfl (by repeat (first | assumption | (refine rg_ne (by first | decide | omega) ?_) | apply rg_eq | refine rg_fr (by assumption) (by first | decide | (simp; omega)) ?_)) (Nat.le_of_ble_eq_true rfl) rfl rfl rfl ?_
    refine a_aload_n 6 dX11_sheet_5 rfl rfl ?_
    refine a_iload_n 7 dX11_sheet_6 rfl rfl ?_
    refine a_callV ok_X11_sheetAt ln_X11_86 in_X11_sheetAt rfl 10 dX11_sheet_7 rfl (c_sheetN q0.1 hc) (by repeat (first | assumption | (refine rg_ne (by first | decide | omega) ?_) | apply rg_eq | refine rg_fr (by assumption) (by first | decide | (simp; omega)) ?_)) rfl rfl rfl ⟨(Nat.le_of_ble_eq_true rfl), (Nat.le_of_ble_eq_true rfl)⟩ (Nat.le_of_ble_eq_true rfl) ⟨(Nat.le_of_ble_eq_true rfl), (Nat.le_of_ble_eq_true rfl)⟩ ?_
    rintro _ _ ⟨rfl, rfl⟩
    refine a_astoreN 12 dX11_sheet_10 rfl (by decide) ?_
    refine a_aloadN 14 dX11_sheet_12 rfl rfl ?_
    refine a_ifnonnullN 17 dX11_sheet_14 rfl ?_
    refine a_iconst (-1) 18 dX11_sheet_17 rfl (by decide) ?_
    exact a_ireturn dX11_sheet_18 rfl rfl (Nat.le_of_ble_eq_true rfl) (Nat.le_of_ble_eq_true rfl) ⟨by rw [ea], by rw [et]; exact q0, kp_0L f0⟩
  · have ea : aSheet T (nI z) d n = if laneI d ∧ n ≤ 60 then (if n < 0 then -14 else 1) else -2 := by unfold aSheet; rw [e]
    have et : tSheet T (nI z) d n = if laneI d ∧ n ≤ 60 then (if n < 0 then setFT T 4 T.tr else setS T 0 z true d n.toNatClampNeg (fun _ => 0)) else setFT T 0 T.tr := by unfold tSheet; rw [e]
    obtain ⟨hs, f, hf, hfx⟩ := sh_at q0 hz
    refine rM_start (by decide) (Nat.le_of_ble_eq_true rfl) ?_
    refine a_aload_n 1 dX11_sheet_0 rfl rfl ?_
    refine a_iconst (0) 2 dX11_sheet_1 rfl (by decide) ?_
    refine a_put fd_X11_268 cl_X11 rfl 5 dX11_sheet_2 rfl (by repeat (first | assumption | (refine rg_ne (by first | decide | omega) ?_) | apply rg_eq | refine rg_fr (by assumption) (by first | decide | (simp; omega)) ?_)) (Nat.le_of_ble_eq_true rfl) rfl rfl rfl ?_
    refine a_aload_n 6 dX11_sheet_5 rfl rfl ?_
    refine a_iload_n 7 dX11_sheet_6 rfl rfl ?_
    refine a_callV ok_X11_sheetAt ln_X11_86 in_X11_sheetAt rfl 10 dX11_sheet_7 rfl (c_sheet q0.1 hz) (by repeat (first | assumption | (refine rg_ne (by first | decide | omega) ?_) | apply rg_eq | refine rg_fr (by assumption) (by first | decide | (simp; omega)) ?_)) rfl rfl rfl ⟨(Nat.le_of_ble_eq_true rfl), (Nat.le_of_ble_eq_true rfl)⟩ (Nat.le_of_ble_eq_true rfl) ⟨(Nat.le_of_ble_eq_true rfl), (Nat.le_of_ble_eq_true rfl)⟩ ?_
    rintro _ _ ⟨rfl, rfl⟩
    refine a_astore 12 dX11_sheet_10 rfl (by decide) ?_
    refine a_aload 14 dX11_sheet_12 rfl rfl ?_
    refine a_ifnonnull 19 dX11_sheet_14 (by decide) ?_
    refine a_iload_n 20 dX11_sheet_19 rfl rfl ?_
    refine a_callS ok_X11_isLane ln_X11_320 is_X11_isLane rfl 23 dX11_sheet_20 rfl (k_X11_isLane d) rfl rfl ⟨(Nat.le_of_ble_eq_true rfl), (Nat.le_of_ble_eq_true rfl)⟩ (Nat.le_of_ble_eq_true rfl) ⟨(Nat.le_of_ble_eq_true rfl), (Nat.le_of_ble_eq_true rfl)⟩ ?_
    rintro _ _ ⟨rfl, rfl⟩
    refine a_if_eq 32 26 dX11_sheet_23 rfl (by decide) (fun c_23 => ?_) (fun c_23 => ?_)
    · refine a_bipush (-2) 34 dX11_sheet_32 rfl (by decide) ?_
      exact a_ireturn dX11_sheet_34 rfl rfl (Nat.le_of_ble_eq_true rfl) (Nat.le_of_ble_eq_true rfl) ⟨by rw [ea, if_neg (fun z => b_eq0.mp c_23 z.1)], by rw [et, if_neg (fun z => b_eq0.mp c_23 z.1)]; exact q0, kp_0L f0⟩
    · refine a_iload_n 27 dX11_sheet_26 rfl rfl ?_
      refine a_bipush (60) 29 dX11_sheet_27 rfl (by decide) ?_
      refine a_icmp_le 35 32 dX11_sheet_29 rfl (by decide) (fun c_29 => ?_) (fun c_29 => ?_)
      · refine a_iload_n 36 dX11_sheet_35 rfl rfl ?_
        refine a_if_ge 45 39 dX11_sheet_36 rfl (by decide) (fun c_36 => ?_) (fun c_36 => ?_)
        · refine a_aload 47 dX11_sheet_45 rfl rfl ?_
          refine a_iload_n 48 dX11_sheet_47 rfl rfl ?_
          refine a_iload_n 49 dX11_sheet_48 rfl rfl ?_
          refine a_callV ok_X8_renew ln_X11_326 in_X8_renew rfl 52 dX11_sheet_49 rfl (k_X8_renew (by omega) hs hf d n) (by repeat (first | assumption | (refine rg_ne (by first | decide | omega) ?_) | apply rg_eq | refine rg_fr (by assumption) (by first | decide | (simp; omega)) ?_)) rfl rfl rfl ⟨(Nat.le_of_ble_eq_true rfl), (Nat.le_of_ble_eq_true rfl)⟩ (Nat.le_of_ble_eq_true rfl) ⟨(Nat.le_of_ble_eq_true rfl), (Nat.le_of_ble_eq_true rfl)⟩ ?_
          rintro h1 _ ⟨rfl, hs1, ⟨g, hg, hg0⟩, hf1⟩
          have hn60 := sheet_n (Int32.not_lt.mpr c_36) c_29
          obtain ⟨k, hk60, ek⟩ := hn60
          have hk1 : kp h h1 [0, 30 + 2 * z, 31 + 2 * z] := kp_fr (fr_trans (fr_mono f0 (by simp)) hf1 (by simp))
          have hy1 : h1[0]? = some (ytc G (nI T.m) (nI T.nl) 0 T.tr) := (hf1.2 0 (by simp; omega)).trans hy0
          refine a_iconst (1) 53 dX11_sheet_52 rfl (by decide) ?_
          exact a_ireturn dX11_sheet_53 rfl rfl (Nat.le_of_ble_eq_true rfl) (Nat.le_of_ble_eq_true rfl) ⟨by rw [ea, if_pos ⟨Decidable.not_not.mp (fun z => c_23 (if_neg z)), c_29⟩, if_neg (Int32.not_lt.mpr c_36)], by rw [et, if_pos ⟨Decidable.not_not.mp (fun z => c_23 (if_neg z)), c_29⟩, if_neg (Int32.not_lt.mpr c_36)]; exact all_S q hz hy1 (by rw [hs1, ek, nI_clamp (by omega)]; rfl) ⟨g, hg, fun j hj => hg0 j (by rw [ek, nI_clamp (by omega)] at hj; omega)⟩ hk1, kp_S hz hk1⟩
        · refine a_aload_n 40 dX11_sheet_39 rfl rfl ?_
          refine a_iconst (4) 41 dX11_sheet_40 rfl (by decide) ?_
          refine a_callV ok_X11_faulted ln_X11_323 in_X11_faulted rfl 44 dX11_sheet_41 rfl (k_X11_faulted hy0 4) (by repeat (first | assumption | (refine rg_ne (by first | decide | omega) ?_) | apply rg_eq | refine rg_fr (by assumption) (by first | decide | (simp; omega)) ?_)) rfl rfl rfl ⟨(Nat.le_of_ble_eq_true rfl), (Nat.le_of_ble_eq_true rfl)⟩ (Nat.le_of_ble_eq_true rfl) ⟨(Nat.le_of_ble_eq_true rfl), (Nat.le_of_ble_eq_true rfl)⟩ ?_
          rintro h1 _ ⟨rfl, hy1, hf1⟩
          exact a_ireturn dX11_sheet_44 rfl rfl (Nat.le_of_ble_eq_true rfl) (Nat.le_of_ble_eq_true rfl) ⟨by rw [ea, if_pos ⟨Decidable.not_not.mp (fun z => c_23 (if_neg z)), c_29⟩, if_pos (Int32.not_le.mp c_36)]; rfl, by rw [et, if_pos ⟨Decidable.not_not.mp (fun z => c_23 (if_neg z)), c_29⟩, if_pos (Int32.not_le.mp c_36)]; exact all_0 (T := setFT T 0 T.tr) q0 hy1 (kp_fr hf1), kp_0L (fr_trans f0 hf1 (by decide))⟩
      · refine a_bipush (-2) 34 dX11_sheet_32 rfl (by decide) ?_
        exact a_ireturn dX11_sheet_34 rfl rfl (Nat.le_of_ble_eq_true rfl) (Nat.le_of_ble_eq_true rfl) ⟨by rw [ea, if_neg (fun z => c_29 z.2)], by rw [et, if_neg (fun z => c_29 z.2)]; exact q0, kp_0L f0⟩
set_option maxRecDepth 100000 in
set_option maxHeartbeats 400000 in
theorem c_put (q : cAll G h T) (o : T.ok) (c i v : Int32) : rM l G 12 mX11_put 0 0 [.ref (gN G + 0), .int c, .int i, .int v] h (fun h' w => w = some (.int (aPut T c i v)) ∧ cAll G h' (tPut T c i v) ∧ kp h h' cL) := by
  have hy := q.1.1
  have q0 := q_fa0 q
  have hy0 := q0.1.1
  have f0 : fr h (h.set 0 (ytc G (nI T.m) (nI T.nl) 0 T.tr)) [0] := fr_set (fr_refl _ _) (by decide)
  rcases oT_cases (n := 4) (by decide) c with ⟨e, hc⟩ | ⟨z, hz, rfl, e⟩
  · have ea : aPut T c i v = -1 := by unfold aPut; rw [e]
    have et : tPut T c i v = setFT T 0 T.tr := by unfold tPut; rw [e]
    refine rM_start (by decide) (Nat.le_of_ble_eq_true rfl) ?_
    refine a_aload_n 1 dX11_put_0 rfl rfl ?_
    refine a_iconst (0) 2 dX11_put_1 rfl (by decide) ?_
    refine a_put fd_X11_268 cl_X11 rfl 5 dX11_put_2 rfl (by repeat (first | assumption | (refine rg_ne (by first | decide | omega) ?_) | apply rg_eq | refine rg_fr (by assumption) (by first | decide | (simp; omega)) ?_)) (Nat.le_of_ble_eq_true rfl) rfl rfl rfl ?_
    refine a_aload_n 6 dX11_put_5 rfl rfl ?_
    refine a_iload_n 7 dX11_put_6 rfl rfl ?_
    refine a_callV ok_X11_sheetAt ln_X11_86 in_X11_sheetAt rfl 10 dX11_put_7 rfl (c_sheetN q0.1 hc) (by repeat (first | assumption | (refine rg_ne (by first | decide | omega) ?_) | apply rg_eq | refine rg_fr (by assumption) (by first | decide | (simp; omega)) ?_)) rfl rfl rfl ⟨(Nat.le_of_ble_eq_true rfl), (Nat.le_of_ble_eq_true rfl)⟩ (Nat.le_of_ble_eq_true rfl) ⟨(Nat.le_of_ble_eq_true rfl), (Nat.le_of_ble_eq_true rfl)⟩ ?_
    rintro _ _ ⟨rfl, rfl⟩
    refine a_astoreN 12 dX11_put_10 rfl (by decide) ?_
    refine a_aloadN 14 dX11_put_12 rfl rfl ?_
    refine a_ifnonnullN 17 dX11_put_14 rfl ?_
    refine a_iconst (-1) 18 dX11_put_17 rfl (by decide) ?_
    exact a_ireturn dX11_put_18 rfl rfl (Nat.le_of_ble_eq_true rfl) (Nat.le_of_ble_eq_true rfl) ⟨by rw [ea], by rw [et]; exact q0, kp_0L f0⟩
  · obtain ⟨hs, f, hf, hfx⟩ := sh_at q0 hz
    have hsz := o.sz60 hz
    cases hh : T.has z with
    | false =>
      have ea : aPut T (nI z) i v = -11 := by unfold aPut; rw [e]; dsimp only; rw [hh]; rfl
      have et : tPut T (nI z) i v = setFT T 1 T.tr := by unfold tPut; rw [e]; dsimp only; rw [hh]; rfl
      refine rM_start (by decide) (Nat.le_of_ble_eq_true rfl) ?_
      refine a_aload_n 1 dX11_put_0 rfl rfl ?_
      refine a_iconst (0) 2 dX11_put_1 rfl (by decide) ?_
      refine a_put fd_X11_268 cl_X11 rfl 5 dX11_put_2 rfl (by repeat (first | assumption | (refine rg_ne (by first | decide | omega) ?_) | apply rg_eq | refine rg_fr (by assumption) (by first | decide | (simp; omega)) ?_)) (Nat.le_of_ble_eq_true rfl) rfl rfl rfl ?_
      refine a_aload_n 6 dX11_put_5 rfl rfl ?_
      refine a_iload_n 7 dX11_put_6 rfl rfl ?_
      refine a_callV ok_X11_sheetAt ln_X11_86 in_X11_sheetAt rfl 10 dX11_put_7 rfl (c_sheet q0.1 hz) (by repeat (first | assumption | (refine rg_ne (by first | decide | omega) ?_) | apply rg_eq | refine rg_fr (by assumption) (by first | decide | (simp; omega)) ?_)) rfl rfl rfl ⟨(Nat.le_of_ble_eq_true rfl), (Nat.le_of_ble_eq_true rfl)⟩ (Nat.le_of_ble_eq_true rfl) ⟨(Nat.le_of_ble_eq_true rfl), (Nat.le_of_ble_eq_true rfl)⟩ ?_
      rintro _ _ ⟨rfl, rfl⟩
      refine a_astore 12 dX11_put_10 rfl (by decide) ?_
      refine a_aload 14 dX11_put_12 rfl rfl ?_
      refine a_ifnonnull 19 dX11_put_14 (by decide) ?_
      refine a_aload 21 dX11_put_19 rfl rfl ?_
      refine a_get fd_X11_329 rfl 24 dX11_put_21 rfl (by repeat (first | assumption | (refine rg_ne (by first | decide | omega) ?_) | apply rg_eq | refine rg_fr (by assumption) (by first | decide | (simp; omega)) ?_)) rfl ?_
      refine a_if_ne 33 27 dX11_put_24 rfl (by decide) (fun c_24 => absurd (bI_0.mpr hh) c_24) (fun c_24 => ?_)
      refine a_aload_n 28 dX11_put_27 rfl rfl ?_
      refine a_iconst (1) 29 dX11_put_28 rfl (by decide) ?_
      refine a_callV ok_X11_faulted ln_X11_323 in_X11_faulted rfl 32 dX11_put_29 rfl (k_X11_faulted hy0 1) (by repeat (first | assumption | (refine rg_ne (by first | decide | omega) ?_) | apply rg_eq | refine rg_fr (by assumption) (by first | decide | (simp; omega)) ?_)) rfl rfl rfl ⟨(Nat.le_of_ble_eq_true rfl), (Nat.le_of_ble_eq_true rfl)⟩ (Nat.le_of_ble_eq_true rfl) ⟨(Nat.le_of_ble_eq_true rfl), (Nat.le_of_ble_eq_true rfl)⟩ ?_
      rintro h1 _ ⟨rfl, hy1, hf1⟩
      exact a_ireturn dX11_put_32 rfl rfl (Nat.le_of_ble_eq_true rfl) (Nat.le_of_ble_eq_true rfl) ⟨by rw [ea]; rfl, by rw [et]; exact all_0 (T := setFT T 0 T.tr) q0 hy1 (kp_fr hf1), kp_0L (fr_trans f0 hf1 (by decide))⟩
    | true =>
      have hb : ¬ bI (T.has z) = 0 := bI_n.mpr hh
      rcases oT_cases (n := T.sz z) (by omega) i with ⟨e2, hi⟩ | ⟨k, hk, rfl, e2⟩
      · have ea : aPut T (nI z) i v = -13 := by unfold aPut; rw [e]; dsimp only; rw [hh, e2]; rfl
        have et : tPut T (nI z) i v = setFT T 3 T.tr := by unfold tPut; rw [e]; dsimp only; rw [hh, e2]; rfl
        refine rM_start (by decide) (Nat.le_of_ble_eq_true rfl) ?_
        refine a_aload_n 1 dX11_put_0 rfl rfl ?_
        refine a_iconst (0) 2 dX11_put_1 rfl (by decide) ?_
        refine a_put fd_X11_268 cl_X11 rfl 5 dX11_put_2 rfl (by repeat (first | assumption | (refine rg_ne (by first | decide | omega) ?_) | apply rg_eq | refine rg_fr (by assumption) (by first | decide | (simp; omega)) ?_)) (Nat.le_of_ble_eq_true rfl) rfl rfl rfl ?_
        refine a_aload_n 6 dX11_put_5 rfl rfl ?_
        refine a_iload_n 7 dX11_put_6 rfl rfl ?_
        refine a_callV ok_X11_sheetAt ln_X11_86 in_X11_sheetAt rfl 10 dX11_put_7 rfl (c_sheet q0.1 hz) (by repeat (first | assumption | (refine rg_ne (by first | decide | omega) ?_) | apply rg_eq | refine rg_fr (by assumption) (by first | decide | (simp; omega)) ?_)) rfl rfl rfl ⟨(Nat.le_of_ble_eq_true rfl), (Nat.le_of_ble_eq_true rfl)⟩ (Nat.le_of_ble_eq_true rfl) ⟨(Nat.le_of_ble_eq_true rfl), (Nat.le_of_ble_eq_true rfl)⟩ ?_
        rintro _ _ ⟨rfl, rfl⟩
        refine a_astore 12 dX11_put_10 rfl (by decide) ?_
        refine a_aload 14 dX11_put_12 rfl rfl ?_
        refine a_ifnonnull 19 dX11_put_14 (by decide) ?_
        refine a_aload 21 dX11_put_19 rfl rfl ?_
        refine a_get fd_X11_329 rfl 24 dX11_put_21 rfl (by repeat (first | assumption | (refine rg_ne (by first | decide | omega) ?_) | apply rg_eq | refine rg_fr (by assumption) (by first | decide | (simp; omega)) ?_)) rfl ?_
        refine a_if_ne 33 27 dX11_put_24 rfl (by decide) (fun c_24 => ?_) (fun c_24 => absurd c_24 hb)
        refine a_aload 35 dX11_put_33 rfl rfl ?_
        refine a_iload_n 36 dX11_put_35 rfl rfl ?_
        refine a_callV ok_X8_hasCell ln_X11_333 in_X8_hasCell rfl 39 dX11_put_36 rfl (k_X8_hasCell hs i) (by repeat (first | assumption | (refine rg_ne (by first | decide | omega) ?_) | apply rg_eq | refine rg_fr (by assumption) (by first | decide | (simp; omega)) ?_)) rfl rfl rfl ⟨(Nat.le_of_ble_eq_true rfl), (Nat.le_of_ble_eq_true rfl)⟩ (Nat.le_of_ble_eq_true rfl) ⟨(Nat.le_of_ble_eq_true rfl), (Nat.le_of_ble_eq_true rfl)⟩ ?_
        rintro _ _ ⟨rfl, rfl⟩
        refine a_if_ne 48 42 dX11_put_39 rfl (by decide) (fun c_39 => absurd (if_neg hi) c_39) (fun c_39 => ?_)
        refine a_aload_n 43 dX11_put_42 rfl rfl ?_
        refine a_iconst (3) 44 dX11_put_43 rfl (by decide) ?_
        refine a_callV ok_X11_faulted ln_X11_323 in_X11_faulted rfl 47 dX11_put_44 rfl (k_X11_faulted hy0 3) (by repeat (first | assumption | (refine rg_ne (by first | decide | omega) ?_) | apply rg_eq | refine rg_fr (by assumption) (by first | decide | (simp; omega)) ?_)) rfl rfl rfl ⟨(Nat.le_of_ble_eq_true rfl), (Nat.le_of_ble_eq_true rfl)⟩ (Nat.le_of_ble_eq_true rfl) ⟨(Nat.le_of_ble_eq_true rfl), (Nat.le_of_ble_eq_true rfl)⟩ ?_
        rintro h1 _ ⟨rfl, hy1, hf1⟩
        exact a_ireturn dX11_put_47 rfl rfl (Nat.le_of_ble_eq_true rfl) (Nat.le_of_ble_eq_true rfl) ⟨by rw [ea]; rfl, by rw [et]; exact all_0 (T := setFT T 0 T.tr) q0 hy1 (kp_fr hf1), kp_0L (fr_trans f0 hf1 (by decide))⟩
      · have ea : aPut T (nI z) (nI k) v = 1 := by unfold aPut; rw [e]; dsimp only; rw [hh, e2]; rfl
        have et : tPut T (nI z) (nI k) v = setS T 0 z true (T.ln z) (T.sz z) (upd (T.ce z) k (cutI (T.ln z) v)) := by unfold tPut; rw [e]; dsimp only; rw [hh, e2]; rfl
        have vk : vp_in (nI k) 60 := vp_in_nI (by omega) (by decide)
        have fk : fr h ((h.set 0 (ytc G (nI T.m) (nI T.nl) 0 T.tr)).set (31 + 2 * z) (.inl (gA G 0, 60, .inl (upd f (nI k).toNatClampNeg (cutI (T.ln z) v))))) [0, 30 + 2 * z, 31 + 2 * z] := fr_set (fr_mono f0 (by simp)) (by simp)
        have qb := all_S q hz (h' := (h.set 0 (ytc G (nI T.m) (nI T.nl) 0 T.tr)).set (31 + 2 * z) (.inl (gA G 0, 60, .inl (upd f (nI k).toNatClampNeg (cutI (T.ln z) v))))) (f := 0) (hb := true) (ln := T.ln z) (sz := T.sz z) (ce := upd (T.ce z) k (cutI (T.ln z) v)) (rg_ne (by omega) hy0) (by rw [hh] at hs; exact rg_ne (by omega) hs) ⟨_, rg_eq hf, fun j hj => by rw [nI_clamp (by omega)]; by_cases e : j = k; (subst e; rw [pk_us, pk_us]); (rw [pk_un e, pk_un e]; exact hfx j hj)⟩ (kp_fr fk)
        refine rM_start (by decide) (Nat.le_of_ble_eq_true rfl) ?_
        refine a_aload_n 1 dX11_put_0 rfl rfl ?_
        refine a_iconst (0) 2 dX11_put_1 rfl (by decide) ?_
        refine a_put fd_X11_268 cl_X11 rfl 5 dX11_put_2 rfl (by repeat (first | assumption | (refine rg_ne (by first | decide | omega) ?_) | apply rg_eq | refine rg_fr (by assumption) (by first | decide | (simp; omega)) ?_)) (Nat.le_of_ble_eq_true rfl) rfl rfl rfl ?_
        refine a_aload_n 6 dX11_put_5 rfl rfl ?_
        refine a_iload_n 7 dX11_put_6 rfl rfl ?_
        refine a_callV ok_X11_sheetAt ln_X11_86 in_X11_sheetAt rfl 10 dX11_put_7 rfl (c_sheet q0.1 hz) (by repeat (first | assumption | (refine rg_ne (by first | decide | omega) ?_) | apply rg_eq | refine rg_fr (by assumption) (by first | decide | (simp; omega)) ?_)) rfl rfl rfl ⟨(Nat.le_of_ble_eq_true rfl), (Nat.le_of_ble_eq_true rfl)⟩ (Nat.le_of_ble_eq_true rfl) ⟨(Nat.le_of_ble_eq_true rfl), (Nat.le_of_ble_eq_true rfl)⟩ ?_
        rintro _ _ ⟨rfl, rfl⟩
        refine a_astore 12 dX11_put_10 rfl (by decide) ?_
        refine a_aload 14 dX11_put_12 rfl rfl ?_
        refine a_ifnonnull 19 dX11_put_14 (by decide) ?_
        refine a_aload 21 dX11_put_19 rfl rfl ?_
        refine a_get fd_X11_329 rfl 24 dX11_put_21 rfl (by repeat (first | assumption | (refine rg_ne (by first | decide | omega) ?_) | apply rg_eq | refine rg_fr (by assumption) (by first | decide | (simp; omega)) ?_)) rfl ?_
        refine a_if_ne 33 27 dX11_put_24 rfl (by decide) (fun c_24 => ?_) (fun c_24 => absurd c_24 hb)
        refine a_aload 35 dX11_put_33 rfl rfl ?_
        refine a_iload_n 36 dX11_put_35 rfl rfl ?_
        refine a_callV ok_X8_hasCell ln_X11_333 in_X8_hasCell rfl 39 dX11_put_36 rfl (k_X8_hasCell hs (nI k)) (by repeat (first | assumption | (refine rg_ne (by first | decide | omega) ?_) | apply rg_eq | refine rg_fr (by assumption) (by first | decide | (simp; omega)) ?_)) rfl rfl rfl ⟨(Nat.le_of_ble_eq_true rfl), (Nat.le_of_ble_eq_true rfl)⟩ (Nat.le_of_ble_eq_true rfl) ⟨(Nat.le_of_ble_eq_true rfl), (Nat.le_of_ble_eq_true rfl)⟩ ?_
        rintro _ _ ⟨rfl, rfl⟩
        refine a_if_ne 48 42 dX11_put_39 rfl (by decide) (fun c_39 => ?_) (fun c_39 => absurd c_39 (by rw [if_pos (oT_yes hk (by omega))]; decide))
        refine a_aload 50 dX11_put_48 rfl rfl ?_
        refine a_iload_n 51 dX11_put_50 rfl rfl ?_
        refine a_iload_n 52 dX11_put_51 rfl rfl ?_
        refine a_callV ok_X8_write ln_X11_336 in_X8_write rfl 55 dX11_put_52 rfl (k_X8_write hs hf (nI k) v vk) (by repeat (first | assumption | (refine rg_ne (by first | decide | omega) ?_) | apply rg_eq | refine rg_fr (by assumption) (by first | decide | (simp; omega)) ?_)) rfl rfl rfl ⟨(Nat.le_of_ble_eq_true rfl), (Nat.le_of_ble_eq_true rfl)⟩ (Nat.le_of_ble_eq_true rfl) ⟨(Nat.le_of_ble_eq_true rfl), (Nat.le_of_ble_eq_true rfl)⟩ ?_
        rintro _ _ ⟨rfl, rfl⟩
        refine a_iconst (1) 56 dX11_put_55 rfl (by decide) ?_
        exact a_ireturn dX11_put_56 rfl rfl (Nat.le_of_ble_eq_true rfl) (Nat.le_of_ble_eq_true rfl) ⟨by rw [ea], by rw [et]; exact qb, kp_S hz (kp_fr fk)⟩
set_option maxRecDepth 100000 in
set_option maxHeartbeats 400000 in
theorem c_cell (q : cAll G h T) (o : T.ok) (c i d : Int32) : rM l G 12 mX11_cell 0 0 [.ref (gN G + 0), .int c, .int i, .int d] h (fun h' w => w = some (.long (aCell T c i d)) ∧ cAll G h' (tCell T c i d) ∧ kp h h' cL) := by
  have hy := q.1.1
  have q0 := q_fa0 q
  have hy0 := q0.1.1
  have f0 : fr h (h.set 0 (ytc G (nI T.m) (nI T.nl) 0 T.tr)) [0] := fr_set (fr_refl _ _) (by decide)
  rcases oT_cases (n := 4) (by decide) c with ⟨e, hc⟩ | ⟨z, hz, rfl, e⟩
  · have ea : aCell T c i d = lost64 := by unfold aCell; rw [e]
    have et : tCell T c i d = setFT T 0 T.tr := by unfold tCell; rw [e]
    refine rM_start (by decide) (Nat.le_of_ble_eq_true rfl) ?_
    refine a_aload_n 1 dX11_cell_0 rfl rfl ?_
    refine a_iconst (0) 2 dX11_cell_1 rfl (by decide) ?_
    refine a_put fd_X11_268 cl_X11 rfl 5 dX11_cell_2 rfl (by repeat (first | assumption | (refine rg_ne (by first | decide | omega) ?_) | apply rg_eq | refine rg_fr (by assumption) (by first | decide | (simp; omega)) ?_)) (Nat.le_of_ble_eq_true rfl) rfl rfl rfl ?_
    refine a_aload_n 6 dX11_cell_5 rfl rfl ?_
    refine a_iload_n 7 dX11_cell_6 rfl rfl ?_
    refine a_callV ok_X11_sheetAt ln_X11_86 in_X11_sheetAt rfl 10 dX11_cell_7 rfl (c_sheetN q0.1 hc) (by repeat (first | assumption | (refine rg_ne (by first | decide | omega) ?_) | apply rg_eq | refine rg_fr (by assumption) (by first | decide | (simp; omega)) ?_)) rfl rfl rfl ⟨(Nat.le_of_ble_eq_true rfl), (Nat.le_of_ble_eq_true rfl)⟩ (Nat.le_of_ble_eq_true rfl) ⟨(Nat.le_of_ble_eq_true rfl), (Nat.le_of_ble_eq_true rfl)⟩ ?_
    rintro _ _ ⟨rfl, rfl⟩
    refine a_astoreN 12 dX11_cell_10 rfl (by decide) ?_
    refine a_aloadN 14 dX11_cell_12 rfl rfl ?_
    refine a_ifnullN 24 dX11_cell_14 (by decide) ?_
    refine a_ldc2 (-9223372036854775808) 27 dX11_cell_24 rfl lk_X11_224 ?_
    exact a_lreturn dX11_cell_27 rfl (Nat.le_of_ble_eq_true rfl) (Nat.le_of_ble_eq_true rfl) ⟨by rw [ea]; rfl, by rw [et]; exact q0, kp_0L f0⟩
  · obtain ⟨hs, f, hf, hfx⟩ := sh_at q0 hz
    have hsz := o.sz60 hz
    have ea0 : aCell T (nI z) i d = if laneI d then (if cellF T z i d = 0 then (T.ce z i.toNatClampNeg).toInt64 else lost64) else lost64 := by unfold aCell; rw [e]
    have et0 : tCell T (nI z) i d = if laneI d then setFT T (cellF T z i d) T.tr else setFT T 0 T.tr := by unfold tCell; rw [e]
    by_cases hd : laneI d
    · have q1 : ∀ x, cAll G ((h.set 0 (ytc G (nI T.m) (nI T.nl) 0 T.tr)).set 0 (ytc G (nI T.m) (nI T.nl) x T.tr)) (setFT T x T.tr) := fun x => all_0 (T := setFT T 0 T.tr) q0 (rg_eq hy0) (kp_fr (fr_set (fr_refl _ _) (by decide)))
      have q3 : ∀ x y, cAll G (((h.set 0 (ytc G (nI T.m) (nI T.nl) 0 T.tr)).set 0 (ytc G (nI T.m) (nI T.nl) x T.tr)).set 0 (ytc G (nI T.m) (nI T.nl) y T.tr)) (setFT T y T.tr) := fun x y => all_0 (T := setFT T x T.tr) (q1 x) (rg_eq (q1 x).1.1) (kp_fr (fr_set (fr_refl _ _) (by decide)))
      rw [if_pos hd] at ea0 et0
      by_cases hF : cellF T z i d = 0
      · rw [if_pos hF] at ea0
        rw [hF] at et0
        have hF2 := hF
        unfold cellF at hF2
        have hh : T.has z = true := by cases hh : T.has z with | true => rfl | false => rw [hh, if_neg (by decide)] at hF2; exact absurd hF2 (by decide)
        rw [hh, if_pos rfl] at hF2
        have hl : T.ln z = d := by by_cases hl : T.ln z = d; exact hl; rw [if_neg hl] at hF2; exact absurd hF2 (by decide)
        rw [if_pos hl] at hF2
        rcases oT_cases (n := T.sz z) (by omega) i with ⟨e2, hi⟩ | ⟨k, hk, rfl, e2⟩
        · rw [e2] at hF2; exact absurd hF2 (by decide)
        · have hb : ¬ bI (T.has z) = 0 := bI_n.mpr hh
          have eF : (if bI (T.has z) = 0 then (1 : Int32) else if T.ln z = d then 0 else 2) = 0 := by rw [if_neg hb, if_pos hl]
          have ev : (if 0 ≤ nI k ∧ nI k < 60 then f (nI k).toNatClampNeg else 0) = T.ce z (nI k).toNatClampNeg := by
            rw [if_pos ⟨nI_pos' (by omega), nI_lt (b := 60) (by omega) (by decide)⟩, nI_clamp (by omega)]
            exact hfx k hk
          have hs1 : ((h.set 0 (ytc G (nI T.m) (nI T.nl) 0 T.tr)).set 0 (ytc G (nI T.m) (nI T.nl) 0 T.tr))[30 + 2 * z]? = _ := rg_ne (by omega) hs
          have hf1 : ((h.set 0 (ytc G (nI T.m) (nI T.nl) 0 T.tr)).set 0 (ytc G (nI T.m) (nI T.nl) 0 T.tr))[31 + 2 * z]? = _ := rg_ne (by omega) hf
          refine rM_start (by decide) (Nat.le_of_ble_eq_true rfl) ?_
          refine a_aload_n 1 dX11_cell_0 rfl rfl ?_
          refine a_iconst (0) 2 dX11_cell_1 rfl (by decide) ?_
          refine a_put fd_X11_268 cl_X11 rfl 5 dX11_cell_2 rfl (by repeat (first | assumption | (refine rg_ne (by first | decide | omega) ?_) | apply rg_eq | refine rg_fr (by assumption) (by first | decide | (simp; omega)) ?_)) (Nat.le_of_ble_eq_true rfl) rfl rfl rfl ?_
          refine a_aload_n 6 dX11_cell_5 rfl rfl ?_
          refine a_iload_n 7 dX11_cell_6 rfl rfl ?_
          refine a_callV ok_X11_sheetAt ln_X11_86 in_X11_sheetAt rfl 10 dX11_cell_7 rfl (c_sheet q0.1 hz) (by repeat (first | assumption | (refine rg_ne (by first | decide | omega) ?_) | apply rg_eq | refine rg_fr (by assumption) (by first | decide | (simp; omega)) ?_)) rfl rfl rfl ⟨(Nat.le_of_ble_eq_true rfl), (Nat.le_of_ble_eq_true rfl)⟩ (Nat.le_of_ble_eq_true rfl) ⟨(Nat.le_of_ble_eq_true rfl), (Nat.le_of_ble_eq_true rfl)⟩ ?_
          rintro _ _ ⟨rfl, rfl⟩
          refine a_astore 12 dX11_cell_10 rfl (by decide) ?_
          refine a_aload 14 dX11_cell_12 rfl rfl ?_
          refine a_ifnull 17 dX11_cell_14 rfl ?_
          refine a_iload_n 18 dX11_cell_17 rfl rfl ?_
          refine a_callS ok_X11_isLane ln_X11_320 is_X11_isLane rfl 21 dX11_cell_18 rfl (k_X11_isLane d) rfl rfl ⟨(Nat.le_of_ble_eq_true rfl), (Nat.le_of_ble_eq_true rfl)⟩ (Nat.le_of_ble_eq_true rfl) ⟨(Nat.le_of_ble_eq_true rfl), (Nat.le_of_ble_eq_true rfl)⟩ ?_
          rintro _ _ ⟨rfl, rfl⟩
          refine a_if_ne 28 24 dX11_cell_21 rfl (by decide) (fun c_21 => ?_) (fun c_21 => absurd c_21 (by rw [if_pos hd]; decide))
          refine a_aload_n 29 dX11_cell_28 rfl rfl ?_
          refine a_aload 31 dX11_cell_29 rfl rfl ?_
          refine a_iload_n 32 dX11_cell_31 rfl rfl ?_
          refine a_callV ok_X8_faultAs ln_X11_339 in_X8_faultAs rfl 35 dX11_cell_32 rfl (k_X8_faultAs hs d) (by repeat (first | assumption | (refine rg_ne (by first | decide | omega) ?_) | apply rg_eq | refine rg_fr (by assumption) (by first | decide | (simp; omega)) ?_)) rfl rfl rfl ⟨(Nat.le_of_ble_eq_true rfl), (Nat.le_of_ble_eq_true rfl)⟩ (Nat.le_of_ble_eq_true rfl) ⟨(Nat.le_of_ble_eq_true rfl), (Nat.le_of_ble_eq_true rfl)⟩ ?_
          rintro _ _ ⟨rfl, rfl⟩
          rw [show (if bI ((setFT T 0 T.tr).has z) = 0 then (1 : Int32) else if (setFT T 0 T.tr).ln z = d then 0 else 2) = 0 from eF]
          refine a_put fd_X11_268 cl_X11 rfl 38 dX11_cell_35 rfl (by repeat (first | assumption | (refine rg_ne (by first | decide | omega) ?_) | apply rg_eq | refine rg_fr (by assumption) (by first | decide | (simp; omega)) ?_)) (Nat.le_of_ble_eq_true rfl) rfl rfl rfl ?_
          refine a_aload_n 39 dX11_cell_38 rfl rfl ?_
          refine a_get fd_X11_268 rfl 42 dX11_cell_39 rfl (by repeat (first | assumption | (refine rg_ne (by first | decide | omega) ?_) | apply rg_eq | refine rg_fr (by assumption) (by first | decide | (simp; omega)) ?_)) rfl ?_
          refine a_if_ne 59 45 dX11_cell_42 rfl (by decide) (fun c_42 => absurd c_42 (by decide)) (fun c_42 => ?_)
          refine a_aload 47 dX11_cell_45 rfl rfl ?_
          refine a_iload_n 48 dX11_cell_47 rfl rfl ?_
          refine a_callV ok_X8_hasCell ln_X11_333 in_X8_hasCell rfl 51 dX11_cell_48 rfl (k_X8_hasCell hs1 (nI k)) (by repeat (first | assumption | (refine rg_ne (by first | decide | omega) ?_) | apply rg_eq | refine rg_fr (by assumption) (by first | decide | (simp; omega)) ?_)) rfl rfl rfl ⟨(Nat.le_of_ble_eq_true rfl), (Nat.le_of_ble_eq_true rfl)⟩ (Nat.le_of_ble_eq_true rfl) ⟨(Nat.le_of_ble_eq_true rfl), (Nat.le_of_ble_eq_true rfl)⟩ ?_
          rintro _ _ ⟨rfl, rfl⟩
          refine a_if_ne 59 54 dX11_cell_51 rfl (by decide) (fun c_51 => ?_) (fun c_51 => absurd c_51 (by rw [if_pos (oT_yes hk (by omega))]; decide))
          refine a_aload_n 60 dX11_cell_59 rfl rfl ?_
          refine a_get fd_X11_268 rfl 63 dX11_cell_60 rfl (by repeat (first | assumption | (refine rg_ne (by first | decide | omega) ?_) | apply rg_eq | refine rg_fr (by assumption) (by first | decide | (simp; omega)) ?_)) rfl ?_
          refine a_if_ne 76 66 dX11_cell_63 rfl (by decide) (fun c_63 => absurd c_63 (by decide)) (fun c_63 => ?_)
          refine a_aload 68 dX11_cell_66 rfl rfl ?_
          refine a_iload_n 69 dX11_cell_68 rfl rfl ?_
          refine a_callV ok_X8_read ln_X11_342 in_X8_read rfl 72 dX11_cell_69 rfl (k_X8_read hs1 hf1 (nI k)) (by repeat (first | assumption | (refine rg_ne (by first | decide | omega) ?_) | apply rg_eq | refine rg_fr (by assumption) (by first | decide | (simp; omega)) ?_)) rfl rfl rfl ⟨(Nat.le_of_ble_eq_true rfl), (Nat.le_of_ble_eq_true rfl)⟩ (Nat.le_of_ble_eq_true rfl) ⟨(Nat.le_of_ble_eq_true rfl), (Nat.le_of_ble_eq_true rfl)⟩ ?_
          rintro _ _ ⟨rfl, rfl⟩
          rw [ev]
          refine a_i2l 73 dX11_cell_72 rfl ?_
          refine a_goto 79 dX11_cell_73 (by decide) ?_
          exact a_lreturn dX11_cell_79 rfl (Nat.le_of_ble_eq_true rfl) (Nat.le_of_ble_eq_true rfl) ⟨by rw [ea0], by rw [et0]; exact q1 0, kp_0L (fr_set f0 (by decide))⟩
      · rw [if_neg hF] at ea0
        by_cases hA : (if bI (T.has z) = 0 then (1 : Int32) else if T.ln z = d then 0 else 2) = 0
        · have hh : T.has z = true := by cases hh : T.has z with | true => rfl | false => rw [hh, if_pos (by decide)] at hA; exact absurd hA (by decide)
          have hl : T.ln z = d := by
            rw [if_neg (bI_n.mpr hh)] at hA
            by_cases hl : T.ln z = d; exact hl; rw [if_neg hl] at hA; exact absurd hA (by decide)
          have hF3 : ¬ (0 ≤ i ∧ i < nI (T.sz z)) ∧ cellF T z i d = 3 := by
            rcases oT_cases (n := T.sz z) (by omega) i with ⟨e2, hi⟩ | ⟨k, hk, rfl, e2⟩
            · exact ⟨hi, by unfold cellF; rw [hh, if_pos rfl, if_pos hl, e2]⟩
            · exact absurd (by unfold cellF; rw [hh, if_pos rfl, if_pos hl, e2]) hF
          rw [hF3.2] at et0
          have hs1 : ((h.set 0 (ytc G (nI T.m) (nI T.nl) 0 T.tr)).set 0 (ytc G (nI T.m) (nI T.nl) 0 T.tr))[30 + 2 * z]? = _ := rg_ne (by omega) hs
          have hi := hF3.1
          refine rM_start (by decide) (Nat.le_of_ble_eq_true rfl) ?_
          refine a_aload_n 1 dX11_cell_0 rfl rfl ?_
          refine a_iconst (0) 2 dX11_cell_1 rfl (by decide) ?_
          refine a_put fd_X11_268 cl_X11 rfl 5 dX11_cell_2 rfl (by repeat (first | assumption | (refine rg_ne (by first | decide | omega) ?_) | apply rg_eq | refine rg_fr (by assumption) (by first | decide | (simp; omega)) ?_)) (Nat.le_of_ble_eq_true rfl) rfl rfl rfl ?_
          refine a_aload_n 6 dX11_cell_5 rfl rfl ?_
          refine a_iload_n 7 dX11_cell_6 rfl rfl ?_
          refine a_callV ok_X11_sheetAt ln_X11_86 in_X11_sheetAt rfl 10 dX11_cell_7 rfl (c_sheet q0.1 hz) (by repeat (first | assumption | (refine rg_ne (by first | decide | omega) ?_) | apply rg_eq | refine rg_fr (by assumption) (by first | decide | (simp; omega)) ?_)) rfl rfl rfl ⟨(Nat.le_of_ble_eq_true rfl), (Nat.le_of_ble_eq_true rfl)⟩ (Nat.le_of_ble_eq_true rfl) ⟨(Nat.le_of_ble_eq_true rfl), (Nat.le_of_ble_eq_true rfl)⟩ ?_
          rintro _ _ ⟨rfl, rfl⟩
          refine a_astore 12 dX11_cell_10 rfl (by decide) ?_
          refine a_aload 14 dX11_cell_12 rfl rfl ?_
          refine a_ifnull 17 dX11_cell_14 rfl ?_
          refine a_iload_n 18 dX11_cell_17 rfl rfl ?_
          refine a_callS ok_X11_isLane ln_X11_320 is_X11_isLane rfl 21 dX11_cell_18 rfl (k_X11_isLane d) rfl rfl ⟨(Nat.le_of_ble_eq_true rfl), (Nat.le_of_ble_eq_true rfl)⟩ (Nat.le_of_ble_eq_true rfl) ⟨(Nat.le_of_ble_eq_true rfl), (Nat.le_of_ble_eq_true rfl)⟩ ?_
          rintro _ _ ⟨rfl, rfl⟩
          refine a_if_ne 28 24 dX11_cell_21 rfl (by decide) (fun c_21 => ?_) (fun c_21 => absurd c_21 (by rw [if_pos hd]; decide))
          refine a_aload_n 29 dX11_cell_28 rfl rfl ?_
          refine a_aload 31 dX11_cell_29 rfl rfl ?_
          refine a_iload_n 32 dX11_cell_31 rfl rfl ?_
          refine a_callV ok_X8_faultAs ln_X11_339 in_X8_faultAs rfl 35 dX11_cell_32 rfl (k_X8_faultAs hs d) (by repeat (first | assumption | (refine rg_ne (by first | decide | omega) ?_) | apply rg_eq | refine rg_fr (by assumption) (by first | decide | (simp; omega)) ?_)) rfl rfl rfl ⟨(Nat.le_of_ble_eq_true rfl), (Nat.le_of_ble_eq_true rfl)⟩ (Nat.le_of_ble_eq_true rfl) ⟨(Nat.le_of_ble_eq_true rfl), (Nat.le_of_ble_eq_true rfl)⟩ ?_
          rintro _ _ ⟨rfl, rfl⟩
          rw [show (if bI ((setFT T 0 T.tr).has z) = 0 then (1 : Int32) else if (setFT T 0 T.tr).ln z = d then 0 else 2) = 0 from hA]
          refine a_put fd_X11_268 cl_X11 rfl 38 dX11_cell_35 rfl (by repeat (first | assumption | (refine rg_ne (by first | decide | omega) ?_) | apply rg_eq | refine rg_fr (by assumption) (by first | decide | (simp; omega)) ?_)) (Nat.le_of_ble_eq_true rfl) rfl rfl rfl ?_
          refine a_aload_n 39 dX11_cell_38 rfl rfl ?_
          refine a_get fd_X11_268 rfl 42 dX11_cell_39 rfl (by repeat (first | assumption | (refine rg_ne (by first | decide | omega) ?_) | apply rg_eq | refine rg_fr (by assumption) (by first | decide | (simp; omega)) ?_)) rfl ?_
          refine a_if_ne 59 45 dX11_cell_42 rfl (by decide) (fun c_42 => absurd c_42 (by decide)) (fun c_42 => ?_)
          refine a_aload 47 dX11_cell_45 rfl rfl ?_
          refine a_iload_n 48 dX11_cell_47 rfl rfl ?_
          refine a_callV ok_X8_hasCell ln_X11_333 in_X8_hasCell rfl 51 dX11_cell_48 rfl (k_X8_hasCell hs1 i) (by repeat (first | assumption | (refine rg_ne (by first | decide | omega) ?_) | apply rg_eq | refine rg_fr (by assumption) (by first | decide | (simp; omega)) ?_)) rfl rfl rfl ⟨(Nat.le_of_ble_eq_true rfl), (Nat.le_of_ble_eq_true rfl)⟩ (Nat.le_of_ble_eq_true rfl) ⟨(Nat.le_of_ble_eq_true rfl), (Nat.le_of_ble_eq_true rfl)⟩ ?_
          rintro _ _ ⟨rfl, rfl⟩
          refine a_if_ne 59 54 dX11_cell_51 rfl (by decide) (fun c_51 => absurd (if_neg hi) c_51) (fun c_51 => ?_)
          refine a_aload_n 55 dX11_cell_54 rfl rfl ?_
          refine a_iconst (3) 56 dX11_cell_55 rfl (by decide) ?_
          refine a_put fd_X11_268 cl_X11 rfl 59 dX11_cell_56 rfl (by repeat (first | assumption | (refine rg_ne (by first | decide | omega) ?_) | apply rg_eq | refine rg_fr (by assumption) (by first | decide | (simp; omega)) ?_)) (Nat.le_of_ble_eq_true rfl) rfl rfl rfl ?_
          refine a_aload_n 60 dX11_cell_59 rfl rfl ?_
          refine a_get fd_X11_268 rfl 63 dX11_cell_60 rfl (by repeat (first | assumption | (refine rg_ne (by first | decide | omega) ?_) | apply rg_eq | refine rg_fr (by assumption) (by first | decide | (simp; omega)) ?_)) rfl ?_
          refine a_if_ne 76 66 dX11_cell_63 rfl (by decide) (fun c_63 => ?_) (fun c_63 => absurd c_63 (by decide))
          refine a_ldc2 (-9223372036854775808) 79 dX11_cell_76 rfl lk_X11_224 ?_
          exact a_lreturn dX11_cell_79 rfl (Nat.le_of_ble_eq_true rfl) (Nat.le_of_ble_eq_true rfl) ⟨by rw [ea0]; rfl, by rw [et0]; exact q3 0 3, kp_0L (fr_set (fr_set f0 (by decide)) (by decide))⟩
        · have hF4 : cellF T z i d = (if bI (T.has z) = 0 then (1 : Int32) else if T.ln z = d then 0 else 2) := by
            unfold cellF
            cases hh : T.has z with
            | false => rfl
            | true =>
              have hb : ¬ bI true = 0 := by decide
              rw [hh, if_neg hb] at hA
              rw [if_pos rfl, if_neg hb]
              by_cases hl : T.ln z = d
              · rw [if_pos hl] at hA; exact absurd rfl hA
              · rw [if_neg hl, if_neg hl]
          rw [hF4] at et0
          refine rM_start (by decide) (Nat.le_of_ble_eq_true rfl) ?_
          refine a_aload_n 1 dX11_cell_0 rfl rfl ?_
          refine a_iconst (0) 2 dX11_cell_1 rfl (by decide) ?_
          refine a_put fd_X11_268 cl_X11 rfl 5 dX11_cell_2 rfl (by repeat (first | assumption | (refine rg_ne (by first | decide | omega) ?_) | apply rg_eq | refine rg_fr (by assumption) (by first | decide | (simp; omega)) ?_)) (Nat.le_of_ble_eq_true rfl) rfl rfl rfl ?_
          refine a_aload_n 6 dX11_cell_5 rfl rfl ?_
          refine a_iload_n 7 dX11_cell_6 rfl rfl ?_
          refine a_callV ok_X11_sheetAt ln_X11_86 in_X11_sheetAt rfl 10 dX11_cell_7 rfl (c_sheet q0.1 hz) (by repeat (first | assumption | (refine rg_ne (by first | decide | omega) ?_) | apply rg_eq | refine rg_fr (by assumption) (by first | decide | (simp; omega)) ?_)) rfl rfl rfl ⟨(Nat.le_of_ble_eq_true rfl), (Nat.le_of_ble_eq_true rfl)⟩ (Nat.le_of_ble_eq_true rfl) ⟨(Nat.le_of_ble_eq_true rfl), (Nat.le_of_ble_eq_true rfl)⟩ ?_
          rintro _ _ ⟨rfl, rfl⟩
          refine a_astore 12 dX11_cell_10 rfl (by decide) ?_
          refine a_aload 14 dX11_cell_12 rfl rfl ?_
          refine a_ifnull 17 dX11_cell_14 rfl ?_
          refine a_iload_n 18 dX11_cell_17 rfl rfl ?_
          refine a_callS ok_X11_isLane ln_X11_320 is_X11_isLane rfl 21 dX11_cell_18 rfl (k_X11_isLane d) rfl rfl ⟨(Nat.le_of_ble_eq_true rfl), (Nat.le_of_ble_eq_true rfl)⟩ (Nat.le_of_ble_eq_true rfl) ⟨(Nat.le_of_ble_eq_true rfl), (Nat.le_of_ble_eq_true rfl)⟩ ?_
          rintro _ _ ⟨rfl, rfl⟩
          refine a_if_ne 28 24 dX11_cell_21 rfl (by decide) (fun c_21 => ?_) (fun c_21 => absurd c_21 (by rw [if_pos hd]; decide))
          refine a_aload_n 29 dX11_cell_28 rfl rfl ?_
          refine a_aload 31 dX11_cell_29 rfl rfl ?_
          refine a_iload_n 32 dX11_cell_31 rfl rfl ?_
          refine a_callV ok_X8_faultAs ln_X11_339 in_X8_faultAs rfl 35 dX11_cell_32 rfl (k_X8_faultAs hs d) (by repeat (first | assumption | (refine rg_ne (by first | decide | omega) ?_) | apply rg_eq | refine rg_fr (by assumption) (by first | decide | (simp; omega)) ?_)) rfl rfl rfl ⟨(Nat.le_of_ble_eq_true rfl), (Nat.le_of_ble_eq_true rfl)⟩ (Nat.le_of_ble_eq_true rfl) ⟨(Nat.le_of_ble_eq_true rfl), (Nat.le_of_ble_eq_true rfl)⟩ ?_
          rintro _ _ ⟨rfl, rfl⟩
          refine a_put fd_X11_268 cl_X11 rfl 38 dX11_cell_35 rfl (by repeat (first | assumption | (refine rg_ne (by first | decide | omega) ?_) | apply rg_eq | refine rg_fr (by assumption) (by first | decide | (simp; omega)) ?_)) (Nat.le_of_ble_eq_true rfl) rfl rfl rfl ?_
          refine a_aload_n 39 dX11_cell_38 rfl rfl ?_
          refine a_get fd_X11_268 rfl 42 dX11_cell_39 rfl (by repeat (first | assumption | (refine rg_ne (by first | decide | omega) ?_) | apply rg_eq | refine rg_fr (by assumption) (by first | decide | (simp; omega)) ?_)) rfl ?_
          refine a_if_ne 59 45 dX11_cell_42 rfl (by decide) (fun c_42 => ?_) (fun c_42 => absurd c_42 hA)
          refine a_aload_n 60 dX11_cell_59 rfl rfl ?_
          refine a_get fd_X11_268 rfl 63 dX11_cell_60 rfl (by repeat (first | assumption | (refine rg_ne (by first | decide | omega) ?_) | apply rg_eq | refine rg_fr (by assumption) (by first | decide | (simp; omega)) ?_)) rfl ?_
          refine a_if_ne 76 66 dX11_cell_63 rfl (by decide) (fun c_63 => ?_) (fun c_63 => absurd c_63 hA)
          refine a_ldc2 (-9223372036854775808) 79 dX11_cell_76 rfl lk_X11_224 ?_
          exact a_lreturn dX11_cell_79 rfl (Nat.le_of_ble_eq_true rfl) (Nat.le_of_ble_eq_true rfl) ⟨by rw [ea0]; rfl, by rw [et0]; exact q1 _, kp_0L (fr_set f0 (by decide))⟩
    · rw [if_neg hd] at ea0 et0
      refine rM_start (by decide) (Nat.le_of_ble_eq_true rfl) ?_
      refine a_aload_n 1 dX11_cell_0 rfl rfl ?_
      refine a_iconst (0) 2 dX11_cell_1 rfl (by decide) ?_
      refine a_put fd_X11_268 cl_X11 rfl 5 dX11_cell_2 rfl (by repeat (first | assumption | (refine rg_ne (by first | decide | omega) ?_) | apply rg_eq | refine rg_fr (by assumption) (by first | decide | (simp; omega)) ?_)) (Nat.le_of_ble_eq_true rfl) rfl rfl rfl ?_
      refine a_aload_n 6 dX11_cell_5 rfl rfl ?_
      refine a_iload_n 7 dX11_cell_6 rfl rfl ?_
      refine a_callV ok_X11_sheetAt ln_X11_86 in_X11_sheetAt rfl 10 dX11_cell_7 rfl (c_sheet q0.1 hz) (by repeat (first | assumption | (refine rg_ne (by first | decide | omega) ?_) | apply rg_eq | refine rg_fr (by assumption) (by first | decide | (simp; omega)) ?_)) rfl rfl rfl ⟨(Nat.le_of_ble_eq_true rfl), (Nat.le_of_ble_eq_true rfl)⟩ (Nat.le_of_ble_eq_true rfl) ⟨(Nat.le_of_ble_eq_true rfl), (Nat.le_of_ble_eq_true rfl)⟩ ?_
      rintro _ _ ⟨rfl, rfl⟩
      refine a_astore 12 dX11_cell_10 rfl (by decide) ?_
      refine a_aload 14 dX11_cell_12 rfl rfl ?_
      refine a_ifnull 17 dX11_cell_14 rfl ?_
      refine a_iload_n 18 dX11_cell_17 rfl rfl ?_
      refine a_callS ok_X11_isLane ln_X11_320 is_X11_isLane rfl 21 dX11_cell_18 rfl (k_X11_isLane d) rfl rfl ⟨(Nat.le_of_ble_eq_true rfl), (Nat.le_of_ble_eq_true rfl)⟩ (Nat.le_of_ble_eq_true rfl) ⟨(Nat.le_of_ble_eq_true rfl), (Nat.le_of_ble_eq_true rfl)⟩ ?_
      rintro _ _ ⟨rfl, rfl⟩
      refine a_if_ne 28 24 dX11_cell_21 rfl (by decide) (fun c_21 => absurd (if_neg hd) c_21) (fun c_21 => ?_)
      refine a_ldc2 (-9223372036854775808) 27 dX11_cell_24 rfl lk_X11_224 ?_
      exact a_lreturn dX11_cell_27 rfl (Nat.le_of_ble_eq_true rfl) (Nat.le_of_ble_eq_true rfl) ⟨by rw [ea0]; rfl, by rw [et0]; exact q0, kp_0L f0⟩
end CSHE2
