/-! THE MODEL: cell -/
section MCELL
variable {l : Launch} {G : rG} {h : rH} {T : Tn}
set_option maxRecDepth 100000 in
set_option maxHeartbeats 400000 in
theorem m_cell (q : mAll G h T) (o : T.ok) (c a d : Int32) : rM l G 12 mX12_cell 0 0 [.ref (gN G + 38), .int c, .int a, .int d] h (fun h' w => w = some (.long (aCell T c a d)) ∧ mAll G h' (tCell T c a d) ∧ kp h h' mL) := by
  obtain ⟨i, j, q⟩ := q
  have hm := q.at
  have f0 : fr h (h.set 38 (mo G (upd i 0 0) j)) [38] := fr_set (fr_refl _ _) (by decide)
  have q0 : mX G (h.set 38 (mo G (upd i 0 0) j)) (setFT T 0 T.tr) (upd i 0 0) j := mX_fa q (rg_eq hm) f0
  have hm0 := q0.at
  rcases oT_cases (n := 4) (by decide) c with ⟨e, hc⟩ | ⟨z, hz, rfl, e⟩
  · have ea : aCell T c a d = lost64 := by unfold aCell; rw [e]
    have et : tCell T c a d = setFT T 0 T.tr := by unfold tCell; rw [e]
    refine rM_start (by decide) (Nat.le_of_ble_eq_true rfl) ?_
    refine a_aload_n 1 dX12_cell_0 rfl rfl ?_
    refine a_iconst (0) 2 dX12_cell_1 rfl (by decide) ?_
    refine a_put fd_X12_79 cl_X12 rfl 5 dX12_cell_2 rfl (by repeat (first | assumption | (refine rg_ne (by first | decide | omega) ?_) | apply rg_eq | refine rg_fr (by assumption) (by first | decide | (simp; omega)) ?_)) (Nat.le_of_ble_eq_true rfl) rfl rfl rfl ?_
    refine a_iload_n 6 dX12_cell_5 rfl rfl ?_
    refine a_callS ok_X12_noSheet ln_X12_87 is_X12_noSheet rfl 9 dX12_cell_6 rfl (k_X12_noSheet c) rfl rfl ⟨(Nat.le_of_ble_eq_true rfl), (Nat.le_of_ble_eq_true rfl)⟩ (Nat.le_of_ble_eq_true rfl) ⟨(Nat.le_of_ble_eq_true rfl), (Nat.le_of_ble_eq_true rfl)⟩ ?_
    rintro _ _ ⟨rfl, rfl⟩
    refine a_if_ne 24 12 dX12_cell_9 rfl (by decide) (fun c_9 => ?_) (fun c_9 => absurd c_9 (by rw [if_neg (show ¬ (0 ≤ c ∧ c < 4) from hc)]; decide))
    refine a_callS ok_X12_lost ln_X12_83 is_X12_lost rfl 27 dX12_cell_24 rfl (k_X12_lost) rfl rfl ⟨(Nat.le_of_ble_eq_true rfl), (Nat.le_of_ble_eq_true rfl)⟩ (Nat.le_of_ble_eq_true rfl) ⟨(Nat.le_of_ble_eq_true rfl), (Nat.le_of_ble_eq_true rfl)⟩ ?_
    rintro _ _ ⟨rfl, rfl⟩
    exact a_lreturn dX12_cell_27 rfl (Nat.le_of_ble_eq_true rfl) (Nat.le_of_ble_eq_true rfl) ⟨film_eq ea, by rw [et]; exact ⟨_, j, q0⟩, kpm f0 (by decide)⟩
  have hBR : (if (0 : Int64) ≤ d.toInt64 ∧ d.toInt64 ≤ 2 then (1 : Int32) else 0) = 0 ↔ ¬ laneI d := by rw [b_eq0, in02 d]
  by_cases hd : laneI d
  · have hd1 : ¬ (if (0 : Int64) ≤ d.toInt64 ∧ d.toInt64 ≤ 2 then (1 : Int32) else 0) = 0 := fun v => hBR.mp v hd
    have ea : aCell T (nI z) a d = if cellF T z a d = 0 then (T.ce z a.toNatClampNeg).toInt64 else lost64 := by unfold aCell; rw [e]; dsimp only; rw [if_pos hd]
    have et : tCell T (nI z) a d = setFT T (cellF T z a d) T.tr := by unfold tCell; rw [e]; dsimp only; rw [if_pos hd]
    have hsz := o.sz60 hz
    obtain ⟨f, g, w, h57, h58, h59, hx⟩ := q0.2.2.2.2.1
    have vz : vp_in (nI z) 4 := vp_in_nI hz (by decide)
    have ez : (nI z).toNatClampNeg = z := nI_clamp (by omega)
    have hfz : f z = if T.has z then nI (T.sz z) else -1 := (hx z hz).1
    have hgz : g z = T.ln z := (hx z hz).2.1
    have hend : ∀ {x : Int32} {h2 : rH}, cellF T z a d = x → h2[38]? = some (mo G (upd (upd i 0 0) 0 x) j) → fr (h.set 38 (mo G (upd i 0 0) j)) h2 [38] → mAll G h2 (tCell T (nI z) a d) ∧ kp h h2 mL := by
      intro x h2 ex e2 hf2
      rw [et, ex]
      exact ⟨⟨_, j, (mX_fa (T := setFT T 0 T.tr) q0 e2 hf2 :)⟩, kpm (fr_trans f0 hf2 (fun _ q => q)) (by decide)⟩
    have hlost : ∀ {x : Int32}, cellF T z a d = x → ¬ x = 0 → aCell T (nI z) a d = lost64 := by
      intro x ex hne
      rw [ea, ex, if_neg hne]
    cases hb : T.has z with
    | false =>
      have hc1 : cellF T z a d = 1 := by unfold cellF; rw [hb, if_neg Bool.false_ne_true]
      have hnc := nc_no (i := a) hfz hb
      have hneg : f z < 0 := by rw [hfz, hb, if_neg Bool.false_ne_true]; decide
      refine rM_start (by decide) (Nat.le_of_ble_eq_true rfl) ?_
      refine a_aload_n 1 dX12_cell_0 rfl rfl ?_
      refine a_iconst (0) 2 dX12_cell_1 rfl (by decide) ?_
      refine a_put fd_X12_79 cl_X12 rfl 5 dX12_cell_2 rfl (by repeat (first | assumption | (refine rg_ne (by first | decide | omega) ?_) | apply rg_eq | refine rg_fr (by assumption) (by first | decide | (simp; omega)) ?_)) (Nat.le_of_ble_eq_true rfl) rfl rfl rfl ?_
      refine a_iload_n 6 dX12_cell_5 rfl rfl ?_
      refine a_callS ok_X12_noSheet ln_X12_87 is_X12_noSheet rfl 9 dX12_cell_6 rfl (k_X12_noSheet (nI z)) rfl rfl ⟨(Nat.le_of_ble_eq_true rfl), (Nat.le_of_ble_eq_true rfl)⟩ (Nat.le_of_ble_eq_true rfl) ⟨(Nat.le_of_ble_eq_true rfl), (Nat.le_of_ble_eq_true rfl)⟩ ?_
      rintro _ _ ⟨rfl, rfl⟩
      refine a_if_ne 24 12 dX12_cell_9 rfl (by decide) (fun c_9 => absurd (if_pos (oT_yes hz (by decide))) c_9) (fun c_9 => ?_)
      refine a_iload_n 13 dX12_cell_12 rfl rfl ?_
      refine a_i2l 14 dX12_cell_13 rfl ?_
      refine a_lconst (0) 15 dX12_cell_14 rfl (by decide) ?_
      refine a_ldc2 (2) 18 dX12_cell_15 rfl lk_X12_95 ?_
      refine a_callS ok_X12_in ln_X12_97 is_X12_in rfl 21 dX12_cell_18 rfl (k_X12_in _ _ _) rfl rfl ⟨(Nat.le_of_ble_eq_true rfl), (Nat.le_of_ble_eq_true rfl)⟩ (Nat.le_of_ble_eq_true rfl) ⟨(Nat.le_of_ble_eq_true rfl), (Nat.le_of_ble_eq_true rfl)⟩ ?_
      rintro _ _ ⟨rfl, rfl⟩
      refine a_if_ne 28 24 dX12_cell_21 rfl (by decide) (fun c_21 => ?_) (fun c_21 => absurd c_21 hd1)
      refine a_aload_n 29 dX12_cell_28 rfl rfl ?_
      refine a_get fd_X12_65 rfl 32 dX12_cell_29 rfl (by repeat (first | assumption | (refine rg_ne (by first | decide | omega) ?_) | apply rg_eq | refine rg_fr (by assumption) (by first | decide | (simp; omega)) ?_)) rfl ?_
      refine a_iload_n 33 dX12_cell_32 rfl rfl ?_
      refine a_iaload 34 dX12_cell_33 rfl (by repeat (first | assumption | (refine rg_ne (by first | decide | omega) ?_) | apply rg_eq | refine rg_fr (by assumption) (by first | decide | (simp; omega)) ?_)) vz ?_
      rw [ez]
      refine a_if_lt 53 37 dX12_cell_34 rfl (by decide) (fun c_34 => ?_) (fun c_34 => absurd hneg c_34)
      refine a_aload_n 54 dX12_cell_53 rfl rfl ?_
      refine a_iload_n 55 dX12_cell_54 rfl rfl ?_
      refine a_iload_n 56 dX12_cell_55 rfl rfl ?_
      refine a_callV ok_X12_noCell ln_X12_320 in_X12_noCell rfl 59 dX12_cell_56 rfl (k_X12_noCell hm0 h57 hz a) (by repeat (first | assumption | (refine rg_ne (by first | decide | omega) ?_) | apply rg_eq | refine rg_fr (by assumption) (by first | decide | (simp; omega)) ?_)) rfl rfl rfl ⟨(Nat.le_of_ble_eq_true rfl), (Nat.le_of_ble_eq_true rfl)⟩ (Nat.le_of_ble_eq_true rfl) ⟨(Nat.le_of_ble_eq_true rfl), (Nat.le_of_ble_eq_true rfl)⟩ ?_
      rintro _ _ ⟨rfl, rfl⟩
      rw [hnc]
      refine a_if_le 75 62 dX12_cell_59 rfl (by decide) (fun c_59 => absurd c_59 (by decide)) (fun c_59 => ?_)
      refine a_aload_n 63 dX12_cell_62 rfl rfl ?_
      refine a_aload_n 64 dX12_cell_63 rfl rfl ?_
      refine a_iload_n 65 dX12_cell_64 rfl rfl ?_
      refine a_iload_n 66 dX12_cell_65 rfl rfl ?_
      refine a_callV ok_X12_noCell ln_X12_320 in_X12_noCell rfl 69 dX12_cell_66 rfl (k_X12_noCell hm0 h57 hz a) (by repeat (first | assumption | (refine rg_ne (by first | decide | omega) ?_) | apply rg_eq | refine rg_fr (by assumption) (by first | decide | (simp; omega)) ?_)) rfl rfl rfl ⟨(Nat.le_of_ble_eq_true rfl), (Nat.le_of_ble_eq_true rfl)⟩ (Nat.le_of_ble_eq_true rfl) ⟨(Nat.le_of_ble_eq_true rfl), (Nat.le_of_ble_eq_true rfl)⟩ ?_
      rintro _ _ ⟨rfl, rfl⟩
      rw [hnc]
      refine a_callV ok_X12_failedLong ln_X12_323 in_X12_failedLong rfl 72 dX12_cell_69 rfl (k_X12_failedLong hm0 1) (by repeat (first | assumption | (refine rg_ne (by first | decide | omega) ?_) | apply rg_eq | refine rg_fr (by assumption) (by first | decide | (simp; omega)) ?_)) rfl rfl rfl ⟨(Nat.le_of_ble_eq_true rfl), (Nat.le_of_ble_eq_true rfl)⟩ (Nat.le_of_ble_eq_true rfl) ⟨(Nat.le_of_ble_eq_true rfl), (Nat.le_of_ble_eq_true rfl)⟩ ?_
      rintro h2 v ⟨rfl, e2, hf2⟩
      refine a_goto 87 dX12_cell_72 (by decide) ?_
      exact a_lreturn dX12_cell_87 rfl (Nat.le_of_ble_eq_true rfl) (Nat.le_of_ble_eq_true rfl) ⟨film_eq (hlost hc1 (by decide)), hend hc1 e2 hf2⟩
    | true =>
      have hge : ¬ f z < 0 := by rw [hfz, hb, if_pos rfl, ← nI_0]; exact nI_nlt (Nat.zero_le _) (by omega)
      by_cases hl : T.ln z = d
      · rcases oT_cases (n := T.sz z) (by omega) a with ⟨e2, ha⟩ | ⟨k, hk, rfl, e2⟩
        · have hc1 : cellF T z a d = 3 := by unfold cellF; rw [hb, if_pos rfl, if_pos hl, e2]
          have hnc := nc_out (i := a) hfz hb hsz ha
          refine rM_start (by decide) (Nat.le_of_ble_eq_true rfl) ?_
          refine a_aload_n 1 dX12_cell_0 rfl rfl ?_
          refine a_iconst (0) 2 dX12_cell_1 rfl (by decide) ?_
          refine a_put fd_X12_79 cl_X12 rfl 5 dX12_cell_2 rfl (by repeat (first | assumption | (refine rg_ne (by first | decide | omega) ?_) | apply rg_eq | refine rg_fr (by assumption) (by first | decide | (simp; omega)) ?_)) (Nat.le_of_ble_eq_true rfl) rfl rfl rfl ?_
          refine a_iload_n 6 dX12_cell_5 rfl rfl ?_
          refine a_callS ok_X12_noSheet ln_X12_87 is_X12_noSheet rfl 9 dX12_cell_6 rfl (k_X12_noSheet (nI z)) rfl rfl ⟨(Nat.le_of_ble_eq_true rfl), (Nat.le_of_ble_eq_true rfl)⟩ (Nat.le_of_ble_eq_true rfl) ⟨(Nat.le_of_ble_eq_true rfl), (Nat.le_of_ble_eq_true rfl)⟩ ?_
          rintro _ _ ⟨rfl, rfl⟩
          refine a_if_ne 24 12 dX12_cell_9 rfl (by decide) (fun c_9 => absurd (if_pos (oT_yes hz (by decide))) c_9) (fun c_9 => ?_)
          refine a_iload_n 13 dX12_cell_12 rfl rfl ?_
          refine a_i2l 14 dX12_cell_13 rfl ?_
          refine a_lconst (0) 15 dX12_cell_14 rfl (by decide) ?_
          refine a_ldc2 (2) 18 dX12_cell_15 rfl lk_X12_95 ?_
          refine a_callS ok_X12_in ln_X12_97 is_X12_in rfl 21 dX12_cell_18 rfl (k_X12_in _ _ _) rfl rfl ⟨(Nat.le_of_ble_eq_true rfl), (Nat.le_of_ble_eq_true rfl)⟩ (Nat.le_of_ble_eq_true rfl) ⟨(Nat.le_of_ble_eq_true rfl), (Nat.le_of_ble_eq_true rfl)⟩ ?_
          rintro _ _ ⟨rfl, rfl⟩
          refine a_if_ne 28 24 dX12_cell_21 rfl (by decide) (fun c_21 => ?_) (fun c_21 => absurd c_21 hd1)
          refine a_aload_n 29 dX12_cell_28 rfl rfl ?_
          refine a_get fd_X12_65 rfl 32 dX12_cell_29 rfl (by repeat (first | assumption | (refine rg_ne (by first | decide | omega) ?_) | apply rg_eq | refine rg_fr (by assumption) (by first | decide | (simp; omega)) ?_)) rfl ?_
          refine a_iload_n 33 dX12_cell_32 rfl rfl ?_
          refine a_iaload 34 dX12_cell_33 rfl (by repeat (first | assumption | (refine rg_ne (by first | decide | omega) ?_) | apply rg_eq | refine rg_fr (by assumption) (by first | decide | (simp; omega)) ?_)) vz ?_
          rw [ez]
          refine a_if_lt 53 37 dX12_cell_34 rfl (by decide) (fun c_34 => absurd c_34 hge) (fun c_34 => ?_)
          refine a_aload_n 38 dX12_cell_37 rfl rfl ?_
          refine a_get fd_X12_68 rfl 41 dX12_cell_38 rfl (by repeat (first | assumption | (refine rg_ne (by first | decide | omega) ?_) | apply rg_eq | refine rg_fr (by assumption) (by first | decide | (simp; omega)) ?_)) rfl ?_
          refine a_iload_n 42 dX12_cell_41 rfl rfl ?_
          refine a_iaload 43 dX12_cell_42 rfl (by repeat (first | assumption | (refine rg_ne (by first | decide | omega) ?_) | apply rg_eq | refine rg_fr (by assumption) (by first | decide | (simp; omega)) ?_)) vz ?_
          rw [ez, hgz]
          refine a_iload_n 44 dX12_cell_43 rfl rfl ?_
          refine a_icmp_eq 53 47 dX12_cell_44 rfl (by decide) (fun c_44 => ?_) (fun c_44 => absurd hl c_44)
          refine a_aload_n 54 dX12_cell_53 rfl rfl ?_
          refine a_iload_n 55 dX12_cell_54 rfl rfl ?_
          refine a_iload_n 56 dX12_cell_55 rfl rfl ?_
          refine a_callV ok_X12_noCell ln_X12_320 in_X12_noCell rfl 59 dX12_cell_56 rfl (k_X12_noCell hm0 h57 hz a) (by repeat (first | assumption | (refine rg_ne (by first | decide | omega) ?_) | apply rg_eq | refine rg_fr (by assumption) (by first | decide | (simp; omega)) ?_)) rfl rfl rfl ⟨(Nat.le_of_ble_eq_true rfl), (Nat.le_of_ble_eq_true rfl)⟩ (Nat.le_of_ble_eq_true rfl) ⟨(Nat.le_of_ble_eq_true rfl), (Nat.le_of_ble_eq_true rfl)⟩ ?_
          rintro _ _ ⟨rfl, rfl⟩
          rw [hnc]
          refine a_if_le 75 62 dX12_cell_59 rfl (by decide) (fun c_59 => absurd c_59 (by decide)) (fun c_59 => ?_)
          refine a_aload_n 63 dX12_cell_62 rfl rfl ?_
          refine a_aload_n 64 dX12_cell_63 rfl rfl ?_
          refine a_iload_n 65 dX12_cell_64 rfl rfl ?_
          refine a_iload_n 66 dX12_cell_65 rfl rfl ?_
          refine a_callV ok_X12_noCell ln_X12_320 in_X12_noCell rfl 69 dX12_cell_66 rfl (k_X12_noCell hm0 h57 hz a) (by repeat (first | assumption | (refine rg_ne (by first | decide | omega) ?_) | apply rg_eq | refine rg_fr (by assumption) (by first | decide | (simp; omega)) ?_)) rfl rfl rfl ⟨(Nat.le_of_ble_eq_true rfl), (Nat.le_of_ble_eq_true rfl)⟩ (Nat.le_of_ble_eq_true rfl) ⟨(Nat.le_of_ble_eq_true rfl), (Nat.le_of_ble_eq_true rfl)⟩ ?_
          rintro _ _ ⟨rfl, rfl⟩
          rw [hnc]
          refine a_callV ok_X12_failedLong ln_X12_323 in_X12_failedLong rfl 72 dX12_cell_69 rfl (k_X12_failedLong hm0 3) (by repeat (first | assumption | (refine rg_ne (by first | decide | omega) ?_) | apply rg_eq | refine rg_fr (by assumption) (by first | decide | (simp; omega)) ?_)) rfl rfl rfl ⟨(Nat.le_of_ble_eq_true rfl), (Nat.le_of_ble_eq_true rfl)⟩ (Nat.le_of_ble_eq_true rfl) ⟨(Nat.le_of_ble_eq_true rfl), (Nat.le_of_ble_eq_true rfl)⟩ ?_
          rintro h2 v ⟨rfl, e2, hf2⟩
          refine a_goto 87 dX12_cell_72 (by decide) ?_
          exact a_lreturn dX12_cell_87 rfl (Nat.le_of_ble_eq_true rfl) (Nat.le_of_ble_eq_true rfl) ⟨film_eq (hlost hc1 (by decide)), hend hc1 e2 hf2⟩
        · have hc1 : cellF T z (nI k) d = 0 := by unfold cellF; rw [hb, if_pos rfl, if_pos hl, e2]
          have hnc := nc_in (i := nI k) hfz hb hsz (oT_yes hk (by omega))
          have e73 : (60 : Int32) * nI z + nI k = nI (60 * z + k) := by rw [show (60 : Int32) = nI 60 from rfl, pk_mul, nI_add]
          have v73 : vp_in (60 * nI z + nI k) 240 := by rw [e73]; exact vp_in_nI (by omega) (by decide)
          have c73 : w (60 * nI z + nI k).toNatClampNeg = T.ce z k := by rw [e73, nI_clamp (by omega)]; exact (hx z hz).2.2 k hk
          refine rM_start (by decide) (Nat.le_of_ble_eq_true rfl) ?_
          refine a_aload_n 1 dX12_cell_0 rfl rfl ?_
          refine a_iconst (0) 2 dX12_cell_1 rfl (by decide) ?_
          refine a_put fd_X12_79 cl_X12 rfl 5 dX12_cell_2 rfl (by repeat (first | assumption | (refine rg_ne (by first | decide | omega) ?_) | apply rg_eq | refine rg_fr (by assumption) (by first | decide | (simp; omega)) ?_)) (Nat.le_of_ble_eq_true rfl) rfl rfl rfl ?_
          refine a_iload_n 6 dX12_cell_5 rfl rfl ?_
          refine a_callS ok_X12_noSheet ln_X12_87 is_X12_noSheet rfl 9 dX12_cell_6 rfl (k_X12_noSheet (nI z)) rfl rfl ⟨(Nat.le_of_ble_eq_true rfl), (Nat.le_of_ble_eq_true rfl)⟩ (Nat.le_of_ble_eq_true rfl) ⟨(Nat.le_of_ble_eq_true rfl), (Nat.le_of_ble_eq_true rfl)⟩ ?_
          rintro _ _ ⟨rfl, rfl⟩
          refine a_if_ne 24 12 dX12_cell_9 rfl (by decide) (fun c_9 => absurd (if_pos (oT_yes hz (by decide))) c_9) (fun c_9 => ?_)
          refine a_iload_n 13 dX12_cell_12 rfl rfl ?_
          refine a_i2l 14 dX12_cell_13 rfl ?_
          refine a_lconst (0) 15 dX12_cell_14 rfl (by decide) ?_
          refine a_ldc2 (2) 18 dX12_cell_15 rfl lk_X12_95 ?_
          refine a_callS ok_X12_in ln_X12_97 is_X12_in rfl 21 dX12_cell_18 rfl (k_X12_in _ _ _) rfl rfl ⟨(Nat.le_of_ble_eq_true rfl), (Nat.le_of_ble_eq_true rfl)⟩ (Nat.le_of_ble_eq_true rfl) ⟨(Nat.le_of_ble_eq_true rfl), (Nat.le_of_ble_eq_true rfl)⟩ ?_
          rintro _ _ ⟨rfl, rfl⟩
          refine a_if_ne 28 24 dX12_cell_21 rfl (by decide) (fun c_21 => ?_) (fun c_21 => absurd c_21 hd1)
          refine a_aload_n 29 dX12_cell_28 rfl rfl ?_
          refine a_get fd_X12_65 rfl 32 dX12_cell_29 rfl (by repeat (first | assumption | (refine rg_ne (by first | decide | omega) ?_) | apply rg_eq | refine rg_fr (by assumption) (by first | decide | (simp; omega)) ?_)) rfl ?_
          refine a_iload_n 33 dX12_cell_32 rfl rfl ?_
          refine a_iaload 34 dX12_cell_33 rfl (by repeat (first | assumption | (refine rg_ne (by first | decide | omega) ?_) | apply rg_eq | refine rg_fr (by assumption) (by first | decide | (simp; omega)) ?_)) vz ?_
          rw [ez]
          refine a_if_lt 53 37 dX12_cell_34 rfl (by decide) (fun c_34 => absurd c_34 hge) (fun c_34 => ?_)
          refine a_aload_n 38 dX12_cell_37 rfl rfl ?_
          refine a_get fd_X12_68 rfl 41 dX12_cell_38 rfl (by repeat (first | assumption | (refine rg_ne (by first | decide | omega) ?_) | apply rg_eq | refine rg_fr (by assumption) (by first | decide | (simp; omega)) ?_)) rfl ?_
          refine a_iload_n 42 dX12_cell_41 rfl rfl ?_
          refine a_iaload 43 dX12_cell_42 rfl (by repeat (first | assumption | (refine rg_ne (by first | decide | omega) ?_) | apply rg_eq | refine rg_fr (by assumption) (by first | decide | (simp; omega)) ?_)) vz ?_
          rw [ez, hgz]
          refine a_iload_n 44 dX12_cell_43 rfl rfl ?_
          refine a_icmp_eq 53 47 dX12_cell_44 rfl (by decide) (fun c_44 => ?_) (fun c_44 => absurd hl c_44)
          refine a_aload_n 54 dX12_cell_53 rfl rfl ?_
          refine a_iload_n 55 dX12_cell_54 rfl rfl ?_
          refine a_iload_n 56 dX12_cell_55 rfl rfl ?_
          refine a_callV ok_X12_noCell ln_X12_320 in_X12_noCell rfl 59 dX12_cell_56 rfl (k_X12_noCell hm0 h57 hz (nI k)) (by repeat (first | assumption | (refine rg_ne (by first | decide | omega) ?_) | apply rg_eq | refine rg_fr (by assumption) (by first | decide | (simp; omega)) ?_)) rfl rfl rfl ⟨(Nat.le_of_ble_eq_true rfl), (Nat.le_of_ble_eq_true rfl)⟩ (Nat.le_of_ble_eq_true rfl) ⟨(Nat.le_of_ble_eq_true rfl), (Nat.le_of_ble_eq_true rfl)⟩ ?_
          rintro _ _ ⟨rfl, rfl⟩
          rw [hnc]
          refine a_if_le 75 62 dX12_cell_59 rfl (by decide) (fun c_59 => ?_) (fun c_59 => absurd (Int32.le_refl _) c_59)
          refine a_aload_n 76 dX12_cell_75 rfl rfl ?_
          refine a_get fd_X12_71 rfl 79 dX12_cell_76 rfl (by repeat (first | assumption | (refine rg_ne (by first | decide | omega) ?_) | apply rg_eq | refine rg_fr (by assumption) (by first | decide | (simp; omega)) ?_)) rfl ?_
          refine a_bipush (60) 81 dX12_cell_79 rfl (by decide) ?_
          refine a_iload_n 82 dX12_cell_81 rfl rfl ?_
          refine a_imul 83 dX12_cell_82 rfl ?_
          refine a_iload_n 84 dX12_cell_83 rfl rfl ?_
          refine a_iadd 85 dX12_cell_84 rfl ?_
          refine a_iaload 86 dX12_cell_85 rfl (by repeat (first | assumption | (refine rg_ne (by first | decide | omega) ?_) | apply rg_eq | refine rg_fr (by assumption) (by first | decide | (simp; omega)) ?_)) v73 ?_
          rw [c73]
          refine a_i2l 87 dX12_cell_86 rfl ?_
          exact a_lreturn dX12_cell_87 rfl (Nat.le_of_ble_eq_true rfl) (Nat.le_of_ble_eq_true rfl) ⟨by rw [ea, if_pos hc1, nI_clamp (by omega)], by rw [et, hc1]; exact ⟨_, j, q0⟩, kpm f0 (by decide)⟩
      · have hc1 : cellF T z a d = 2 := by unfold cellF; rw [hb, if_pos rfl, if_neg hl]
        refine rM_start (by decide) (Nat.le_of_ble_eq_true rfl) ?_
        refine a_aload_n 1 dX12_cell_0 rfl rfl ?_
        refine a_iconst (0) 2 dX12_cell_1 rfl (by decide) ?_
        refine a_put fd_X12_79 cl_X12 rfl 5 dX12_cell_2 rfl (by repeat (first | assumption | (refine rg_ne (by first | decide | omega) ?_) | apply rg_eq | refine rg_fr (by assumption) (by first | decide | (simp; omega)) ?_)) (Nat.le_of_ble_eq_true rfl) rfl rfl rfl ?_
        refine a_iload_n 6 dX12_cell_5 rfl rfl ?_
        refine a_callS ok_X12_noSheet ln_X12_87 is_X12_noSheet rfl 9 dX12_cell_6 rfl (k_X12_noSheet (nI z)) rfl rfl ⟨(Nat.le_of_ble_eq_true rfl), (Nat.le_of_ble_eq_true rfl)⟩ (Nat.le_of_ble_eq_true rfl) ⟨(Nat.le_of_ble_eq_true rfl), (Nat.le_of_ble_eq_true rfl)⟩ ?_
        rintro _ _ ⟨rfl, rfl⟩
        refine a_if_ne 24 12 dX12_cell_9 rfl (by decide) (fun c_9 => absurd (if_pos (oT_yes hz (by decide))) c_9) (fun c_9 => ?_)
        refine a_iload_n 13 dX12_cell_12 rfl rfl ?_
        refine a_i2l 14 dX12_cell_13 rfl ?_
        refine a_lconst (0) 15 dX12_cell_14 rfl (by decide) ?_
        refine a_ldc2 (2) 18 dX12_cell_15 rfl lk_X12_95 ?_
        refine a_callS ok_X12_in ln_X12_97 is_X12_in rfl 21 dX12_cell_18 rfl (k_X12_in _ _ _) rfl rfl ⟨(Nat.le_of_ble_eq_true rfl), (Nat.le_of_ble_eq_true rfl)⟩ (Nat.le_of_ble_eq_true rfl) ⟨(Nat.le_of_ble_eq_true rfl), (Nat.le_of_ble_eq_true rfl)⟩ ?_
        rintro _ _ ⟨rfl, rfl⟩
        refine a_if_ne 28 24 dX12_cell_21 rfl (by decide) (fun c_21 => ?_) (fun c_21 => absurd c_21 hd1)
        refine a_aload_n 29 dX12_cell_28 rfl rfl ?_
        refine a_get fd_X12_65 rfl 32 dX12_cell_29 rfl (by repeat (first | assumption | (refine rg_ne (by first | decide | omega) ?_) | apply rg_eq | refine rg_fr (by assumption) (by first | decide | (simp; omega)) ?_)) rfl ?_
        refine a_iload_n 33 dX12_cell_32 rfl rfl ?_
        refine a_iaload 34 dX12_cell_33 rfl (by repeat (first | assumption | (refine rg_ne (by first | decide | omega) ?_) | apply rg_eq | refine rg_fr (by assumption) (by first | decide | (simp; omega)) ?_)) vz ?_
        rw [ez]
        refine a_if_lt 53 37 dX12_cell_34 rfl (by decide) (fun c_34 => absurd c_34 hge) (fun c_34 => ?_)
        refine a_aload_n 38 dX12_cell_37 rfl rfl ?_
        refine a_get fd_X12_68 rfl 41 dX12_cell_38 rfl (by repeat (first | assumption | (refine rg_ne (by first | decide | omega) ?_) | apply rg_eq | refine rg_fr (by assumption) (by first | decide | (simp; omega)) ?_)) rfl ?_
        refine a_iload_n 42 dX12_cell_41 rfl rfl ?_
        refine a_iaload 43 dX12_cell_42 rfl (by repeat (first | assumption | (refine rg_ne (by first | decide | omega) ?_) | apply rg_eq | refine rg_fr (by assumption) (by first | decide | (simp; omega)) ?_)) vz ?_
        rw [ez, hgz]
        refine a_iload_n 44 dX12_cell_43 rfl rfl ?_
        refine a_icmp_eq 53 47 dX12_cell_44 rfl (by decide) (fun c_44 => absurd c_44 hl) (fun c_44 => ?_)
        refine a_aload_n 48 dX12_cell_47 rfl rfl ?_
        refine a_iconst (2) 49 dX12_cell_48 rfl (by decide) ?_
        refine a_callV ok_X12_failedLong ln_X12_323 in_X12_failedLong rfl 52 dX12_cell_49 rfl (k_X12_failedLong hm0 2) (by repeat (first | assumption | (refine rg_ne (by first | decide | omega) ?_) | apply rg_eq | refine rg_fr (by assumption) (by first | decide | (simp; omega)) ?_)) rfl rfl rfl ⟨(Nat.le_of_ble_eq_true rfl), (Nat.le_of_ble_eq_true rfl)⟩ (Nat.le_of_ble_eq_true rfl) ⟨(Nat.le_of_ble_eq_true rfl), (Nat.le_of_ble_eq_true rfl)⟩ ?_
        rintro h2 v ⟨rfl, e2, hf2⟩
        exact a_lreturn dX12_cell_52 rfl (Nat.le_of_ble_eq_true rfl) (Nat.le_of_ble_eq_true rfl) ⟨film_eq (hlost hc1 (by decide)), hend hc1 e2 hf2⟩
  · have hd1 := hBR.mpr hd
    have ea : aCell T (nI z) a d = lost64 := by unfold aCell; rw [e]; dsimp only; rw [if_neg hd]
    have et : tCell T (nI z) a d = setFT T 0 T.tr := by unfold tCell; rw [e]; dsimp only; rw [if_neg hd]
    refine rM_start (by decide) (Nat.le_of_ble_eq_true rfl) ?_
    refine a_aload_n 1 dX12_cell_0 rfl rfl ?_
    refine a_iconst (0) 2 dX12_cell_1 rfl (by decide) ?_
    refine a_put fd_X12_79 cl_X12 rfl 5 dX12_cell_2 rfl (by repeat (first | assumption | (refine rg_ne (by first | decide | omega) ?_) | apply rg_eq | refine rg_fr (by assumption) (by first | decide | (simp; omega)) ?_)) (Nat.le_of_ble_eq_true rfl) rfl rfl rfl ?_
    refine a_iload_n 6 dX12_cell_5 rfl rfl ?_
    refine a_callS ok_X12_noSheet ln_X12_87 is_X12_noSheet rfl 9 dX12_cell_6 rfl (k_X12_noSheet (nI z)) rfl rfl ⟨(Nat.le_of_ble_eq_true rfl), (Nat.le_of_ble_eq_true rfl)⟩ (Nat.le_of_ble_eq_true rfl) ⟨(Nat.le_of_ble_eq_true rfl), (Nat.le_of_ble_eq_true rfl)⟩ ?_
    rintro _ _ ⟨rfl, rfl⟩
    refine a_if_ne 24 12 dX12_cell_9 rfl (by decide) (fun c_9 => absurd (if_pos (oT_yes hz (by decide))) c_9) (fun c_9 => ?_)
    refine a_iload_n 13 dX12_cell_12 rfl rfl ?_
    refine a_i2l 14 dX12_cell_13 rfl ?_
    refine a_lconst (0) 15 dX12_cell_14 rfl (by decide) ?_
    refine a_ldc2 (2) 18 dX12_cell_15 rfl lk_X12_95 ?_
    refine a_callS ok_X12_in ln_X12_97 is_X12_in rfl 21 dX12_cell_18 rfl (k_X12_in _ _ _) rfl rfl ⟨(Nat.le_of_ble_eq_true rfl), (Nat.le_of_ble_eq_true rfl)⟩ (Nat.le_of_ble_eq_true rfl) ⟨(Nat.le_of_ble_eq_true rfl), (Nat.le_of_ble_eq_true rfl)⟩ ?_
    rintro _ _ ⟨rfl, rfl⟩
    refine a_if_ne 28 24 dX12_cell_21 rfl (by decide) (fun c_21 => absurd hd1 c_21) (fun c_21 => ?_)
    refine a_callS ok_X12_lost ln_X12_83 is_X12_lost rfl 27 dX12_cell_24 rfl (k_X12_lost) rfl rfl ⟨(Nat.le_of_ble_eq_true rfl), (Nat.le_of_ble_eq_true rfl)⟩ (Nat.le_of_ble_eq_true rfl) ⟨(Nat.le_of_ble_eq_true rfl), (Nat.le_of_ble_eq_true rfl)⟩ ?_
    rintro _ _ ⟨rfl, rfl⟩
    exact a_lreturn dX12_cell_27 rfl (Nat.le_of_ble_eq_true rfl) (Nat.le_of_ble_eq_true rfl) ⟨film_eq ea, by rw [et]; exact ⟨_, j, q0⟩, kpm f0 (by decide)⟩
end MCELL
