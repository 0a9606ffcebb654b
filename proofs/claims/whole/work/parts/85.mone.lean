/-! THE MODEL's calls on ones, laws, yawns -/
section MONE2
variable {l : Launch} {G : rG} {h : rH} {T : Tn}
theorem in06 (d : Int32) : ((0 : Int64) ≤ d.toInt64 ∧ d.toInt64 ≤ 6) ↔ (0 ≤ d ∧ d < nI 7) := in64c d 6 (by decide) rfl
set_option maxRecDepth 100000 in
set_option maxHeartbeats 400000 in
theorem m_ofLaw (q : mAll G h T) (o : T.ok) (c d : Int32) : rM l G 12 mX12_ofLaw 0 0 [.ref (gN G + 38), .int c, .int d] h (fun h' v => v = some (.int (aOfLaw T c d)) ∧ mAll G h' T ∧ kp h h' mL) := by
  obtain ⟨i, j, q⟩ := q
  have hnl := o.nl6
  have hm := q.at
  rcases oT_cases (n := T.nl) (by omega) c with ⟨e, hc⟩ | ⟨z, hz, rfl, e⟩
  · have ea : aOfLaw T c d = -1 := by unfold aOfLaw; rw [e]
    refine rM_start (by decide) (Nat.le_of_ble_eq_true rfl) ?_
    refine a_aload_n 1 dX12_ofLaw_0 rfl rfl ?_
    refine a_iload_n 2 dX12_ofLaw_1 rfl rfl ?_
    refine a_callV ok_X12_noLaw ln_X12_218 in_X12_noLaw rfl 5 dX12_ofLaw_2 rfl (m_noLaw q c) (by repeat (first | assumption | (refine rg_ne (by first | decide | omega) ?_) | apply rg_eq | refine rg_fr (by assumption) (by first | decide | (simp; omega)) ?_)) rfl rfl rfl ⟨(Nat.le_of_ble_eq_true rfl), (Nat.le_of_ble_eq_true rfl)⟩ (Nat.le_of_ble_eq_true rfl) ⟨(Nat.le_of_ble_eq_true rfl), (Nat.le_of_ble_eq_true rfl)⟩ ?_
    rintro _ _ ⟨rfl, rfl⟩
    refine a_if_ne 20 8 dX12_ofLaw_5 rfl (by decide) (fun c_5 => ?_) (fun c_5 => absurd c_5 (by rw [if_neg hc]; decide))
    refine a_iconst (-1) 21 dX12_ofLaw_20 rfl (by decide) ?_
    refine a_goto 30 dX12_ofLaw_21 (by decide) ?_
    exact a_ireturn dX12_ofLaw_30 rfl rfl (Nat.le_of_ble_eq_true rfl) (Nat.le_of_ble_eq_true rfl) ⟨by rw [ea], ⟨i, j, q⟩, fun _ _ _ => rfl⟩
  · have hin := in06 d
    rcases oT_cases (n := 7) (by omega) d with ⟨e2, hd⟩ | ⟨w, hw, rfl, e2⟩
    · have ea : aOfLaw T (nI z) d = -1 := by unfold aOfLaw; rw [e, e2]
      refine rM_start (by decide) (Nat.le_of_ble_eq_true rfl) ?_
      refine a_aload_n 1 dX12_ofLaw_0 rfl rfl ?_
      refine a_iload_n 2 dX12_ofLaw_1 rfl rfl ?_
      refine a_callV ok_X12_noLaw ln_X12_218 in_X12_noLaw rfl 5 dX12_ofLaw_2 rfl (m_noLaw q (nI z)) (by repeat (first | assumption | (refine rg_ne (by first | decide | omega) ?_) | apply rg_eq | refine rg_fr (by assumption) (by first | decide | (simp; omega)) ?_)) rfl rfl rfl ⟨(Nat.le_of_ble_eq_true rfl), (Nat.le_of_ble_eq_true rfl)⟩ (Nat.le_of_ble_eq_true rfl) ⟨(Nat.le_of_ble_eq_true rfl), (Nat.le_of_ble_eq_true rfl)⟩ ?_
      rintro _ _ ⟨rfl, rfl⟩
      refine a_if_ne 20 8 dX12_ofLaw_5 rfl (by decide) (fun c_5 => absurd (if_pos (oT_yes hz (by omega))) c_5) (fun c_5 => ?_)
      refine a_iload_n 9 dX12_ofLaw_8 rfl rfl ?_
      refine a_i2l 10 dX12_ofLaw_9 rfl ?_
      refine a_lconst (0) 11 dX12_ofLaw_10 rfl (by decide) ?_
      refine a_ldc2 (6) 14 dX12_ofLaw_11 rfl lk_X12_221 ?_
      refine a_callS ok_X12_in ln_X12_97 is_X12_in rfl 17 dX12_ofLaw_14 rfl (k_X12_in _ _ _) rfl rfl ⟨(Nat.le_of_ble_eq_true rfl), (Nat.le_of_ble_eq_true rfl)⟩ (Nat.le_of_ble_eq_true rfl) ⟨(Nat.le_of_ble_eq_true rfl), (Nat.le_of_ble_eq_true rfl)⟩ ?_
      rintro _ _ ⟨rfl, rfl⟩
      refine a_if_ne 24 20 dX12_ofLaw_17 rfl (by decide) (fun c_17 => absurd (if_neg (fun v => hd (hin.mp v))) c_17) (fun c_17 => ?_)
      refine a_iconst (-1) 21 dX12_ofLaw_20 rfl (by decide) ?_
      refine a_goto 30 dX12_ofLaw_21 (by decide) ?_
      exact a_ireturn dX12_ofLaw_30 rfl rfl (Nat.le_of_ble_eq_true rfl) (Nat.le_of_ble_eq_true rfl) ⟨by rw [ea], ⟨i, j, q⟩, fun _ _ _ => rfl⟩
    · have ea : aOfLaw T (nI z) (nI w) = nI (T.nu z w) := by unfold aOfLaw; rw [e, e2]
      refine rM_start (by decide) (Nat.le_of_ble_eq_true rfl) ?_
      refine a_aload_n 1 dX12_ofLaw_0 rfl rfl ?_
      refine a_iload_n 2 dX12_ofLaw_1 rfl rfl ?_
      refine a_callV ok_X12_noLaw ln_X12_218 in_X12_noLaw rfl 5 dX12_ofLaw_2 rfl (m_noLaw q (nI z)) (by repeat (first | assumption | (refine rg_ne (by first | decide | omega) ?_) | apply rg_eq | refine rg_fr (by assumption) (by first | decide | (simp; omega)) ?_)) rfl rfl rfl ⟨(Nat.le_of_ble_eq_true rfl), (Nat.le_of_ble_eq_true rfl)⟩ (Nat.le_of_ble_eq_true rfl) ⟨(Nat.le_of_ble_eq_true rfl), (Nat.le_of_ble_eq_true rfl)⟩ ?_
      rintro _ _ ⟨rfl, rfl⟩
      refine a_if_ne 20 8 dX12_ofLaw_5 rfl (by decide) (fun c_5 => absurd (if_pos (oT_yes hz (by omega))) c_5) (fun c_5 => ?_)
      refine a_iload_n 9 dX12_ofLaw_8 rfl rfl ?_
      refine a_i2l 10 dX12_ofLaw_9 rfl ?_
      refine a_lconst (0) 11 dX12_ofLaw_10 rfl (by decide) ?_
      refine a_ldc2 (6) 14 dX12_ofLaw_11 rfl lk_X12_221 ?_
      refine a_callS ok_X12_in ln_X12_97 is_X12_in rfl 17 dX12_ofLaw_14 rfl (k_X12_in _ _ _) rfl rfl ⟨(Nat.le_of_ble_eq_true rfl), (Nat.le_of_ble_eq_true rfl)⟩ (Nat.le_of_ble_eq_true rfl) ⟨(Nat.le_of_ble_eq_true rfl), (Nat.le_of_ble_eq_true rfl)⟩ ?_
      rintro _ _ ⟨rfl, rfl⟩
      refine a_if_ne 24 20 dX12_ofLaw_17 rfl (by decide) (fun c_17 => ?_) (fun c_17 => absurd c_17 (by rw [if_pos (hin.mpr (oT_yes hw (by decide)))]; decide))
      refine a_aload_n 25 dX12_ofLaw_24 rfl rfl ?_
      refine a_iload_n 26 dX12_ofLaw_25 rfl rfl ?_
      refine a_iload_n 27 dX12_ofLaw_26 rfl rfl ?_
      refine a_callV ok_X12_of ln_X12_215 in_X12_of rfl 30 dX12_ofLaw_27 rfl (k_X12_ofN q.2.2.1 hz hw) (by repeat (first | assumption | (refine rg_ne (by first | decide | omega) ?_) | apply rg_eq | refine rg_fr (by assumption) (by first | decide | (simp; omega)) ?_)) rfl rfl rfl ⟨(Nat.le_of_ble_eq_true rfl), (Nat.le_of_ble_eq_true rfl)⟩ (Nat.le_of_ble_eq_true rfl) ⟨(Nat.le_of_ble_eq_true rfl), (Nat.le_of_ble_eq_true rfl)⟩ ?_
      rintro _ _ ⟨rfl, rfl⟩
      exact a_ireturn dX12_ofLaw_30 rfl rfl (Nat.le_of_ble_eq_true rfl) (Nat.le_of_ble_eq_true rfl) ⟨by rw [ea], ⟨i, j, q⟩, fun _ _ _ => rfl⟩
set_option maxRecDepth 100000 in
set_option maxHeartbeats 400000 in
theorem m_might (q : mAll G h T) (o : T.ok) (c d a : Int32) : rM l G 12 mX12_might 0 0 [.ref (gN G + 38), .int c, .int d, .int a] h (fun h' v => v = some (.int (aMight T c d a)) ∧ mAll G h' T ∧ kp h h' mL) := by
  obtain ⟨i, j, q⟩ := q
  have hnl := o.nl6
  have hm12 := o.m12
  have hm := q.at
  rcases oT_cases (n := T.nl) (by omega) c with ⟨e, hc⟩ | ⟨z, hz, rfl, e⟩
  · have ea : aMight T c d a = -1 := by unfold aMight; rw [e]
    refine rM_start (by decide) (Nat.le_of_ble_eq_true rfl) ?_
    refine a_aload_n 1 dX12_might_0 rfl rfl ?_
    refine a_iload_n 2 dX12_might_1 rfl rfl ?_
    refine a_callV ok_X12_noLaw ln_X12_218 in_X12_noLaw rfl 5 dX12_might_2 rfl (m_noLaw q c) (by repeat (first | assumption | (refine rg_ne (by first | decide | omega) ?_) | apply rg_eq | refine rg_fr (by assumption) (by first | decide | (simp; omega)) ?_)) rfl rfl rfl ⟨(Nat.le_of_ble_eq_true rfl), (Nat.le_of_ble_eq_true rfl)⟩ (Nat.le_of_ble_eq_true rfl) ⟨(Nat.le_of_ble_eq_true rfl), (Nat.le_of_ble_eq_true rfl)⟩ ?_
    rintro _ _ ⟨rfl, rfl⟩
    refine a_if_ne 30 8 dX12_might_5 rfl (by decide) (fun c_5 => ?_) (fun c_5 => absurd c_5 (by rw [if_neg hc]; decide))
    refine a_iconst (-1) 31 dX12_might_30 rfl (by decide) ?_
    exact a_ireturn dX12_might_31 rfl rfl (Nat.le_of_ble_eq_true rfl) (Nat.le_of_ble_eq_true rfl) ⟨by rw [ea], ⟨i, j, q⟩, fun _ _ _ => rfl⟩
  · rcases oT_cases (n := T.m) (by omega) d with ⟨e2, hd⟩ | ⟨x, hx, rfl, e2⟩
    · have ea : aMight T (nI z) d a = -1 := by unfold aMight; rw [e, e2]
      refine rM_start (by decide) (Nat.le_of_ble_eq_true rfl) ?_
      refine a_aload_n 1 dX12_might_0 rfl rfl ?_
      refine a_iload_n 2 dX12_might_1 rfl rfl ?_
      refine a_callV ok_X12_noLaw ln_X12_218 in_X12_noLaw rfl 5 dX12_might_2 rfl (m_noLaw q (nI z)) (by repeat (first | assumption | (refine rg_ne (by first | decide | omega) ?_) | apply rg_eq | refine rg_fr (by assumption) (by first | decide | (simp; omega)) ?_)) rfl rfl rfl ⟨(Nat.le_of_ble_eq_true rfl), (Nat.le_of_ble_eq_true rfl)⟩ (Nat.le_of_ble_eq_true rfl) ⟨(Nat.le_of_ble_eq_true rfl), (Nat.le_of_ble_eq_true rfl)⟩ ?_
      rintro _ _ ⟨rfl, rfl⟩
      refine a_if_ne 30 8 dX12_might_5 rfl (by decide) (fun c_5 => absurd (if_pos (oT_yes hz (by omega))) c_5) (fun c_5 => ?_)
      refine a_aload_n 9 dX12_might_8 rfl rfl ?_
      refine a_iload_n 10 dX12_might_9 rfl rfl ?_
      refine a_callV ok_X12_noOne ln_X12_194 in_X12_noOne rfl 13 dX12_might_10 rfl (m_noOne q d) (by repeat (first | assumption | (refine rg_ne (by first | decide | omega) ?_) | apply rg_eq | refine rg_fr (by assumption) (by first | decide | (simp; omega)) ?_)) rfl rfl rfl ⟨(Nat.le_of_ble_eq_true rfl), (Nat.le_of_ble_eq_true rfl)⟩ (Nat.le_of_ble_eq_true rfl) ⟨(Nat.le_of_ble_eq_true rfl), (Nat.le_of_ble_eq_true rfl)⟩ ?_
      rintro _ _ ⟨rfl, rfl⟩
      refine a_if_ne 30 16 dX12_might_13 rfl (by decide) (fun c_13 => ?_) (fun c_13 => absurd c_13 (by rw [if_neg hd]; decide))
      refine a_iconst (-1) 31 dX12_might_30 rfl (by decide) ?_
      exact a_ireturn dX12_might_31 rfl rfl (Nat.le_of_ble_eq_true rfl) (Nat.le_of_ble_eq_true rfl) ⟨by rw [ea], ⟨i, j, q⟩, fun _ _ _ => rfl⟩
    · by_cases ha : a = -9
      · subst ha
        have ea : aMight T (nI z) (nI x) (-9) = nI (T.own z x) := by unfold aMight; rw [e, e2]; dsimp only; rw [if_pos rfl]
        have hn9 : ¬ (0 ≤ (-9 : Int32) ∧ (-9 : Int32) < nI T.m) := fun v => absurd v.1 (by decide)
        have hx9 : ¬ nI x = -9 := nI_ne9 (by omega)
        refine rM_start (by decide) (Nat.le_of_ble_eq_true rfl) ?_
        refine a_aload_n 1 dX12_might_0 rfl rfl ?_
        refine a_iload_n 2 dX12_might_1 rfl rfl ?_
        refine a_callV ok_X12_noLaw ln_X12_218 in_X12_noLaw rfl 5 dX12_might_2 rfl (m_noLaw q (nI z)) (by repeat (first | assumption | (refine rg_ne (by first | decide | omega) ?_) | apply rg_eq | refine rg_fr (by assumption) (by first | decide | (simp; omega)) ?_)) rfl rfl rfl ⟨(Nat.le_of_ble_eq_true rfl), (Nat.le_of_ble_eq_true rfl)⟩ (Nat.le_of_ble_eq_true rfl) ⟨(Nat.le_of_ble_eq_true rfl), (Nat.le_of_ble_eq_true rfl)⟩ ?_
        rintro _ _ ⟨rfl, rfl⟩
        refine a_if_ne 30 8 dX12_might_5 rfl (by decide) (fun c_5 => absurd (if_pos (oT_yes hz (by omega))) c_5) (fun c_5 => ?_)
        refine a_aload_n 9 dX12_might_8 rfl rfl ?_
        refine a_iload_n 10 dX12_might_9 rfl rfl ?_
        refine a_callV ok_X12_noOne ln_X12_194 in_X12_noOne rfl 13 dX12_might_10 rfl (m_noOne q (nI x)) (by repeat (first | assumption | (refine rg_ne (by first | decide | omega) ?_) | apply rg_eq | refine rg_fr (by assumption) (by first | decide | (simp; omega)) ?_)) rfl rfl rfl ⟨(Nat.le_of_ble_eq_true rfl), (Nat.le_of_ble_eq_true rfl)⟩ (Nat.le_of_ble_eq_true rfl) ⟨(Nat.le_of_ble_eq_true rfl), (Nat.le_of_ble_eq_true rfl)⟩ ?_
        rintro _ _ ⟨rfl, rfl⟩
        refine a_if_ne 30 16 dX12_might_13 rfl (by decide) (fun c_13 => absurd (if_pos (oT_yes hx (by omega))) c_13) (fun c_13 => ?_)
        refine a_aload_n 17 dX12_might_16 rfl rfl ?_
        refine a_iload_n 18 dX12_might_17 rfl rfl ?_
        refine a_callV ok_X12_noOne ln_X12_194 in_X12_noOne rfl 21 dX12_might_18 rfl (m_noOne q (-9)) (by repeat (first | assumption | (refine rg_ne (by first | decide | omega) ?_) | apply rg_eq | refine rg_fr (by assumption) (by first | decide | (simp; omega)) ?_)) rfl rfl rfl ⟨(Nat.le_of_ble_eq_true rfl), (Nat.le_of_ble_eq_true rfl)⟩ (Nat.le_of_ble_eq_true rfl) ⟨(Nat.le_of_ble_eq_true rfl), (Nat.le_of_ble_eq_true rfl)⟩ ?_
        rintro _ _ ⟨rfl, rfl⟩
        refine a_if_eq 32 24 dX12_might_21 rfl (by decide) (fun c_21 => absurd c_21 (by rw [if_neg hn9]; decide)) (fun c_21 => ?_)
        refine a_iload_n 25 dX12_might_24 rfl rfl ?_
        refine a_bipush (-9) 27 dX12_might_25 rfl (by decide) ?_
        refine a_icmp_eq 32 30 dX12_might_27 rfl (by decide) (fun c_27 => ?_) (fun c_27 => absurd rfl c_27)
        refine a_iload_n 33 dX12_might_32 rfl rfl ?_
        refine a_iload_n 34 dX12_might_33 rfl rfl ?_
        refine a_icmp_ne 42 37 dX12_might_34 rfl (by decide) (fun c_34 => ?_) (fun c_34 => absurd c_34 hx9)
        refine a_aload_n 43 dX12_might_42 rfl rfl ?_
        refine a_iload_n 44 dX12_might_43 rfl rfl ?_
        refine a_iload_n 45 dX12_might_44 rfl rfl ?_
        refine a_iload_n 46 dX12_might_45 rfl rfl ?_
        refine a_callV ok_X12_mightOf ln_X12_234 in_X12_mightOf rfl 49 dX12_might_46 rfl (k_X12_mightO q.2.1 q.2.2.1 hz hx) (by repeat (first | assumption | (refine rg_ne (by first | decide | omega) ?_) | apply rg_eq | refine rg_fr (by assumption) (by first | decide | (simp; omega)) ?_)) rfl rfl rfl ⟨(Nat.le_of_ble_eq_true rfl), (Nat.le_of_ble_eq_true rfl)⟩ (Nat.le_of_ble_eq_true rfl) ⟨(Nat.le_of_ble_eq_true rfl), (Nat.le_of_ble_eq_true rfl)⟩ ?_
        rintro _ _ ⟨rfl, rfl⟩
        exact a_ireturn dX12_might_49 rfl rfl (Nat.le_of_ble_eq_true rfl) (Nat.le_of_ble_eq_true rfl) ⟨by rw [ea], ⟨i, j, q⟩, fun _ _ _ => rfl⟩
      · rcases oT_cases (n := T.m) (by omega) a with ⟨e3, hd⟩ | ⟨y, hy, rfl, e3⟩
        · have ea : aMight T (nI z) (nI x) a = -1 := by unfold aMight; rw [e, e2]; dsimp only; rw [if_neg ha, e3]
          refine rM_start (by decide) (Nat.le_of_ble_eq_true rfl) ?_
          refine a_aload_n 1 dX12_might_0 rfl rfl ?_
          refine a_iload_n 2 dX12_might_1 rfl rfl ?_
          refine a_callV ok_X12_noLaw ln_X12_218 in_X12_noLaw rfl 5 dX12_might_2 rfl (m_noLaw q (nI z)) (by repeat (first | assumption | (refine rg_ne (by first | decide | omega) ?_) | apply rg_eq | refine rg_fr (by assumption) (by first | decide | (simp; omega)) ?_)) rfl rfl rfl ⟨(Nat.le_of_ble_eq_true rfl), (Nat.le_of_ble_eq_true rfl)⟩ (Nat.le_of_ble_eq_true rfl) ⟨(Nat.le_of_ble_eq_true rfl), (Nat.le_of_ble_eq_true rfl)⟩ ?_
          rintro _ _ ⟨rfl, rfl⟩
          refine a_if_ne 30 8 dX12_might_5 rfl (by decide) (fun c_5 => absurd (if_pos (oT_yes hz (by omega))) c_5) (fun c_5 => ?_)
          refine a_aload_n 9 dX12_might_8 rfl rfl ?_
          refine a_iload_n 10 dX12_might_9 rfl rfl ?_
          refine a_callV ok_X12_noOne ln_X12_194 in_X12_noOne rfl 13 dX12_might_10 rfl (m_noOne q (nI x)) (by repeat (first | assumption | (refine rg_ne (by first | decide | omega) ?_) | apply rg_eq | refine rg_fr (by assumption) (by first | decide | (simp; omega)) ?_)) rfl rfl rfl ⟨(Nat.le_of_ble_eq_true rfl), (Nat.le_of_ble_eq_true rfl)⟩ (Nat.le_of_ble_eq_true rfl) ⟨(Nat.le_of_ble_eq_true rfl), (Nat.le_of_ble_eq_true rfl)⟩ ?_
          rintro _ _ ⟨rfl, rfl⟩
          refine a_if_ne 30 16 dX12_might_13 rfl (by decide) (fun c_13 => absurd (if_pos (oT_yes hx (by omega))) c_13) (fun c_13 => ?_)
          refine a_aload_n 17 dX12_might_16 rfl rfl ?_
          refine a_iload_n 18 dX12_might_17 rfl rfl ?_
          refine a_callV ok_X12_noOne ln_X12_194 in_X12_noOne rfl 21 dX12_might_18 rfl (m_noOne q a) (by repeat (first | assumption | (refine rg_ne (by first | decide | omega) ?_) | apply rg_eq | refine rg_fr (by assumption) (by first | decide | (simp; omega)) ?_)) rfl rfl rfl ⟨(Nat.le_of_ble_eq_true rfl), (Nat.le_of_ble_eq_true rfl)⟩ (Nat.le_of_ble_eq_true rfl) ⟨(Nat.le_of_ble_eq_true rfl), (Nat.le_of_ble_eq_true rfl)⟩ ?_
          rintro _ _ ⟨rfl, rfl⟩
          refine a_if_eq 32 24 dX12_might_21 rfl (by decide) (fun c_21 => absurd c_21 (by rw [if_neg hd]; decide)) (fun c_21 => ?_)
          refine a_iload_n 25 dX12_might_24 rfl rfl ?_
          refine a_bipush (-9) 27 dX12_might_25 rfl (by decide) ?_
          refine a_icmp_eq 32 30 dX12_might_27 rfl (by decide) (fun c_27 => absurd c_27 ha) (fun c_27 => ?_)
          refine a_iconst (-1) 31 dX12_might_30 rfl (by decide) ?_
          exact a_ireturn dX12_might_31 rfl rfl (Nat.le_of_ble_eq_true rfl) (Nat.le_of_ble_eq_true rfl) ⟨by rw [ea], ⟨i, j, q⟩, fun _ _ _ => rfl⟩
        · have ea : aMight T (nI z) (nI x) (nI y) = if x = y then -2 else nI (T.mi z x y) := by unfold aMight; rw [e, e2]; dsimp only; rw [if_neg ha, e3]
          have hxy : nI x = nI y ↔ x = y := nI_eq (by omega) (by omega)
          by_cases exy : x = y
          · rw [if_pos exy] at ea
            refine rM_start (by decide) (Nat.le_of_ble_eq_true rfl) ?_
            refine a_aload_n 1 dX12_might_0 rfl rfl ?_
            refine a_iload_n 2 dX12_might_1 rfl rfl ?_
            refine a_callV ok_X12_noLaw ln_X12_218 in_X12_noLaw rfl 5 dX12_might_2 rfl (m_noLaw q (nI z)) (by repeat (first | assumption | (refine rg_ne (by first | decide | omega) ?_) | apply rg_eq | refine rg_fr (by assumption) (by first | decide | (simp; omega)) ?_)) rfl rfl rfl ⟨(Nat.le_of_ble_eq_true rfl), (Nat.le_of_ble_eq_true rfl)⟩ (Nat.le_of_ble_eq_true rfl) ⟨(Nat.le_of_ble_eq_true rfl), (Nat.le_of_ble_eq_true rfl)⟩ ?_
            rintro _ _ ⟨rfl, rfl⟩
            refine a_if_ne 30 8 dX12_might_5 rfl (by decide) (fun c_5 => absurd (if_pos (oT_yes hz (by omega))) c_5) (fun c_5 => ?_)
            refine a_aload_n 9 dX12_might_8 rfl rfl ?_
            refine a_iload_n 10 dX12_might_9 rfl rfl ?_
            refine a_callV ok_X12_noOne ln_X12_194 in_X12_noOne rfl 13 dX12_might_10 rfl (m_noOne q (nI x)) (by repeat (first | assumption | (refine rg_ne (by first | decide | omega) ?_) | apply rg_eq | refine rg_fr (by assumption) (by first | decide | (simp; omega)) ?_)) rfl rfl rfl ⟨(Nat.le_of_ble_eq_true rfl), (Nat.le_of_ble_eq_true rfl)⟩ (Nat.le_of_ble_eq_true rfl) ⟨(Nat.le_of_ble_eq_true rfl), (Nat.le_of_ble_eq_true rfl)⟩ ?_
            rintro _ _ ⟨rfl, rfl⟩
            refine a_if_ne 30 16 dX12_might_13 rfl (by decide) (fun c_13 => absurd (if_pos (oT_yes hx (by omega))) c_13) (fun c_13 => ?_)
            refine a_aload_n 17 dX12_might_16 rfl rfl ?_
            refine a_iload_n 18 dX12_might_17 rfl rfl ?_
            refine a_callV ok_X12_noOne ln_X12_194 in_X12_noOne rfl 21 dX12_might_18 rfl (m_noOne q (nI y)) (by repeat (first | assumption | (refine rg_ne (by first | decide | omega) ?_) | apply rg_eq | refine rg_fr (by assumption) (by first | decide | (simp; omega)) ?_)) rfl rfl rfl ⟨(Nat.le_of_ble_eq_true rfl), (Nat.le_of_ble_eq_true rfl)⟩ (Nat.le_of_ble_eq_true rfl) ⟨(Nat.le_of_ble_eq_true rfl), (Nat.le_of_ble_eq_true rfl)⟩ ?_
            rintro _ _ ⟨rfl, rfl⟩
            refine a_if_eq 32 24 dX12_might_21 rfl (by decide) (fun c_21 => ?_) (fun c_21 => absurd (if_pos (oT_yes hy (by omega))) c_21)
            refine a_iload_n 33 dX12_might_32 rfl rfl ?_
            refine a_iload_n 34 dX12_might_33 rfl rfl ?_
            refine a_icmp_ne 42 37 dX12_might_34 rfl (by decide) (fun c_34 => absurd (hxy.mpr exy) c_34) (fun c_34 => ?_)
            refine a_bipush (-2) 39 dX12_might_37 rfl (by decide) ?_
            refine a_goto 49 dX12_might_39 (by decide) ?_
            exact a_ireturn dX12_might_49 rfl rfl (Nat.le_of_ble_eq_true rfl) (Nat.le_of_ble_eq_true rfl) ⟨by rw [ea], ⟨i, j, q⟩, fun _ _ _ => rfl⟩
          · rw [if_neg exy] at ea
            refine rM_start (by decide) (Nat.le_of_ble_eq_true rfl) ?_
            refine a_aload_n 1 dX12_might_0 rfl rfl ?_
            refine a_iload_n 2 dX12_might_1 rfl rfl ?_
            refine a_callV ok_X12_noLaw ln_X12_218 in_X12_noLaw rfl 5 dX12_might_2 rfl (m_noLaw q (nI z)) (by repeat (first | assumption | (refine rg_ne (by first | decide | omega) ?_) | apply rg_eq | refine rg_fr (by assumption) (by first | decide | (simp; omega)) ?_)) rfl rfl rfl ⟨(Nat.le_of_ble_eq_true rfl), (Nat.le_of_ble_eq_true rfl)⟩ (Nat.le_of_ble_eq_true rfl) ⟨(Nat.le_of_ble_eq_true rfl), (Nat.le_of_ble_eq_true rfl)⟩ ?_
            rintro _ _ ⟨rfl, rfl⟩
            refine a_if_ne 30 8 dX12_might_5 rfl (by decide) (fun c_5 => absurd (if_pos (oT_yes hz (by omega))) c_5) (fun c_5 => ?_)
            refine a_aload_n 9 dX12_might_8 rfl rfl ?_
            refine a_iload_n 10 dX12_might_9 rfl rfl ?_
            refine a_callV ok_X12_noOne ln_X12_194 in_X12_noOne rfl 13 dX12_might_10 rfl (m_noOne q (nI x)) (by repeat (first | assumption | (refine rg_ne (by first | decide | omega) ?_) | apply rg_eq | refine rg_fr (by assumption) (by first | decide | (simp; omega)) ?_)) rfl rfl rfl ⟨(Nat.le_of_ble_eq_true rfl), (Nat.le_of_ble_eq_true rfl)⟩ (Nat.le_of_ble_eq_true rfl) ⟨(Nat.le_of_ble_eq_true rfl), (Nat.le_of_ble_eq_true rfl)⟩ ?_
            rintro _ _ ⟨rfl, rfl⟩
            refine a_if_ne 30 16 dX12_might_13 rfl (by decide) (fun c_13 => absurd (if_pos (oT_yes hx (by omega))) c_13) (fun c_13 => ?_)
            refine a_aload_n 17 dX12_might_16 rfl rfl ?_
            refine a_iload_n 18 dX12_might_17 rfl rfl ?_
            refine a_callV ok_X12_noOne ln_X12_194 in_X12_noOne rfl 21 dX12_might_18 rfl (m_noOne q (nI y)) (by repeat (first | assumption | (refine rg_ne (by first | decide | omega) ?_) | apply rg_eq | refine rg_fr (by assumption) (by first | decide | (simp; omega)) ?_)) rfl rfl rfl ⟨(Nat.le_of_ble_eq_true rfl), (Nat.le_of_ble_eq_true rfl)⟩ (Nat.le_of_ble_eq_true rfl) ⟨(Nat.le_of_ble_eq_true rfl), (Nat.le_of_ble_eq_true rfl)⟩ ?_
            rintro _ _ ⟨rfl, rfl⟩
            refine a_if_eq 32 24 dX12_might_21 rfl (by decide) (fun c_21 => ?_) (fun c_21 => absurd (if_pos (oT_yes hy (by omega))) c_21)
            refine a_iload_n 33 dX12_might_32 rfl rfl ?_
            refine a_iload_n 34 dX12_might_33 rfl rfl ?_
            refine a_icmp_ne 42 37 dX12_might_34 rfl (by decide) (fun c_34 => ?_) (fun c_34 => absurd c_34 (fun v => exy (hxy.mp v)))
            refine a_aload_n 43 dX12_might_42 rfl rfl ?_
            refine a_iload_n 44 dX12_might_43 rfl rfl ?_
            refine a_iload_n 45 dX12_might_44 rfl rfl ?_
            refine a_iload_n 46 dX12_might_45 rfl rfl ?_
            refine a_callV ok_X12_mightOf ln_X12_234 in_X12_mightOf rfl 49 dX12_might_46 rfl (k_X12_mightS q.1 q.2.1 q.2.2.1 hz hx hy) (by repeat (first | assumption | (refine rg_ne (by first | decide | omega) ?_) | apply rg_eq | refine rg_fr (by assumption) (by first | decide | (simp; omega)) ?_)) rfl rfl rfl ⟨(Nat.le_of_ble_eq_true rfl), (Nat.le_of_ble_eq_true rfl)⟩ (Nat.le_of_ble_eq_true rfl) ⟨(Nat.le_of_ble_eq_true rfl), (Nat.le_of_ble_eq_true rfl)⟩ ?_
            rintro h2 v ⟨rfl, hc2, hf2⟩
            exact a_ireturn dX12_might_49 rfl rfl (Nat.le_of_ble_eq_true rfl) (Nat.le_of_ble_eq_true rfl) ⟨by rw [ea], ⟨i, j, q.line hc2 hf2⟩, kp_mono (kp_fr hf2) (by decide)⟩
set_option maxRecDepth 100000 in
set_option maxHeartbeats 400000 in
theorem m_ofOne (q : mAll G h T) (o : T.ok) (c d : Int32) : rM l G 12 mX12_ofOne 0 0 [.ref (gN G + 38), .int c, .int d] h (fun h' v => v = some (.int (aOfOne T c d)) ∧ mAll G h' T ∧ kp h h' mL) := by
  obtain ⟨i, j, q⟩ := q
  have hm12 := o.m12
  have hm := q.at
  rcases oT_cases (n := T.m) (by omega) c with ⟨e, hc⟩ | ⟨x, hx, rfl, e⟩
  · have ea : aOfOne T c d = -1 := by unfold aOfOne; rw [e]
    refine rM_start (by decide) (Nat.le_of_ble_eq_true rfl) ?_
    refine a_aload_n 1 dX12_ofOne_0 rfl rfl ?_
    refine a_iload_n 2 dX12_ofOne_1 rfl rfl ?_
    refine a_callV ok_X12_noOne ln_X12_194 in_X12_noOne rfl 5 dX12_ofOne_2 rfl (m_noOne q c) (by repeat (first | assumption | (refine rg_ne (by first | decide | omega) ?_) | apply rg_eq | refine rg_fr (by assumption) (by first | decide | (simp; omega)) ?_)) rfl rfl rfl ⟨(Nat.le_of_ble_eq_true rfl), (Nat.le_of_ble_eq_true rfl)⟩ (Nat.le_of_ble_eq_true rfl) ⟨(Nat.le_of_ble_eq_true rfl), (Nat.le_of_ble_eq_true rfl)⟩ ?_
    rintro _ _ ⟨rfl, rfl⟩
    refine a_if_eq 10 8 dX12_ofOne_5 rfl (by decide) (fun c_5 => absurd c_5 (by rw [if_neg hc]; decide)) (fun c_5 => ?_)
    refine a_iconst (-1) 9 dX12_ofOne_8 rfl (by decide) ?_
    exact a_ireturn dX12_ofOne_9 rfl rfl (Nat.le_of_ble_eq_true rfl) (Nat.le_of_ble_eq_true rfl) ⟨by rw [ea], ⟨i, j, q⟩, fun _ _ _ => rfl⟩
  · have ea : aOfOne T (nI x) d = if d.toInt = 0 then nI (T.kd x) else if d.toInt = 1 then nI (T.se x) else if d.toInt = 2 then nI (T.sl x) else if d.toInt = 3 then nI (T.ki x) else if d.toInt = 4 then bsN (fun y => decide (T.sees x y)) T.m else if d.toInt = 5 then bsN (fun y => hearM T.nb (T.se x) (T.se y)) T.m else -2 := by unfold aOfOne; rw [e]
    have vx : vp_in (nI x) 12 := vp_in_nI (by omega) (by decide)
    have ex : (nI x).toNatClampNeg = x := nI_clamp (by omega)
    have L : ∀ (r y : Nat) (s3 s4 y5 : Int32) (h1 : rH), y + r = T.m → s3 = bsN (fun y => decide (T.sees x y)) y → s4 = bsN (fun y => hearM T.nb (T.se x) (T.se y)) y → y5 = nI y → mX G h1 T i j → fr h h1 [44] → rW l G (rRm 12 0 0) mX12_ofOne (rZ G (fun h' v => v = some (.int (aOfOne T (nI x) d)) ∧ mAll G h' T ∧ kp h h' mL) 0 0) 0 0 18 [some (.ref (gN G + 38)), some (.int (nI x)), some (.int d), some (.int s3), some (.int s4), some (.int y5)] [] h1 := by
      intro r
      induction r with
      | zero =>
        intro y s3 s4 y5 h1 hy h3 h4 h5 q1 hf1
        subst h3; subst h4; subst h5
        have e : y = T.m := by omega
        subst e
        have hm1 := q1.at
        have ho1 := q1.2.1.2.1
        obtain ⟨-, -, -, ⟨g1, a1, b1⟩, ⟨g2, a2, b2⟩, ⟨g3, a3, b3⟩, ⟨g4, a4, b4⟩⟩ := id q1.2.1
        have c1 := (b1 x hx).1
        have c2 := (b2 x hx).1
        have c3 := (b3 x hx).1
        have c4 := (b4 x hx).1
        refine a_iload 20 dX12_ofOne_18 rfl rfl ?_
        refine a_aload_n 21 dX12_ofOne_20 rfl rfl ?_
        refine a_get fd_X12_160 rfl 24 dX12_ofOne_21 rfl (by repeat (first | assumption | (refine rg_ne (by first | decide | omega) ?_) | apply rg_eq | refine rg_fr (by assumption) (by first | decide | (simp; omega)) ?_)) rfl ?_
        refine a_icmp_ge 77 27 dX12_ofOne_24 rfl (by decide) (fun c_24 => ?_) (fun c_24 => absurd (by rw [ho1]; exact Int32.le_refl _) c_24)
        refine a_iload_n 78 dX12_ofOne_77 rfl rfl ?_
        rcases (show (d).toInt = 0 ∨ (d).toInt = 1 ∨ (d).toInt = 2 ∨ (d).toInt = 3 ∨ (d).toInt = 4 ∨ (d).toInt = 5 ∨ ((d).toInt < 0 ∨ 5 < (d).toInt) by omega) with w_78 | w_78 | w_78 | w_78 | w_78 | w_78 | w_78
        · refine a_tableIn 116 dX12_ofOne_78 (by rw [w_78]; decide) (by rw [w_78]; decide) (by rw [w_78]; rfl) (by decide) ?_
          refine a_aload_n 117 dX12_ofOne_116 rfl rfl ?_
          refine a_get fd_X12_29 rfl 120 dX12_ofOne_117 rfl (by repeat (first | assumption | (refine rg_ne (by first | decide | omega) ?_) | apply rg_eq | refine rg_fr (by assumption) (by first | decide | (simp; omega)) ?_)) rfl ?_
          refine a_iload_n 121 dX12_ofOne_120 rfl rfl ?_
          refine a_iaload 122 dX12_ofOne_121 rfl (by repeat (first | assumption | (refine rg_ne (by first | decide | omega) ?_) | apply rg_eq | refine rg_fr (by assumption) (by first | decide | (simp; omega)) ?_)) vx ?_
          rw [ex, c1]
          exact a_ireturn dX12_ofOne_122 rfl rfl (Nat.le_of_ble_eq_true rfl) (Nat.le_of_ble_eq_true rfl) ⟨by rw [ea]; repeat (first | rfl | rw [if_pos (by omega)] | rw [if_neg (by omega)]), ⟨i, j, q1⟩, kp_mono (kp_fr hf1) (by decide)⟩
        · refine a_tableIn 123 dX12_ofOne_78 (by rw [w_78]; decide) (by rw [w_78]; decide) (by rw [w_78]; rfl) (by decide) ?_
          refine a_aload_n 124 dX12_ofOne_123 rfl rfl ?_
          refine a_get fd_X12_32 rfl 127 dX12_ofOne_124 rfl (by repeat (first | assumption | (refine rg_ne (by first | decide | omega) ?_) | apply rg_eq | refine rg_fr (by assumption) (by first | decide | (simp; omega)) ?_)) rfl ?_
          refine a_iload_n 128 dX12_ofOne_127 rfl rfl ?_
          refine a_iaload 129 dX12_ofOne_128 rfl (by repeat (first | assumption | (refine rg_ne (by first | decide | omega) ?_) | apply rg_eq | refine rg_fr (by assumption) (by first | decide | (simp; omega)) ?_)) vx ?_
          rw [ex, c2]
          exact a_ireturn dX12_ofOne_129 rfl rfl (Nat.le_of_ble_eq_true rfl) (Nat.le_of_ble_eq_true rfl) ⟨by rw [ea]; repeat (first | rfl | rw [if_pos (by omega)] | rw [if_neg (by omega)]), ⟨i, j, q1⟩, kp_mono (kp_fr hf1) (by decide)⟩
        · refine a_tableIn 130 dX12_ofOne_78 (by rw [w_78]; decide) (by rw [w_78]; decide) (by rw [w_78]; rfl) (by decide) ?_
          refine a_aload_n 131 dX12_ofOne_130 rfl rfl ?_
          refine a_get fd_X12_35 rfl 134 dX12_ofOne_131 rfl (by repeat (first | assumption | (refine rg_ne (by first | decide | omega) ?_) | apply rg_eq | refine rg_fr (by assumption) (by first | decide | (simp; omega)) ?_)) rfl ?_
          refine a_iload_n 135 dX12_ofOne_134 rfl rfl ?_
          refine a_iaload 136 dX12_ofOne_135 rfl (by repeat (first | assumption | (refine rg_ne (by first | decide | omega) ?_) | apply rg_eq | refine rg_fr (by assumption) (by first | decide | (simp; omega)) ?_)) vx ?_
          rw [ex, c3]
          exact a_ireturn dX12_ofOne_136 rfl rfl (Nat.le_of_ble_eq_true rfl) (Nat.le_of_ble_eq_true rfl) ⟨by rw [ea]; repeat (first | rfl | rw [if_pos (by omega)] | rw [if_neg (by omega)]), ⟨i, j, q1⟩, kp_mono (kp_fr hf1) (by decide)⟩
        · refine a_tableIn 137 dX12_ofOne_78 (by rw [w_78]; decide) (by rw [w_78]; decide) (by rw [w_78]; rfl) (by decide) ?_
          refine a_aload_n 138 dX12_ofOne_137 rfl rfl ?_
          refine a_get fd_X12_38 rfl 141 dX12_ofOne_138 rfl (by repeat (first | assumption | (refine rg_ne (by first | decide | omega) ?_) | apply rg_eq | refine rg_fr (by assumption) (by first | decide | (simp; omega)) ?_)) rfl ?_
          refine a_iload_n 142 dX12_ofOne_141 rfl rfl ?_
          refine a_iaload 143 dX12_ofOne_142 rfl (by repeat (first | assumption | (refine rg_ne (by first | decide | omega) ?_) | apply rg_eq | refine rg_fr (by assumption) (by first | decide | (simp; omega)) ?_)) vx ?_
          rw [ex, c4]
          exact a_ireturn dX12_ofOne_143 rfl rfl (Nat.le_of_ble_eq_true rfl) (Nat.le_of_ble_eq_true rfl) ⟨by rw [ea]; repeat (first | rfl | rw [if_pos (by omega)] | rw [if_neg (by omega)]), ⟨i, j, q1⟩, kp_mono (kp_fr hf1) (by decide)⟩
        · refine a_tableIn 144 dX12_ofOne_78 (by rw [w_78]; decide) (by rw [w_78]; decide) (by rw [w_78]; rfl) (by decide) ?_
          refine a_iload_n 145 dX12_ofOne_144 rfl rfl ?_
          exact a_ireturn dX12_ofOne_145 rfl rfl (Nat.le_of_ble_eq_true rfl) (Nat.le_of_ble_eq_true rfl) ⟨by rw [ea]; repeat (first | rfl | rw [if_pos (by omega)] | rw [if_neg (by omega)]), ⟨i, j, q1⟩, kp_mono (kp_fr hf1) (by decide)⟩
        · refine a_tableIn 146 dX12_ofOne_78 (by rw [w_78]; decide) (by rw [w_78]; decide) (by rw [w_78]; rfl) (by decide) ?_
          refine a_iload 148 dX12_ofOne_146 rfl rfl ?_
          exact a_ireturn dX12_ofOne_148 rfl rfl (Nat.le_of_ble_eq_true rfl) (Nat.le_of_ble_eq_true rfl) ⟨by rw [ea]; repeat (first | rfl | rw [if_pos (by omega)] | rw [if_neg (by omega)]), ⟨i, j, q1⟩, kp_mono (kp_fr hf1) (by decide)⟩
        · refine a_tableOut 149 dX12_ofOne_78 w_78 (by decide) ?_
          refine a_bipush (-2) 151 dX12_ofOne_149 rfl (by decide) ?_
          exact a_ireturn dX12_ofOne_151 rfl rfl (Nat.le_of_ble_eq_true rfl) (Nat.le_of_ble_eq_true rfl) ⟨by rw [ea]; repeat (first | rfl | rw [if_pos (by omega)] | rw [if_neg (by omega)]), ⟨i, j, q1⟩, kp_mono (kp_fr hf1) (by decide)⟩
      | succ r ih =>
        intro y s3 s4 y5 h1 hy h3 h4 h5 q1 hf1
        subst h3; subst h4; subst h5
        have hym : y < T.m := by omega
        have hm1 := q1.at
        have ho1 := q1.2.1.2.1
        by_cases hS : T.sees x y
        · by_cases hH : hearM T.nb (T.se x) (T.se y) = true
          · skip
            refine a_iload 20 dX12_ofOne_18 rfl rfl ?_
            refine a_aload_n 21 dX12_ofOne_20 rfl rfl ?_
            refine a_get fd_X12_160 rfl 24 dX12_ofOne_21 rfl (by repeat (first | assumption | (refine rg_ne (by first | decide | omega) ?_) | apply rg_eq | refine rg_fr (by assumption) (by first | decide | (simp; omega)) ?_)) rfl ?_
            refine a_icmp_ge 77 27 dX12_ofOne_24 rfl (by decide) (fun c_24 => absurd c_24 (by rw [ho1]; exact nI_ge (a := y) (b := T.m) (by omega) (by omega))) (fun c_24 => ?_)
            refine a_iload_n 28 dX12_ofOne_27 rfl rfl ?_
            refine a_aload_n 29 dX12_ofOne_28 rfl rfl ?_
            refine a_iload_n 30 dX12_ofOne_29 rfl rfl ?_
            refine a_iload 32 dX12_ofOne_30 rfl rfl ?_
            refine a_callV ok_X12_doesSee ln_X12_197 in_X12_doesSee rfl 35 dX12_ofOne_32 rfl (k_X12_doesSee q1.1 q1.2.1 hx hym) (by repeat (first | assumption | (refine rg_ne (by first | decide | omega) ?_) | apply rg_eq | refine rg_fr (by assumption) (by first | decide | (simp; omega)) ?_)) rfl rfl rfl ⟨(Nat.le_of_ble_eq_true rfl), (Nat.le_of_ble_eq_true rfl)⟩ (Nat.le_of_ble_eq_true rfl) ⟨(Nat.le_of_ble_eq_true rfl), (Nat.le_of_ble_eq_true rfl)⟩ ?_
            rintro h2 v ⟨rfl, hc2, hf2⟩
            have q2 := q1.line hc2 hf2
            have hm2 := q2.at
            refine a_if_eq 45 38 dX12_ofOne_35 rfl (by decide) (fun c_35 => absurd c_35 (by rw [if_pos hS]; decide)) (fun c_35 => ?_)
            refine a_iconst (1) 39 dX12_ofOne_38 rfl (by decide) ?_
            refine a_iload 41 dX12_ofOne_39 rfl rfl ?_
            refine a_ishl 42 dX12_ofOne_41 rfl ?_
            refine a_goto 46 dX12_ofOne_42 (by decide) ?_
            refine a_ior 47 dX12_ofOne_46 rfl ?_
            refine a_istore_n 48 dX12_ofOne_47 rfl (by decide) ?_
            refine a_iload 50 dX12_ofOne_48 rfl rfl ?_
            refine a_aload_n 51 dX12_ofOne_50 rfl rfl ?_
            refine a_iload_n 52 dX12_ofOne_51 rfl rfl ?_
            refine a_iload 54 dX12_ofOne_52 rfl rfl ?_
            refine a_callV ok_X12_doesHear ln_X12_200 in_X12_doesHear rfl 57 dX12_ofOne_54 rfl (k_X12_doesHear q2.1 q2.2.1 hx hym) (by repeat (first | assumption | (refine rg_ne (by first | decide | omega) ?_) | apply rg_eq | refine rg_fr (by assumption) (by first | decide | (simp; omega)) ?_)) rfl rfl rfl ⟨(Nat.le_of_ble_eq_true rfl), (Nat.le_of_ble_eq_true rfl)⟩ (Nat.le_of_ble_eq_true rfl) ⟨(Nat.le_of_ble_eq_true rfl), (Nat.le_of_ble_eq_true rfl)⟩ ?_
            rintro _ _ ⟨rfl, rfl⟩
            refine a_if_eq 67 60 dX12_ofOne_57 rfl (by decide) (fun c_57 => absurd c_57 (by rw [if_pos hH]; decide)) (fun c_57 => ?_)
            refine a_iconst (1) 61 dX12_ofOne_60 rfl (by decide) ?_
            refine a_iload 63 dX12_ofOne_61 rfl rfl ?_
            refine a_ishl 64 dX12_ofOne_63 rfl ?_
            refine a_goto 68 dX12_ofOne_64 (by decide) ?_
            refine a_ior 69 dX12_ofOne_68 rfl ?_
            refine a_istore 71 dX12_ofOne_69 rfl (by decide) ?_
            refine a_iinc _ 74 dX12_ofOne_71 rfl rfl (by decide) rfl ?_
            refine a_goto 18 dX12_ofOne_74 (by decide) ?_
            exact ih (y + 1) _ _ _ _ (by omega) (bsN_t (P := fun y => decide (T.sees x y)) (decide_eq_true hS)) (bsN_t (P := fun y => hearM T.nb (T.se x) (T.se y)) hH) (nI_1 y) q2 (fr_trans hf1 hf2 (fun _ q => q))
          · skip
            refine a_iload 20 dX12_ofOne_18 rfl rfl ?_
            refine a_aload_n 21 dX12_ofOne_20 rfl rfl ?_
            refine a_get fd_X12_160 rfl 24 dX12_ofOne_21 rfl (by repeat (first | assumption | (refine rg_ne (by first | decide | omega) ?_) | apply rg_eq | refine rg_fr (by assumption) (by first | decide | (simp; omega)) ?_)) rfl ?_
            refine a_icmp_ge 77 27 dX12_ofOne_24 rfl (by decide) (fun c_24 => absurd c_24 (by rw [ho1]; exact nI_ge (a := y) (b := T.m) (by omega) (by omega))) (fun c_24 => ?_)
            refine a_iload_n 28 dX12_ofOne_27 rfl rfl ?_
            refine a_aload_n 29 dX12_ofOne_28 rfl rfl ?_
            refine a_iload_n 30 dX12_ofOne_29 rfl rfl ?_
            refine a_iload 32 dX12_ofOne_30 rfl rfl ?_
            refine a_callV ok_X12_doesSee ln_X12_197 in_X12_doesSee rfl 35 dX12_ofOne_32 rfl (k_X12_doesSee q1.1 q1.2.1 hx hym) (by repeat (first | assumption | (refine rg_ne (by first | decide | omega) ?_) | apply rg_eq | refine rg_fr (by assumption) (by first | decide | (simp; omega)) ?_)) rfl rfl rfl ⟨(Nat.le_of_ble_eq_true rfl), (Nat.le_of_ble_eq_true rfl)⟩ (Nat.le_of_ble_eq_true rfl) ⟨(Nat.le_of_ble_eq_true rfl), (Nat.le_of_ble_eq_true rfl)⟩ ?_
            rintro h2 v ⟨rfl, hc2, hf2⟩
            have q2 := q1.line hc2 hf2
            have hm2 := q2.at
            refine a_if_eq 45 38 dX12_ofOne_35 rfl (by decide) (fun c_35 => absurd c_35 (by rw [if_pos hS]; decide)) (fun c_35 => ?_)
            refine a_iconst (1) 39 dX12_ofOne_38 rfl (by decide) ?_
            refine a_iload 41 dX12_ofOne_39 rfl rfl ?_
            refine a_ishl 42 dX12_ofOne_41 rfl ?_
            refine a_goto 46 dX12_ofOne_42 (by decide) ?_
            refine a_ior 47 dX12_ofOne_46 rfl ?_
            refine a_istore_n 48 dX12_ofOne_47 rfl (by decide) ?_
            refine a_iload 50 dX12_ofOne_48 rfl rfl ?_
            refine a_aload_n 51 dX12_ofOne_50 rfl rfl ?_
            refine a_iload_n 52 dX12_ofOne_51 rfl rfl ?_
            refine a_iload 54 dX12_ofOne_52 rfl rfl ?_
            refine a_callV ok_X12_doesHear ln_X12_200 in_X12_doesHear rfl 57 dX12_ofOne_54 rfl (k_X12_doesHear q2.1 q2.2.1 hx hym) (by repeat (first | assumption | (refine rg_ne (by first | decide | omega) ?_) | apply rg_eq | refine rg_fr (by assumption) (by first | decide | (simp; omega)) ?_)) rfl rfl rfl ⟨(Nat.le_of_ble_eq_true rfl), (Nat.le_of_ble_eq_true rfl)⟩ (Nat.le_of_ble_eq_true rfl) ⟨(Nat.le_of_ble_eq_true rfl), (Nat.le_of_ble_eq_true rfl)⟩ ?_
            rintro _ _ ⟨rfl, rfl⟩
            refine a_if_eq 67 60 dX12_ofOne_57 rfl (by decide) (fun c_57 => ?_) (fun c_57 => absurd (if_neg hH) c_57)
            refine a_iconst (0) 68 dX12_ofOne_67 rfl (by decide) ?_
            refine a_ior 69 dX12_ofOne_68 rfl ?_
            refine a_istore 71 dX12_ofOne_69 rfl (by decide) ?_
            refine a_iinc _ 74 dX12_ofOne_71 rfl rfl (by decide) rfl ?_
            refine a_goto 18 dX12_ofOne_74 (by decide) ?_
            exact ih (y + 1) _ _ _ _ (by omega) (bsN_t (P := fun y => decide (T.sees x y)) (decide_eq_true hS)) (bsN_f (P := fun y => hearM T.nb (T.se x) (T.se y)) (Bool.eq_false_iff.mpr hH)) (nI_1 y) q2 (fr_trans hf1 hf2 (fun _ q => q))
        · by_cases hH : hearM T.nb (T.se x) (T.se y) = true
          · skip
            refine a_iload 20 dX12_ofOne_18 rfl rfl ?_
            refine a_aload_n 21 dX12_ofOne_20 rfl rfl ?_
            refine a_get fd_X12_160 rfl 24 dX12_ofOne_21 rfl (by repeat (first | assumption | (refine rg_ne (by first | decide | omega) ?_) | apply rg_eq | refine rg_fr (by assumption) (by first | decide | (simp; omega)) ?_)) rfl ?_
            refine a_icmp_ge 77 27 dX12_ofOne_24 rfl (by decide) (fun c_24 => absurd c_24 (by rw [ho1]; exact nI_ge (a := y) (b := T.m) (by omega) (by omega))) (fun c_24 => ?_)
            refine a_iload_n 28 dX12_ofOne_27 rfl rfl ?_
            refine a_aload_n 29 dX12_ofOne_28 rfl rfl ?_
            refine a_iload_n 30 dX12_ofOne_29 rfl rfl ?_
            refine a_iload 32 dX12_ofOne_30 rfl rfl ?_
            refine a_callV ok_X12_doesSee ln_X12_197 in_X12_doesSee rfl 35 dX12_ofOne_32 rfl (k_X12_doesSee q1.1 q1.2.1 hx hym) (by repeat (first | assumption | (refine rg_ne (by first | decide | omega) ?_) | apply rg_eq | refine rg_fr (by assumption) (by first | decide | (simp; omega)) ?_)) rfl rfl rfl ⟨(Nat.le_of_ble_eq_true rfl), (Nat.le_of_ble_eq_true rfl)⟩ (Nat.le_of_ble_eq_true rfl) ⟨(Nat.le_of_ble_eq_true rfl), (Nat.le_of_ble_eq_true rfl)⟩ ?_
            rintro h2 v ⟨rfl, hc2, hf2⟩
            have q2 := q1.line hc2 hf2
            have hm2 := q2.at
            refine a_if_eq 45 38 dX12_ofOne_35 rfl (by decide) (fun c_35 => ?_) (fun c_35 => absurd (if_neg hS) c_35)
            refine a_iconst (0) 46 dX12_ofOne_45 rfl (by decide) ?_
            refine a_ior 47 dX12_ofOne_46 rfl ?_
            refine a_istore_n 48 dX12_ofOne_47 rfl (by decide) ?_
            refine a_iload 50 dX12_ofOne_48 rfl rfl ?_
            refine a_aload_n 51 dX12_ofOne_50 rfl rfl ?_
            refine a_iload_n 52 dX12_ofOne_51 rfl rfl ?_
            refine a_iload 54 dX12_ofOne_52 rfl rfl ?_
            refine a_callV ok_X12_doesHear ln_X12_200 in_X12_doesHear rfl 57 dX12_ofOne_54 rfl (k_X12_doesHear q2.1 q2.2.1 hx hym) (by repeat (first | assumption | (refine rg_ne (by first | decide | omega) ?_) | apply rg_eq | refine rg_fr (by assumption) (by first | decide | (simp; omega)) ?_)) rfl rfl rfl ⟨(Nat.le_of_ble_eq_true rfl), (Nat.le_of_ble_eq_true rfl)⟩ (Nat.le_of_ble_eq_true rfl) ⟨(Nat.le_of_ble_eq_true rfl), (Nat.le_of_ble_eq_true rfl)⟩ ?_
            rintro _ _ ⟨rfl, rfl⟩
            refine a_if_eq 67 60 dX12_ofOne_57 rfl (by decide) (fun c_57 => absurd c_57 (by rw [if_pos hH]; decide)) (fun c_57 => ?_)
            refine a_iconst (1) 61 dX12_ofOne_60 rfl (by decide) ?_
            refine a_iload 63 dX12_ofOne_61 rfl rfl ?_
            refine a_ishl 64 dX12_ofOne_63 rfl ?_
            refine a_goto 68 dX12_ofOne_64 (by decide) ?_
            refine a_ior 69 dX12_ofOne_68 rfl ?_
            refine a_istore 71 dX12_ofOne_69 rfl (by decide) ?_
            refine a_iinc _ 74 dX12_ofOne_71 rfl rfl (by decide) rfl ?_
            refine a_goto 18 dX12_ofOne_74 (by decide) ?_
            exact ih (y + 1) _ _ _ _ (by omega) (bsN_f (P := fun y => decide (T.sees x y)) (decide_eq_false hS)) (bsN_t (P := fun y => hearM T.nb (T.se x) (T.se y)) hH) (nI_1 y) q2 (fr_trans hf1 hf2 (fun _ q => q))
          · skip
            refine a_iload 20 dX12_ofOne_18 rfl rfl ?_
            refine a_aload_n 21 dX12_ofOne_20 rfl rfl ?_
            refine a_get fd_X12_160 rfl 24 dX12_ofOne_21 rfl (by repeat (first | assumption | (refine rg_ne (by first | decide | omega) ?_) | apply rg_eq | refine rg_fr (by assumption) (by first | decide | (simp; omega)) ?_)) rfl ?_
            refine a_icmp_ge 77 27 dX12_ofOne_24 rfl (by decide) (fun c_24 => absurd c_24 (by rw [ho1]; exact nI_ge (a := y) (b := T.m) (by omega) (by omega))) (fun c_24 => ?_)
            refine a_iload_n 28 dX12_ofOne_27 rfl rfl ?_
            refine a_aload_n 29 dX12_ofOne_28 rfl rfl ?_
            refine a_iload_n 30 dX12_ofOne_29 rfl rfl ?_
            refine a_iload 32 dX12_ofOne_30 rfl rfl ?_
            refine a_callV ok_X12_doesSee ln_X12_197 in_X12_doesSee rfl 35 dX12_ofOne_32 rfl (k_X12_doesSee q1.1 q1.2.1 hx hym) (by repeat (first | assumption | (refine rg_ne (by first | decide | omega) ?_) | apply rg_eq | refine rg_fr (by assumption) (by first | decide | (simp; omega)) ?_)) rfl rfl rfl ⟨(Nat.le_of_ble_eq_true rfl), (Nat.le_of_ble_eq_true rfl)⟩ (Nat.le_of_ble_eq_true rfl) ⟨(Nat.le_of_ble_eq_true rfl), (Nat.le_of_ble_eq_true rfl)⟩ ?_
            rintro h2 v ⟨rfl, hc2, hf2⟩
            have q2 := q1.line hc2 hf2
            have hm2 := q2.at
            refine a_if_eq 45 38 dX12_ofOne_35 rfl (by decide) (fun c_35 => ?_) (fun c_35 => absurd (if_neg hS) c_35)
            refine a_iconst (0) 46 dX12_ofOne_45 rfl (by decide) ?_
            refine a_ior 47 dX12_ofOne_46 rfl ?_
            refine a_istore_n 48 dX12_ofOne_47 rfl (by decide) ?_
            refine a_iload 50 dX12_ofOne_48 rfl rfl ?_
            refine a_aload_n 51 dX12_ofOne_50 rfl rfl ?_
            refine a_iload_n 52 dX12_ofOne_51 rfl rfl ?_
            refine a_iload 54 dX12_ofOne_52 rfl rfl ?_
            refine a_callV ok_X12_doesHear ln_X12_200 in_X12_doesHear rfl 57 dX12_ofOne_54 rfl (k_X12_doesHear q2.1 q2.2.1 hx hym) (by repeat (first | assumption | (refine rg_ne (by first | decide | omega) ?_) | apply rg_eq | refine rg_fr (by assumption) (by first | decide | (simp; omega)) ?_)) rfl rfl rfl ⟨(Nat.le_of_ble_eq_true rfl), (Nat.le_of_ble_eq_true rfl)⟩ (Nat.le_of_ble_eq_true rfl) ⟨(Nat.le_of_ble_eq_true rfl), (Nat.le_of_ble_eq_true rfl)⟩ ?_
            rintro _ _ ⟨rfl, rfl⟩
            refine a_if_eq 67 60 dX12_ofOne_57 rfl (by decide) (fun c_57 => ?_) (fun c_57 => absurd (if_neg hH) c_57)
            refine a_iconst (0) 68 dX12_ofOne_67 rfl (by decide) ?_
            refine a_ior 69 dX12_ofOne_68 rfl ?_
            refine a_istore 71 dX12_ofOne_69 rfl (by decide) ?_
            refine a_iinc _ 74 dX12_ofOne_71 rfl rfl (by decide) rfl ?_
            refine a_goto 18 dX12_ofOne_74 (by decide) ?_
            exact ih (y + 1) _ _ _ _ (by omega) (bsN_f (P := fun y => decide (T.sees x y)) (decide_eq_false hS)) (bsN_f (P := fun y => hearM T.nb (T.se x) (T.se y)) (Bool.eq_false_iff.mpr hH)) (nI_1 y) q2 (fr_trans hf1 hf2 (fun _ q => q))
    refine rM_start (by decide) (Nat.le_of_ble_eq_true rfl) ?_
    refine a_aload_n 1 dX12_ofOne_0 rfl rfl ?_
    refine a_iload_n 2 dX12_ofOne_1 rfl rfl ?_
    refine a_callV ok_X12_noOne ln_X12_194 in_X12_noOne rfl 5 dX12_ofOne_2 rfl (m_noOne q (nI x)) (by repeat (first | assumption | (refine rg_ne (by first | decide | omega) ?_) | apply rg_eq | refine rg_fr (by assumption) (by first | decide | (simp; omega)) ?_)) rfl rfl rfl ⟨(Nat.le_of_ble_eq_true rfl), (Nat.le_of_ble_eq_true rfl)⟩ (Nat.le_of_ble_eq_true rfl) ⟨(Nat.le_of_ble_eq_true rfl), (Nat.le_of_ble_eq_true rfl)⟩ ?_
    rintro _ _ ⟨rfl, rfl⟩
    refine a_if_eq 10 8 dX12_ofOne_5 rfl (by decide) (fun c_5 => ?_) (fun c_5 => absurd (if_pos (oT_yes hx (by omega))) c_5)
    refine a_iconst (0) 11 dX12_ofOne_10 rfl (by decide) ?_
    refine a_istore_n 12 dX12_ofOne_11 rfl (by decide) ?_
    refine a_iconst (0) 13 dX12_ofOne_12 rfl (by decide) ?_
    refine a_istore 15 dX12_ofOne_13 rfl (by decide) ?_
    refine a_iconst (0) 16 dX12_ofOne_15 rfl (by decide) ?_
    refine a_istore 18 dX12_ofOne_16 rfl (by decide) ?_
    exact L T.m 0 _ _ _ _ (by omega) rfl rfl rfl q (fr_refl _ _)
end MONE2
