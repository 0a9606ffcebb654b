/-! THE MODEL's calls over a law's mights -/
section MPUB
variable {l : Launch} {G : rG} {h : rH} {T : Tn}
set_option maxRecDepth 100000 in
set_option maxHeartbeats 400000 in
theorem m_barred (q : mAll G h T) (o : T.ok) (c : Int32) : rM l G 12 mX12_barred 0 0 [.ref (gN G + 38), .int c] h (fun h' v => v = some (.int (aBarred T c)) ∧ mAll G h' T ∧ kp h h' mL) := by
  obtain ⟨i, j, q⟩ := q
  have hnl := o.nl6
  have hm := q.at
  rcases oT_cases (n := T.nl) (by omega) c with ⟨e, hc⟩ | ⟨z, hz, rfl, e⟩
  · have ea : aBarred T c = -1 := by unfold aBarred; rw [e]
    refine rM_start (by decide) (Nat.le_of_ble_eq_true rfl) ?_
    refine a_aload_n 1 dX12_barred_0 rfl rfl ?_
    refine a_iload_n 2 dX12_barred_1 rfl rfl ?_
    refine a_callV ok_X12_noLaw ln_X12_218 in_X12_noLaw rfl 5 dX12_barred_2 rfl (m_noLaw q c) (by repeat (first | assumption | (refine rg_ne (by first | decide | omega) ?_) | apply rg_eq | refine rg_fr (by assumption) (by first | decide | (simp; omega)) ?_)) rfl rfl rfl ⟨(Nat.le_of_ble_eq_true rfl), (Nat.le_of_ble_eq_true rfl)⟩ (Nat.le_of_ble_eq_true rfl) ⟨(Nat.le_of_ble_eq_true rfl), (Nat.le_of_ble_eq_true rfl)⟩ ?_
    rintro _ _ ⟨rfl, rfl⟩
    refine a_if_eq 12 8 dX12_barred_5 rfl (by decide) (fun c_5 => absurd c_5 (by rw [if_neg hc]; decide)) (fun c_5 => ?_)
    refine a_iconst (-1) 9 dX12_barred_8 rfl (by decide) ?_
    refine a_goto 17 dX12_barred_9 (by decide) ?_
    exact a_ireturn dX12_barred_17 rfl rfl (Nat.le_of_ble_eq_true rfl) (Nat.le_of_ble_eq_true rfl) ⟨by rw [ea], ⟨i, j, q⟩, fun _ _ _ => rfl⟩
  · have ea : aBarred T (nI z) = noI (barT T z) := by unfold aBarred; rw [e]
    refine rM_start (by decide) (Nat.le_of_ble_eq_true rfl) ?_
    refine a_aload_n 1 dX12_barred_0 rfl rfl ?_
    refine a_iload_n 2 dX12_barred_1 rfl rfl ?_
    refine a_callV ok_X12_noLaw ln_X12_218 in_X12_noLaw rfl 5 dX12_barred_2 rfl (m_noLaw q (nI z)) (by repeat (first | assumption | (refine rg_ne (by first | decide | omega) ?_) | apply rg_eq | refine rg_fr (by assumption) (by first | decide | (simp; omega)) ?_)) rfl rfl rfl ⟨(Nat.le_of_ble_eq_true rfl), (Nat.le_of_ble_eq_true rfl)⟩ (Nat.le_of_ble_eq_true rfl) ⟨(Nat.le_of_ble_eq_true rfl), (Nat.le_of_ble_eq_true rfl)⟩ ?_
    rintro _ _ ⟨rfl, rfl⟩
    refine a_if_eq 12 8 dX12_barred_5 rfl (by decide) (fun c_5 => ?_) (fun c_5 => absurd (if_pos (oT_yes hz (by omega))) c_5)
    refine a_aload_n 13 dX12_barred_12 rfl rfl ?_
    refine a_iload_n 14 dX12_barred_13 rfl rfl ?_
    refine a_callV ok_X12_firstBarred ln_X12_260 in_X12_firstBarred rfl 17 dX12_barred_14 rfl (m_bar q hz) (by repeat (first | assumption | (refine rg_ne (by first | decide | omega) ?_) | apply rg_eq | refine rg_fr (by assumption) (by first | decide | (simp; omega)) ?_)) rfl rfl rfl ⟨(Nat.le_of_ble_eq_true rfl), (Nat.le_of_ble_eq_true rfl)⟩ (Nat.le_of_ble_eq_true rfl) ⟨(Nat.le_of_ble_eq_true rfl), (Nat.le_of_ble_eq_true rfl)⟩ ?_
    rintro h2 v ⟨rfl, hc2, hf2⟩
    exact a_ireturn dX12_barred_17 rfl rfl (Nat.le_of_ble_eq_true rfl) (Nat.le_of_ble_eq_true rfl) ⟨by rw [ea], ⟨i, j, q.line hc2 hf2⟩, kp_mono (kp_fr hf2) (by decide)⟩
set_option maxRecDepth 100000 in
set_option maxHeartbeats 400000 in
theorem k_X12_causesOf {i : Nat → Int32} {j : Nat → Int64} (q : mX G h T i j) (o : T.ok) {z x : Nat} (hz : z < T.nl) (hx : x < T.m) (hb : barT T z = none) : rM l G 10 mX12_causesOf 0 0 [.ref (gN G + 38), .int (nI z), .int (nI x)] h (fun h' v => v = some (.int (nI (cauT T z x))) ∧ mX G h' T i j ∧ fr h h' [44]) := by
  have hny := o.ny24
  have hm12 := o.m12
  have hbs := fun p (hp : p < T.ny) => Nat.pos_of_ne_zero (of_decide_eq_false (firstN_no hb p (Nat.zero_le _) (by omega)))
  have L : ∀ (r p : Nat) (s y : Int32) (o5 o6 : Option Value) (h1 : rH), p + r = T.ny → s = nI (sumN (cauJ T z x) p) → y = nI p → mX G h1 T i j → fr h h1 [44] → rW l G (rRm 10 0 0) mX12_causesOf (rZ G (fun h' v => v = some (.int (nI (cauT T z x))) ∧ mX G h' T i j ∧ fr h h' [44]) 0 0) 0 0 5 [some (.ref (gN G + 38)), some (.int (nI z)), some (.int (nI x)), some (.int s), some (.int y), o5, o6] [] h1 := by
    intro r
    induction r with
    | zero =>
      intro p s y o5 o6 h1 hp hs hy q1 hf1
      subst hs; subst hy
      have e : p = T.ny := by omega
      subst e
      have hm1 := q1.at
      have hny1 := q1.2.2.2.1.2.1
      refine a_iload 7 dX12_causesOf_5 rfl rfl ?_
      refine a_aload_n 8 dX12_causesOf_7 rfl rfl ?_
      refine a_get fd_X12_163 rfl 11 dX12_causesOf_8 rfl (by repeat (first | assumption | (refine rg_ne (by first | decide | omega) ?_) | apply rg_eq | refine rg_fr (by assumption) (by first | decide | (simp; omega)) ?_)) rfl ?_
      refine a_icmp_ge 79 14 dX12_causesOf_11 rfl (by decide) (fun c_11 => ?_) (fun c_11 => absurd (by rw [hny1]; exact Int32.le_refl _) c_11)
      refine a_iload_n 80 dX12_causesOf_79 rfl rfl ?_
      exact a_ireturn dX12_causesOf_80 rfl rfl (Nat.le_of_ble_eq_true rfl) (Nat.le_of_ble_eq_true rfl) ⟨rfl, q1, hf1⟩
    | succ r ih =>
      intro p s y o5 o6 h1 hp hs hy q1 hf1
      subst hs; subst hy
      have hm1 := q1.at
      have hny1 := q1.2.2.2.1.2.1
      have hal := all_lt o (q := p) hz (by omega)
      have hpos := hbs p (by omega)
      have L2 : ∀ (r2 t : Nat) (s y : Int32) (h1 : rH), t + r2 = p → s = nI (sumN (cauJ T z x) p + sumN (cauI T z x p) t) → y = nI t → mX G h1 T i j → fr h h1 [44] → rW l G (rRm 10 0 0) mX12_causesOf (rZ G (fun h' v => v = some (.int (nI (cauT T z x))) ∧ mX G h' T i j ∧ fr h h' [44]) 0 0) 0 0 26 [some (.ref (gN G + 38)), some (.int (nI z)), some (.int (nI x)), some (.int s), some (.int (nI p)), some (.int (nI (T.all z p))), some (.int y)] [] h1 := by
        intro r2
        induction r2 with
        | zero =>
          intro t s y h1 ht hs hy q1 hf1
          subst hs; subst hy
          have e : t = p := by omega
          subst e
          refine a_iload 28 dX12_causesOf_26 rfl rfl ?_
          refine a_iload 30 dX12_causesOf_28 rfl rfl ?_
          refine a_icmp_ge 73 33 dX12_causesOf_30 rfl (by decide) (fun c_30 => ?_) (fun c_30 => absurd (Int32.le_refl _) c_30)
          refine a_iinc _ 76 dX12_causesOf_73 rfl rfl (by decide) rfl ?_
          refine a_goto 5 dX12_causesOf_76 (by decide) ?_
          exact ih (t + 1) _ _ _ _ _ (by omega) rfl (nI_1 t) q1 hf1
        | succ r2 ih2 =>
          intro t s y h1 ht hs hy q1 hf1
          subst hs; subst hy
          have hm1 := q1.at
          obtain ⟨-, -, -, -, ⟨f5, q5, q5'⟩⟩ := id q1.2.2.2.1
          have vt : vp_in (nI t) 24 := vp_in_nI (by omega) (by decide)
          have e5 := q5' t (by omega)
          have e0 : (nI t).toNatClampNeg = t := nI_clamp (by omega)
          have hyx : nI (T.yw t) = nI x ↔ T.yw t = x := nI_eq (by have := o.yw (q := t) (by omega); omega) (by omega)
          have hs := src_lt o (j := p) (i := t) hz
          have ed : nI (T.src z p t) * 1000000 / nI (T.all z p) = nI (T.src z p t * 1000000 / T.all z p) := by
            rw [show (1000000 : Int32) = nI 1000000 from rfl, pk_mul, pk_div (by omega) hpos (by omega)]
          refine a_iload 28 dX12_causesOf_26 rfl rfl ?_
          refine a_iload 30 dX12_causesOf_28 rfl rfl ?_
          refine a_icmp_ge 73 33 dX12_causesOf_30 rfl (by decide) (fun c_30 => absurd c_30 (nI_ge (a := t) (b := p) (by omega) (by omega))) (fun c_30 => ?_)
          refine a_iload_n 34 dX12_causesOf_33 rfl rfl ?_
          refine a_aload_n 35 dX12_causesOf_34 rfl rfl ?_
          refine a_get fd_X12_50 rfl 38 dX12_causesOf_35 rfl (by repeat (first | assumption | (refine rg_ne (by first | decide | omega) ?_) | apply rg_eq | refine rg_fr (by assumption) (by first | decide | (simp; omega)) ?_)) rfl ?_
          refine a_iload 40 dX12_causesOf_38 rfl rfl ?_
          refine a_iaload 41 dX12_causesOf_40 rfl (by repeat (first | assumption | (refine rg_ne (by first | decide | omega) ?_) | apply rg_eq | refine rg_fr (by assumption) (by first | decide | (simp; omega)) ?_)) vt ?_
          rw [e0, e5.1]
          refine a_iload_n 42 dX12_causesOf_41 rfl rfl ?_
          refine a_icmp_ne 64 45 dX12_causesOf_42 rfl (by decide) (fun c_42 => ?_) (fun c_42 => ?_)
          · refine a_iconst (0) 65 dX12_causesOf_64 rfl (by decide) ?_
            refine a_iadd 66 dX12_causesOf_65 rfl ?_
            refine a_istore_n 67 dX12_causesOf_66 rfl (by decide) ?_
            refine a_iinc _ 70 dX12_causesOf_67 rfl rfl (by decide) rfl ?_
            refine a_goto 26 dX12_causesOf_70 (by decide) ?_
            exact ih2 (t + 1) _ _ _ (by omega) (by rw [sumN, show cauI T z x p t = 0 from if_neg (fun v => c_42 (hyx.mpr v))]; exact Int32.add_zero _) (nI_1 t) q1 hf1
          · refine a_aload_n 46 dX12_causesOf_45 rfl rfl ?_
            refine a_iload_n 47 dX12_causesOf_46 rfl rfl ?_
            refine a_iload 49 dX12_causesOf_47 rfl rfl ?_
            refine a_iload 51 dX12_causesOf_49 rfl rfl ?_
            refine a_callV ok_X12_source ln_X12_250 in_X12_source rfl 54 dX12_causesOf_51 rfl (m_src q1 hz (by omega) (by omega)) (by repeat (first | assumption | (refine rg_ne (by first | decide | omega) ?_) | apply rg_eq | refine rg_fr (by assumption) (by first | decide | (simp; omega)) ?_)) rfl rfl rfl ⟨(Nat.le_of_ble_eq_true rfl), (Nat.le_of_ble_eq_true rfl)⟩ (Nat.le_of_ble_eq_true rfl) ⟨(Nat.le_of_ble_eq_true rfl), (Nat.le_of_ble_eq_true rfl)⟩ ?_
            rintro h2 v ⟨rfl, hc2, hf2⟩
            refine a_ldcw (1000000) 57 dX12_causesOf_54 rfl lk_X12_265 ?_
            refine a_imul 58 dX12_causesOf_57 rfl ?_
            refine a_iload 60 dX12_causesOf_58 rfl rfl ?_
            refine a_idiv 61 dX12_causesOf_60 rfl (nI_ne0 hpos (by omega)) ?_
            rw [ed]
            refine a_goto 65 dX12_causesOf_61 (by decide) ?_
            refine a_iadd 66 dX12_causesOf_65 rfl ?_
            refine a_istore_n 67 dX12_causesOf_66 rfl (by decide) ?_
            refine a_iinc _ 70 dX12_causesOf_67 rfl rfl (by decide) rfl ?_
            refine a_goto 26 dX12_causesOf_70 (by decide) ?_
            exact ih2 (t + 1) _ _ _ (by omega) (by rw [sumN, show cauI T z x p t = _ from if_pos (hyx.mp c_42), nI_add, Nat.add_assoc]) (nI_1 t) (q1.line hc2 hf2) (fr_trans hf1 hf2 (fun _ q => q))
      refine a_iload 7 dX12_causesOf_5 rfl rfl ?_
      refine a_aload_n 8 dX12_causesOf_7 rfl rfl ?_
      refine a_get fd_X12_163 rfl 11 dX12_causesOf_8 rfl (by repeat (first | assumption | (refine rg_ne (by first | decide | omega) ?_) | apply rg_eq | refine rg_fr (by assumption) (by first | decide | (simp; omega)) ?_)) rfl ?_
      refine a_icmp_ge 79 14 dX12_causesOf_11 rfl (by decide) (fun c_11 => absurd c_11 (by rw [hny1]; exact nI_ge (a := p) (b := T.ny) (by omega) (by omega))) (fun c_11 => ?_)
      refine a_aload_n 15 dX12_causesOf_14 rfl rfl ?_
      refine a_iload_n 16 dX12_causesOf_15 rfl rfl ?_
      refine a_iload 18 dX12_causesOf_16 rfl rfl ?_
      refine a_callV ok_X12_allSources ln_X12_253 in_X12_allSources rfl 21 dX12_causesOf_18 rfl (m_all q1 hz (by omega)) (by repeat (first | assumption | (refine rg_ne (by first | decide | omega) ?_) | apply rg_eq | refine rg_fr (by assumption) (by first | decide | (simp; omega)) ?_)) rfl rfl rfl ⟨(Nat.le_of_ble_eq_true rfl), (Nat.le_of_ble_eq_true rfl)⟩ (Nat.le_of_ble_eq_true rfl) ⟨(Nat.le_of_ble_eq_true rfl), (Nat.le_of_ble_eq_true rfl)⟩ ?_
      rintro h2 v ⟨rfl, hc2, hf2⟩
      refine a_istore 23 dX12_causesOf_21 rfl (by decide) ?_
      refine a_iconst (0) 24 dX12_causesOf_23 rfl (by decide) ?_
      refine a_istore 26 dX12_causesOf_24 rfl (by decide) ?_
      exact L2 p 0 _ _ _ (by omega) rfl rfl (q1.line hc2 hf2) (fr_trans hf1 hf2 (fun _ q => q))
  refine rM_start (by decide) (Nat.le_of_ble_eq_true rfl) ?_
  refine a_iconst (0) 1 dX12_causesOf_0 rfl (by decide) ?_
  refine a_istore_n 2 dX12_causesOf_1 rfl (by decide) ?_
  refine a_iconst (0) 3 dX12_causesOf_2 rfl (by decide) ?_
  refine a_istore 5 dX12_causesOf_3 rfl (by decide) ?_
  exact L T.ny 0 _ _ _ _ _ (by omega) rfl rfl q (fr_refl _ _)
theorem noI_lt0 {o : Option Nat} (h : ∀ x, o = some x → x < 2 ^ 31) : noI o < 0 ↔ o = none := by
  cases o with
  | none => exact ⟨fun _ => rfl, fun _ => by decide⟩
  | some x => exact ⟨fun z => absurd z (nI_pos (h x rfl)), fun z => by cases z⟩
theorem bar_lt0 (o : T.ok) {z : Nat} : noI (barT T z) < 0 ↔ barT T z = none := noI_lt0 (fun x hx => by have := firstN_spec hx; have := o.ny24; omega)
set_option maxRecDepth 100000 in
set_option maxHeartbeats 400000 in
theorem m_causes (q : mAll G h T) (o : T.ok) (c d : Int32) : rM l G 12 mX12_causes 0 0 [.ref (gN G + 38), .int c, .int d] h (fun h' v => v = some (.int (aCauses T c d)) ∧ mAll G h' T ∧ kp h h' mL) := by
  obtain ⟨i, j, q⟩ := q
  have hnl := o.nl6
  have hm12 := o.m12
  have hm := q.at
  rcases oT_cases (n := T.nl) (by omega) c with ⟨e, hc⟩ | ⟨z, hz, rfl, e⟩
  · have ea : aCauses T c d = -1 := by unfold aCauses; rw [e]
    refine rM_start (by decide) (Nat.le_of_ble_eq_true rfl) ?_
    refine a_aload_n 1 dX12_causes_0 rfl rfl ?_
    refine a_iload_n 2 dX12_causes_1 rfl rfl ?_
    refine a_callV ok_X12_noLaw ln_X12_218 in_X12_noLaw rfl 5 dX12_causes_2 rfl (m_noLaw q c) (by repeat (first | assumption | (refine rg_ne (by first | decide | omega) ?_) | apply rg_eq | refine rg_fr (by assumption) (by first | decide | (simp; omega)) ?_)) rfl rfl rfl ⟨(Nat.le_of_ble_eq_true rfl), (Nat.le_of_ble_eq_true rfl)⟩ (Nat.le_of_ble_eq_true rfl) ⟨(Nat.le_of_ble_eq_true rfl), (Nat.le_of_ble_eq_true rfl)⟩ ?_
    rintro _ _ ⟨rfl, rfl⟩
    refine a_if_ne 16 8 dX12_causes_5 rfl (by decide) (fun c_5 => ?_) (fun c_5 => absurd c_5 (by rw [if_neg hc]; decide))
    refine a_iconst (-1) 17 dX12_causes_16 rfl (by decide) ?_
    exact a_ireturn dX12_causes_17 rfl rfl (Nat.le_of_ble_eq_true rfl) (Nat.le_of_ble_eq_true rfl) ⟨by rw [ea], ⟨i, j, q⟩, fun _ _ _ => rfl⟩
  · rcases oT_cases (n := T.m) (by omega) d with ⟨e2, hd⟩ | ⟨x, hx, rfl, e2⟩
    · have ea : aCauses T (nI z) d = -1 := by unfold aCauses; rw [e, e2]
      refine rM_start (by decide) (Nat.le_of_ble_eq_true rfl) ?_
      refine a_aload_n 1 dX12_causes_0 rfl rfl ?_
      refine a_iload_n 2 dX12_causes_1 rfl rfl ?_
      refine a_callV ok_X12_noLaw ln_X12_218 in_X12_noLaw rfl 5 dX12_causes_2 rfl (m_noLaw q (nI z)) (by repeat (first | assumption | (refine rg_ne (by first | decide | omega) ?_) | apply rg_eq | refine rg_fr (by assumption) (by first | decide | (simp; omega)) ?_)) rfl rfl rfl ⟨(Nat.le_of_ble_eq_true rfl), (Nat.le_of_ble_eq_true rfl)⟩ (Nat.le_of_ble_eq_true rfl) ⟨(Nat.le_of_ble_eq_true rfl), (Nat.le_of_ble_eq_true rfl)⟩ ?_
      rintro _ _ ⟨rfl, rfl⟩
      refine a_if_ne 16 8 dX12_causes_5 rfl (by decide) (fun c_5 => absurd (if_pos (oT_yes hz (by omega))) c_5) (fun c_5 => ?_)
      refine a_aload_n 9 dX12_causes_8 rfl rfl ?_
      refine a_iload_n 10 dX12_causes_9 rfl rfl ?_
      refine a_callV ok_X12_noOne ln_X12_194 in_X12_noOne rfl 13 dX12_causes_10 rfl (m_noOne q d) (by repeat (first | assumption | (refine rg_ne (by first | decide | omega) ?_) | apply rg_eq | refine rg_fr (by assumption) (by first | decide | (simp; omega)) ?_)) rfl rfl rfl ⟨(Nat.le_of_ble_eq_true rfl), (Nat.le_of_ble_eq_true rfl)⟩ (Nat.le_of_ble_eq_true rfl) ⟨(Nat.le_of_ble_eq_true rfl), (Nat.le_of_ble_eq_true rfl)⟩ ?_
      rintro _ _ ⟨rfl, rfl⟩
      refine a_if_eq 18 16 dX12_causes_13 rfl (by decide) (fun c_13 => absurd c_13 (by rw [if_neg hd]; decide)) (fun c_13 => ?_)
      refine a_iconst (-1) 17 dX12_causes_16 rfl (by decide) ?_
      exact a_ireturn dX12_causes_17 rfl rfl (Nat.le_of_ble_eq_true rfl) (Nat.le_of_ble_eq_true rfl) ⟨by rw [ea], ⟨i, j, q⟩, fun _ _ _ => rfl⟩
    · have ea : aCauses T (nI z) (nI x) = if barT T z = none then nI (cauT T z x) else -3 := by unfold aCauses; rw [e, e2]
      have hb0 := bar_lt0 o (z := z)
      by_cases hb : barT T z = none
      · rw [if_pos hb] at ea
        refine rM_start (by decide) (Nat.le_of_ble_eq_true rfl) ?_
        refine a_aload_n 1 dX12_causes_0 rfl rfl ?_
        refine a_iload_n 2 dX12_causes_1 rfl rfl ?_
        refine a_callV ok_X12_noLaw ln_X12_218 in_X12_noLaw rfl 5 dX12_causes_2 rfl (m_noLaw q (nI z)) (by repeat (first | assumption | (refine rg_ne (by first | decide | omega) ?_) | apply rg_eq | refine rg_fr (by assumption) (by first | decide | (simp; omega)) ?_)) rfl rfl rfl ⟨(Nat.le_of_ble_eq_true rfl), (Nat.le_of_ble_eq_true rfl)⟩ (Nat.le_of_ble_eq_true rfl) ⟨(Nat.le_of_ble_eq_true rfl), (Nat.le_of_ble_eq_true rfl)⟩ ?_
        rintro _ _ ⟨rfl, rfl⟩
        refine a_if_ne 16 8 dX12_causes_5 rfl (by decide) (fun c_5 => absurd (if_pos (oT_yes hz (by omega))) c_5) (fun c_5 => ?_)
        refine a_aload_n 9 dX12_causes_8 rfl rfl ?_
        refine a_iload_n 10 dX12_causes_9 rfl rfl ?_
        refine a_callV ok_X12_noOne ln_X12_194 in_X12_noOne rfl 13 dX12_causes_10 rfl (m_noOne q (nI x)) (by repeat (first | assumption | (refine rg_ne (by first | decide | omega) ?_) | apply rg_eq | refine rg_fr (by assumption) (by first | decide | (simp; omega)) ?_)) rfl rfl rfl ⟨(Nat.le_of_ble_eq_true rfl), (Nat.le_of_ble_eq_true rfl)⟩ (Nat.le_of_ble_eq_true rfl) ⟨(Nat.le_of_ble_eq_true rfl), (Nat.le_of_ble_eq_true rfl)⟩ ?_
        rintro _ _ ⟨rfl, rfl⟩
        refine a_if_eq 18 16 dX12_causes_13 rfl (by decide) (fun c_13 => ?_) (fun c_13 => absurd (if_pos (oT_yes hx (by omega))) c_13)
        refine a_aload_n 19 dX12_causes_18 rfl rfl ?_
        refine a_iload_n 20 dX12_causes_19 rfl rfl ?_
        refine a_callV ok_X12_firstBarred ln_X12_260 in_X12_firstBarred rfl 23 dX12_causes_20 rfl (m_bar q hz) (by repeat (first | assumption | (refine rg_ne (by first | decide | omega) ?_) | apply rg_eq | refine rg_fr (by assumption) (by first | decide | (simp; omega)) ?_)) rfl rfl rfl ⟨(Nat.le_of_ble_eq_true rfl), (Nat.le_of_ble_eq_true rfl)⟩ (Nat.le_of_ble_eq_true rfl) ⟨(Nat.le_of_ble_eq_true rfl), (Nat.le_of_ble_eq_true rfl)⟩ ?_
        rintro h2 v ⟨rfl, hc2, hf2⟩
        have q2 := q.line hc2 hf2
        have hm2 := q2.at
        refine a_if_ge 35 26 dX12_causes_23 rfl (by decide) (fun c_23 => absurd (hb0.mpr hb) (Int32.not_lt.mpr c_23)) (fun c_23 => ?_)
        refine a_aload_n 27 dX12_causes_26 rfl rfl ?_
        refine a_iload_n 28 dX12_causes_27 rfl rfl ?_
        refine a_iload_n 29 dX12_causes_28 rfl rfl ?_
        refine a_callV ok_X12_causesOf ln_X12_266 in_X12_causesOf rfl 32 dX12_causes_29 rfl (k_X12_causesOf q2 o hz hx hb) (by repeat (first | assumption | (refine rg_ne (by first | decide | omega) ?_) | apply rg_eq | refine rg_fr (by assumption) (by first | decide | (simp; omega)) ?_)) rfl rfl rfl ⟨(Nat.le_of_ble_eq_true rfl), (Nat.le_of_ble_eq_true rfl)⟩ (Nat.le_of_ble_eq_true rfl) ⟨(Nat.le_of_ble_eq_true rfl), (Nat.le_of_ble_eq_true rfl)⟩ ?_
        rintro h3 v ⟨rfl, q3, hf3⟩
        refine a_goto 37 dX12_causes_32 (by decide) ?_
        exact a_ireturn dX12_causes_37 rfl rfl (Nat.le_of_ble_eq_true rfl) (Nat.le_of_ble_eq_true rfl) ⟨by rw [ea], ⟨i, j, q3⟩, kp_mono (kp_fr (fr_trans hf2 hf3 (by decide))) (by decide)⟩
      · rw [if_neg hb] at ea
        refine rM_start (by decide) (Nat.le_of_ble_eq_true rfl) ?_
        refine a_aload_n 1 dX12_causes_0 rfl rfl ?_
        refine a_iload_n 2 dX12_causes_1 rfl rfl ?_
        refine a_callV ok_X12_noLaw ln_X12_218 in_X12_noLaw rfl 5 dX12_causes_2 rfl (m_noLaw q (nI z)) (by repeat (first | assumption | (refine rg_ne (by first | decide | omega) ?_) | apply rg_eq | refine rg_fr (by assumption) (by first | decide | (simp; omega)) ?_)) rfl rfl rfl ⟨(Nat.le_of_ble_eq_true rfl), (Nat.le_of_ble_eq_true rfl)⟩ (Nat.le_of_ble_eq_true rfl) ⟨(Nat.le_of_ble_eq_true rfl), (Nat.le_of_ble_eq_true rfl)⟩ ?_
        rintro _ _ ⟨rfl, rfl⟩
        refine a_if_ne 16 8 dX12_causes_5 rfl (by decide) (fun c_5 => absurd (if_pos (oT_yes hz (by omega))) c_5) (fun c_5 => ?_)
        refine a_aload_n 9 dX12_causes_8 rfl rfl ?_
        refine a_iload_n 10 dX12_causes_9 rfl rfl ?_
        refine a_callV ok_X12_noOne ln_X12_194 in_X12_noOne rfl 13 dX12_causes_10 rfl (m_noOne q (nI x)) (by repeat (first | assumption | (refine rg_ne (by first | decide | omega) ?_) | apply rg_eq | refine rg_fr (by assumption) (by first | decide | (simp; omega)) ?_)) rfl rfl rfl ⟨(Nat.le_of_ble_eq_true rfl), (Nat.le_of_ble_eq_true rfl)⟩ (Nat.le_of_ble_eq_true rfl) ⟨(Nat.le_of_ble_eq_true rfl), (Nat.le_of_ble_eq_true rfl)⟩ ?_
        rintro _ _ ⟨rfl, rfl⟩
        refine a_if_eq 18 16 dX12_causes_13 rfl (by decide) (fun c_13 => ?_) (fun c_13 => absurd (if_pos (oT_yes hx (by omega))) c_13)
        refine a_aload_n 19 dX12_causes_18 rfl rfl ?_
        refine a_iload_n 20 dX12_causes_19 rfl rfl ?_
        refine a_callV ok_X12_firstBarred ln_X12_260 in_X12_firstBarred rfl 23 dX12_causes_20 rfl (m_bar q hz) (by repeat (first | assumption | (refine rg_ne (by first | decide | omega) ?_) | apply rg_eq | refine rg_fr (by assumption) (by first | decide | (simp; omega)) ?_)) rfl rfl rfl ⟨(Nat.le_of_ble_eq_true rfl), (Nat.le_of_ble_eq_true rfl)⟩ (Nat.le_of_ble_eq_true rfl) ⟨(Nat.le_of_ble_eq_true rfl), (Nat.le_of_ble_eq_true rfl)⟩ ?_
        rintro h2 v ⟨rfl, hc2, hf2⟩
        have q2 := q.line hc2 hf2
        have hm2 := q2.at
        refine a_if_ge 35 26 dX12_causes_23 rfl (by decide) (fun c_23 => ?_) (fun c_23 => absurd (Int32.not_lt.mp (fun v => hb (hb0.mp v))) c_23)
        refine a_bipush (-3) 37 dX12_causes_35 rfl (by decide) ?_
        exact a_ireturn dX12_causes_37 rfl rfl (Nat.le_of_ble_eq_true rfl) (Nat.le_of_ble_eq_true rfl) ⟨by rw [ea], ⟨i, j, q2⟩, kp_mono (kp_fr hf2) (by decide)⟩
end MPUB
