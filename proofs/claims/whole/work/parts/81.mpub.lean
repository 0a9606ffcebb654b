/-! THE MODEL: trees, chains, spread -/
theorem mX.s53 {G : rG} {h h' : rH} {T : Tn} {i : Nat → Int32} {j : Nat → Int64} (q : mX G h T i j) (hf : fr h h' [53]) {f : Nat → Int32} (h5 : h'[53]? = some (.inl (gA G 0, 24, .inl f))) : mX G h' T i j := by
  obtain ⟨q1, q2, q3, q4, q5, ⟨a, b, c, d, e, g, k⟩, q7⟩ := q
  have hk := kp_fr hf
  exact ⟨q1.fr hf (by decide) (by decide) (by decide) (by decide) (by decide) (by decide), q2.fr hf (by decide) (by decide) (by decide) (by decide) (by decide), q3.fr hf (by decide) (by decide), q4.fr hf (by decide) (by decide) (by decide), q5.kp hk (by decide), ⟨ex_kp a hk (by decide), ex_kp b hk (by decide), ⟨f, h5⟩, ex_kp d hk (by decide), ex_kp e hk (by decide), ex_kp g hk (by decide), ex_kp k hk (by decide)⟩, q7⟩
section MPUB3
variable {l : Launch} {G : rG} {h : rH} {T : Tn}
set_option maxRecDepth 100000 in
set_option maxHeartbeats 400000 in
theorem m_trees (q : mAll G h T) (o : T.ok) (c : Int32) : rM l G 12 mX12_trees 0 0 [.ref (gN G + 38), .int c] h (fun h' v => v = some (.int (aTrees T c)) ∧ mAll G h' T ∧ kp h h' mL) := by
  obtain ⟨i, j, q⟩ := q
  have hnl := o.nl6
  have hny := o.ny24
  have hm12 := o.m12
  have hm := q.at
  rcases oT_cases (n := T.nl) (by omega) c with ⟨e, hc⟩ | ⟨z, hz, rfl, e⟩
  · have ea : aTrees T c = -1 := by unfold aTrees; rw [e]
    refine rM_start (by decide) (Nat.le_of_ble_eq_true rfl) ?_
    refine a_aload_n 1 dX12_trees_0 rfl rfl ?_
    refine a_iload_n 2 dX12_trees_1 rfl rfl ?_
    refine a_callV ok_X12_noLaw ln_X12_218 in_X12_noLaw rfl 5 dX12_trees_2 rfl (m_noLaw q c) (by repeat (first | assumption | (refine rg_ne (by first | decide | omega) ?_) | apply rg_eq | refine rg_fr (by assumption) (by first | decide | (simp; omega)) ?_)) rfl rfl rfl ⟨(Nat.le_of_ble_eq_true rfl), (Nat.le_of_ble_eq_true rfl)⟩ (Nat.le_of_ble_eq_true rfl) ⟨(Nat.le_of_ble_eq_true rfl), (Nat.le_of_ble_eq_true rfl)⟩ ?_
    rintro _ _ ⟨rfl, rfl⟩
    refine a_if_eq 10 8 dX12_trees_5 rfl (by decide) (fun c_5 => absurd c_5 (by rw [if_neg hc]; decide)) (fun c_5 => ?_)
    refine a_iconst (-1) 9 dX12_trees_8 rfl (by decide) ?_
    exact a_ireturn dX12_trees_9 rfl rfl (Nat.le_of_ble_eq_true rfl) (Nat.le_of_ble_eq_true rfl) ⟨by rw [ea], ⟨i, j, q⟩, fun _ _ _ => rfl⟩
  · have ea : aTrees T (nI z) = (treL T z T.ny).toInt32 := by unfold aTrees; rw [e]
    have L : ∀ (r p : Nat) (s : Int64) (y : Int32) (o5 o6 : Option Value) (h1 : rH), p + r = T.ny → s = treL T z p → y = nI p → mX G h1 T i j → fr h h1 [44] → rW l G (rRm 12 0 0) mX12_trees (rZ G (fun h' v => v = some (.int (aTrees T (nI z))) ∧ mAll G h' T ∧ kp h h' mL) 0 0) 0 0 15 [some (.ref (gN G + 38)), some (.int (nI z)), some (.long s), none, some (.int y), o5, o6] [] h1 := by
      intro r
      induction r with
      | zero =>
        intro p s y o5 o6 h1 hp hs hy q1 hf1
        subst hs; subst hy
        have e : p = T.ny := by omega
        subst e
        have hm1 := q1.at
        have hny1 := q1.2.2.2.1.2.1
        refine a_iload 17 dX12_trees_15 rfl rfl ?_
        refine a_aload_n 18 dX12_trees_17 rfl rfl ?_
        refine a_get fd_X12_163 rfl 21 dX12_trees_18 rfl (by repeat (first | assumption | (refine rg_ne (by first | decide | omega) ?_) | apply rg_eq | refine rg_fr (by assumption) (by first | decide | (simp; omega)) ?_)) rfl ?_
        refine a_icmp_ge 97 24 dX12_trees_21 rfl (by decide) (fun c_21 => ?_) (fun c_21 => absurd (by rw [hny1]; exact Int32.le_refl _) c_21)
        refine a_lload_n 98 dX12_trees_97 rfl rfl ?_
        refine a_l2i 99 dX12_trees_98 rfl ?_
        exact a_ireturn dX12_trees_99 rfl rfl (Nat.le_of_ble_eq_true rfl) (Nat.le_of_ble_eq_true rfl) ⟨by rw [ea], ⟨i, j, q1⟩, kp_mono (kp_fr hf1) (by decide)⟩
      | succ r ih =>
        intro p s y o5 o6 h1 hp hs hy q1 hf1
        subst hs; subst hy
        have hm1 := q1.at
        have hny1 := q1.2.2.2.1.2.1
        have ho := nI_le0 (k := T.own z (T.yw p)) (by have := own_lt o (x := T.yw p) hz; omega)
        have L2 : ∀ (r2 t : Nat) (s5 y : Int32) (h1 : rH), t + r2 = p → s5 = nI ((if 0 < T.own z (T.yw p) then 1 else 0) + sumN (fun i => if 0 < T.src z p i then 1 else 0) t) → y = nI t → mX G h1 T i j → fr h h1 [44] → rW l G (rRm 12 0 0) mX12_trees (rZ G (fun h' v => v = some (.int (aTrees T (nI z))) ∧ mAll G h' T ∧ kp h h' mL) 0 0) 0 0 46 [some (.ref (gN G + 38)), some (.int (nI z)), some (.long (treL T z p)), none, some (.int (nI p)), some (.int s5), some (.int y)] [] h1 := by
          intro r2
          induction r2 with
          | zero =>
            intro t s5 y h1 ht h5 hy q1 hf1
            subst h5; subst hy
            have e : t = p := by omega
            subst e
            refine a_iload 48 dX12_trees_46 rfl rfl ?_
            refine a_iload 50 dX12_trees_48 rfl rfl ?_
            refine a_icmp_ge 81 53 dX12_trees_50 rfl (by decide) (fun c_50 => ?_) (fun c_50 => absurd (Int32.le_refl _) c_50)
            refine a_lload_n 82 dX12_trees_81 rfl rfl ?_
            refine a_iload 84 dX12_trees_82 rfl rfl ?_
            refine a_i2l 85 dX12_trees_84 rfl ?_
            refine a_lmul 86 dX12_trees_85 rfl ?_
            refine a_ldc2 (1000000007) 89 dX12_trees_86 rfl lk_X12_263 ?_
            refine a_lrem 90 dX12_trees_89 rfl (by decide) ?_
            refine a_lstore_n 91 dX12_trees_90 rfl (by decide) ?_
            refine a_iinc _ 94 dX12_trees_91 rfl rfl (by decide) rfl ?_
            refine a_goto 15 dX12_trees_94 (by decide) ?_
            exact ih (t + 1) _ _ _ _ _ (by omega) rfl (nI_1 t) q1 hf1
          | succ r2 ih2 =>
            intro t s5 y h1 ht h5 hy q1 hf1
            subst h5; subst hy
            have hm1 := q1.at
            have hle := nI_le0 (k := T.src z p t) (by have := src_lt o (j := p) (i := t) hz; omega)
            refine a_iload 48 dX12_trees_46 rfl rfl ?_
            refine a_iload 50 dX12_trees_48 rfl rfl ?_
            refine a_icmp_ge 81 53 dX12_trees_50 rfl (by decide) (fun c_50 => absurd c_50 (nI_ge (a := t) (b := p) (by omega) (by omega))) (fun c_50 => ?_)
            refine a_iload 55 dX12_trees_53 rfl rfl ?_
            refine a_aload_n 56 dX12_trees_55 rfl rfl ?_
            refine a_iload_n 57 dX12_trees_56 rfl rfl ?_
            refine a_iload 59 dX12_trees_57 rfl rfl ?_
            refine a_iload 61 dX12_trees_59 rfl rfl ?_
            refine a_callV ok_X12_source ln_X12_250 in_X12_source rfl 64 dX12_trees_61 rfl (m_src q1 hz (by omega) (by omega)) (by repeat (first | assumption | (refine rg_ne (by first | decide | omega) ?_) | apply rg_eq | refine rg_fr (by assumption) (by first | decide | (simp; omega)) ?_)) rfl rfl rfl ⟨(Nat.le_of_ble_eq_true rfl), (Nat.le_of_ble_eq_true rfl)⟩ (Nat.le_of_ble_eq_true rfl) ⟨(Nat.le_of_ble_eq_true rfl), (Nat.le_of_ble_eq_true rfl)⟩ ?_
            rintro h2 v ⟨rfl, hc2, hf2⟩
            refine a_if_le 71 67 dX12_trees_64 rfl (by decide) (fun c_64 => ?_) (fun c_64 => ?_)
            · refine a_iconst (0) 72 dX12_trees_71 rfl (by decide) ?_
              refine a_iadd 73 dX12_trees_72 rfl ?_
              refine a_istore 75 dX12_trees_73 rfl (by decide) ?_
              refine a_iinc _ 78 dX12_trees_75 rfl rfl (by decide) rfl ?_
              refine a_goto 46 dX12_trees_78 (by decide) ?_
              exact ih2 (t + 1) _ _ _ (by omega) (by rw [sumN, hle.mp c_64]; exact Int32.add_zero _) (nI_1 t) (q1.line hc2 hf2) (fr_trans hf1 hf2 (fun _ q => q))
            · refine a_iconst (1) 68 dX12_trees_67 rfl (by decide) ?_
              refine a_goto 72 dX12_trees_68 (by decide) ?_
              refine a_iadd 73 dX12_trees_72 rfl ?_
              refine a_istore 75 dX12_trees_73 rfl (by decide) ?_
              refine a_iinc _ 78 dX12_trees_75 rfl rfl (by decide) rfl ?_
              refine a_goto 46 dX12_trees_78 (by decide) ?_
              exact ih2 (t + 1) _ _ _ (by omega) (by rw [sumN, if_pos (Nat.pos_of_ne_zero (fun e => c_64 (hle.mpr e))), ← Nat.add_assoc]; exact nI_1 _) (nI_1 t) (q1.line hc2 hf2) (fr_trans hf1 hf2 (fun _ q => q))
        refine a_iload 17 dX12_trees_15 rfl rfl ?_
        refine a_aload_n 18 dX12_trees_17 rfl rfl ?_
        refine a_get fd_X12_163 rfl 21 dX12_trees_18 rfl (by repeat (first | assumption | (refine rg_ne (by first | decide | omega) ?_) | apply rg_eq | refine rg_fr (by assumption) (by first | decide | (simp; omega)) ?_)) rfl ?_
        refine a_icmp_ge 97 24 dX12_trees_21 rfl (by decide) (fun c_21 => absurd c_21 (by rw [hny1]; exact nI_ge (a := p) (b := T.ny) (by omega) (by omega))) (fun c_21 => ?_)
        refine a_aload_n 25 dX12_trees_24 rfl rfl ?_
        refine a_iload_n 26 dX12_trees_25 rfl rfl ?_
        refine a_iload 28 dX12_trees_26 rfl rfl ?_
        refine a_bipush (-9) 30 dX12_trees_28 rfl (by decide) ?_
        refine a_callV ok_X12_source ln_X12_250 in_X12_source rfl 33 dX12_trees_30 rfl (m_own q1 hz (by omega)) (by repeat (first | assumption | (refine rg_ne (by first | decide | omega) ?_) | apply rg_eq | refine rg_fr (by assumption) (by first | decide | (simp; omega)) ?_)) rfl rfl rfl ⟨(Nat.le_of_ble_eq_true rfl), (Nat.le_of_ble_eq_true rfl)⟩ (Nat.le_of_ble_eq_true rfl) ⟨(Nat.le_of_ble_eq_true rfl), (Nat.le_of_ble_eq_true rfl)⟩ ?_
        rintro _ _ ⟨rfl, rfl⟩
        refine a_if_le 40 36 dX12_trees_33 rfl (by decide) (fun c_33 => ?_) (fun c_33 => ?_)
        · refine a_iconst (0) 41 dX12_trees_40 rfl (by decide) ?_
          refine a_istore 43 dX12_trees_41 rfl (by decide) ?_
          refine a_iconst (0) 44 dX12_trees_43 rfl (by decide) ?_
          refine a_istore 46 dX12_trees_44 rfl (by decide) ?_
          exact L2 p 0 _ _ _ (by omega) (by rw [ho.mp c_33]; rfl) rfl q1 hf1
        · refine a_iconst (1) 37 dX12_trees_36 rfl (by decide) ?_
          refine a_goto 41 dX12_trees_37 (by decide) ?_
          refine a_istore 43 dX12_trees_41 rfl (by decide) ?_
          refine a_iconst (0) 44 dX12_trees_43 rfl (by decide) ?_
          refine a_istore 46 dX12_trees_44 rfl (by decide) ?_
          exact L2 p 0 _ _ _ (by omega) (by rw [if_pos (Nat.pos_of_ne_zero (fun e => c_33 (ho.mpr e)))]; rfl) rfl q1 hf1
    refine rM_start (by decide) (Nat.le_of_ble_eq_true rfl) ?_
    refine a_aload_n 1 dX12_trees_0 rfl rfl ?_
    refine a_iload_n 2 dX12_trees_1 rfl rfl ?_
    refine a_callV ok_X12_noLaw ln_X12_218 in_X12_noLaw rfl 5 dX12_trees_2 rfl (m_noLaw q (nI z)) (by repeat (first | assumption | (refine rg_ne (by first | decide | omega) ?_) | apply rg_eq | refine rg_fr (by assumption) (by first | decide | (simp; omega)) ?_)) rfl rfl rfl ⟨(Nat.le_of_ble_eq_true rfl), (Nat.le_of_ble_eq_true rfl)⟩ (Nat.le_of_ble_eq_true rfl) ⟨(Nat.le_of_ble_eq_true rfl), (Nat.le_of_ble_eq_true rfl)⟩ ?_
    rintro _ _ ⟨rfl, rfl⟩
    refine a_if_eq 10 8 dX12_trees_5 rfl (by decide) (fun c_5 => ?_) (fun c_5 => absurd (if_pos (oT_yes hz (by omega))) c_5)
    refine a_lconst (1) 11 dX12_trees_10 rfl (by decide) ?_
    refine a_lstore_n 12 dX12_trees_11 rfl (by decide) ?_
    refine a_iconst (0) 13 dX12_trees_12 rfl (by decide) ?_
    refine a_istore 15 dX12_trees_13 rfl (by decide) ?_
    exact L T.ny 0 _ _ _ _ _ (by omega) rfl rfl q (fr_refl _ _)
set_option maxRecDepth 100000 in
set_option maxHeartbeats 400000 in
theorem m_chain (q : mAll G h T) (o : T.ok) (c : Int32) : rM l G 12 mX12_chain 0 0 [.ref (gN G + 38), .int c] h (fun h' v => v = some (.int (aChain T c)) ∧ mAll G h' T ∧ kp h h' mL) := by
  obtain ⟨i, j, q⟩ := q
  have hnl := o.nl6
  have hny := o.ny24
  have hm12 := o.m12
  have hm := q.at
  rcases oT_cases (n := T.nl) (by omega) c with ⟨e, hc⟩ | ⟨z, hz, rfl, e⟩
  · have ea : aChain T c = -1 := by unfold aChain; rw [e]
    refine rM_start (by decide) (Nat.le_of_ble_eq_true rfl) ?_
    refine a_aload_n 1 dX12_chain_0 rfl rfl ?_
    refine a_iload_n 2 dX12_chain_1 rfl rfl ?_
    refine a_callV ok_X12_noLaw ln_X12_218 in_X12_noLaw rfl 5 dX12_chain_2 rfl (m_noLaw q c) (by repeat (first | assumption | (refine rg_ne (by first | decide | omega) ?_) | apply rg_eq | refine rg_fr (by assumption) (by first | decide | (simp; omega)) ?_)) rfl rfl rfl ⟨(Nat.le_of_ble_eq_true rfl), (Nat.le_of_ble_eq_true rfl)⟩ (Nat.le_of_ble_eq_true rfl) ⟨(Nat.le_of_ble_eq_true rfl), (Nat.le_of_ble_eq_true rfl)⟩ ?_
    rintro _ _ ⟨rfl, rfl⟩
    refine a_if_eq 10 8 dX12_chain_5 rfl (by decide) (fun c_5 => absurd c_5 (by rw [if_neg hc]; decide)) (fun c_5 => ?_)
    refine a_iconst (-1) 9 dX12_chain_8 rfl (by decide) ?_
    exact a_ireturn dX12_chain_9 rfl rfl (Nat.le_of_ble_eq_true rfl) (Nat.le_of_ble_eq_true rfl) ⟨by rw [ea], ⟨i, j, q⟩, fun _ _ _ => rfl⟩
  · have ea : aChain T (nI z) = nI (lonT T z T.ny) := by unfold aChain; rw [e]
    obtain ⟨f53, hf53⟩ := q.2.2.2.2.2.1.2.2.1
    have L : ∀ (r p : Nat) (f : Nat → Int32) (s y : Int32) (o4 o5 : Option Value) (h1 : rH), p + r = T.ny → s = nI (lonT T z p) → y = nI p → mX G h1 T i j → fr h h1 [44, 53] → h1[53]? = some (.inl (gA G 0, 24, .inl f)) → (∀ k, k < p → f k = nI (chA T z p k)) → rW l G (rRm 12 0 0) mX12_chain (rZ G (fun h' v => v = some (.int (aChain T (nI z))) ∧ mAll G h' T ∧ kp h h' mL) 0 0) 0 0 14 [some (.ref (gN G + 38)), some (.int (nI z)), some (.int s), some (.int y), o4, o5] [] h1 := by
      intro r
      induction r with
      | zero =>
        intro p f s y o4 o5 h1 hp hs hy q1 hf1 hf hfx
        subst hs; subst hy
        have e : p = T.ny := by omega
        subst e
        have hm1 := q1.at
        have hny1 := q1.2.2.2.1.2.1
        refine a_iload_n 15 dX12_chain_14 rfl rfl ?_
        refine a_aload_n 16 dX12_chain_15 rfl rfl ?_
        refine a_get fd_X12_163 rfl 19 dX12_chain_16 rfl (by repeat (first | assumption | (refine rg_ne (by first | decide | omega) ?_) | apply rg_eq | refine rg_fr (by assumption) (by first | decide | (simp; omega)) ?_)) rfl ?_
        refine a_icmp_ge 136 22 dX12_chain_19 rfl (by decide) (fun c_19 => ?_) (fun c_19 => absurd (by rw [hny1]; exact Int32.le_refl _) c_19)
        refine a_iload_n 137 dX12_chain_136 rfl rfl ?_
        exact a_ireturn dX12_chain_137 rfl rfl (Nat.le_of_ble_eq_true rfl) (Nat.le_of_ble_eq_true rfl) ⟨by rw [ea], ⟨i, j, q1⟩, kp_mono (kp_fr hf1) (by decide)⟩
      | succ r ih =>
        intro p f s y o4 o5 h1 hp hs hy q1 hf1 hf hfx
        subst hs; subst hy
        have hm1 := q1.at
        have hny1 := q1.2.2.2.1.2.1
        have vp : vp_in (nI p) 24 := vp_in_nI (by omega) (by decide)
        have ep : (nI p).toNatClampNeg = p := nI_clamp (by omega)
        have hlo := lonT_le T z p
        have hcp := ahd_le (chA_le T z p) (T := T) (z := z) p p
        have L2 : ∀ (r2 t : Nat) (f : Nat → Int32) (y : Int32) (o5 : Option Value) (h1 : rH), t + r2 = p → y = nI t → mX G h1 T i j → fr h h1 [44, 53] → h1[53]? = some (.inl (gA G 0, 24, .inl f)) → (∀ k, k < p → f k = nI (chA T z p k)) → f p = nI (ahd T z (chA T z p) p t + 1) → rW l G (rRm 12 0 0) mX12_chain (rZ G (fun h' v => v = some (.int (aChain T (nI z))) ∧ mAll G h' T ∧ kp h h' mL) 0 0) 0 0 32 [some (.ref (gN G + 38)), some (.int (nI z)), some (.int (nI (lonT T z p))), some (.int (nI p)), some (.int y), o5] [] h1 := by
          intro r2
          induction r2 with
          | zero =>
            intro t f y o5 h1 ht hy q1 hf1 hf hfx hfp
            subst hy
            have e : t = p := by omega
            subst e
            have hm1 := q1.at
            have hfx2 : ∀ k, k < t + 1 → f k = nI (chA T z (t + 1) k) := by
              intro k hk
              by_cases ek : k = t
              · subst ek; rw [hfp, chA]; dsimp only; rw [if_pos rfl]
              · rw [hfx k (by omega), chA]; dsimp only; rw [if_neg ek]
            have elo : ∀ v, (v = nI (ahd T z (chA T z t) t t + 1) ∧ lonT T z t < ahd T z (chA T z t) t t + 1 ∨ v = nI (lonT T z t) ∧ ¬ lonT T z t < ahd T z (chA T z t) t t + 1) → v = nI (lonT T z (t + 1)) := by
              intro v hv
              rw [lonT]
              rcases hv with ⟨e1, e2⟩ | ⟨e1, e2⟩
              · rw [if_pos e2]; exact e1
              · rw [if_neg e2]; exact e1
            have hcmp : nI (ahd T z (chA T z t) t t + 1) ≤ nI (lonT T z t) ↔ ¬ lonT T z t < ahd T z (chA T z t) t t + 1 := by
              rw [nI_leI (by omega) (by omega)]; omega
            refine a_iload 34 dX12_chain_32 rfl rfl ?_
            refine a_iload_n 35 dX12_chain_34 rfl rfl ?_
            refine a_icmp_ge 109 38 dX12_chain_35 rfl (by decide) (fun c_35 => ?_) (fun c_35 => absurd (Int32.le_refl _) c_35)
            refine a_aload_n 110 dX12_chain_109 rfl rfl ?_
            refine a_get fd_X12_53 rfl 113 dX12_chain_110 rfl (by repeat (first | assumption | (refine rg_ne (by first | decide | omega) ?_) | apply rg_eq | refine rg_fr (by assumption) (by first | decide | (simp; omega)) ?_)) rfl ?_
            refine a_iload_n 114 dX12_chain_113 rfl rfl ?_
            refine a_iaload 115 dX12_chain_114 rfl (by repeat (first | assumption | (refine rg_ne (by first | decide | omega) ?_) | apply rg_eq | refine rg_fr (by assumption) (by first | decide | (simp; omega)) ?_)) vp ?_
            rw [ep, hfp]
            refine a_iload_n 116 dX12_chain_115 rfl rfl ?_
            refine a_icmp_le 128 119 dX12_chain_116 rfl (by decide) (fun c_116 => ?_) (fun c_116 => ?_)
            · refine a_iload_n 129 dX12_chain_128 rfl rfl ?_
              refine a_istore_n 130 dX12_chain_129 rfl (by decide) ?_
              refine a_iinc _ 133 dX12_chain_130 rfl rfl (by decide) rfl ?_
              refine a_goto 14 dX12_chain_133 (by decide) ?_
              exact ih (t + 1) f _ _ _ _ _ (by omega) (elo _ (Or.inr ⟨rfl, hcmp.mp c_116⟩)) (nI_1 t) q1 hf1 hf hfx2
            · refine a_aload_n 120 dX12_chain_119 rfl rfl ?_
              refine a_get fd_X12_53 rfl 123 dX12_chain_120 rfl (by repeat (first | assumption | (refine rg_ne (by first | decide | omega) ?_) | apply rg_eq | refine rg_fr (by assumption) (by first | decide | (simp; omega)) ?_)) rfl ?_
              refine a_iload_n 124 dX12_chain_123 rfl rfl ?_
              refine a_iaload 125 dX12_chain_124 rfl (by repeat (first | assumption | (refine rg_ne (by first | decide | omega) ?_) | apply rg_eq | refine rg_fr (by assumption) (by first | decide | (simp; omega)) ?_)) vp ?_
              rw [ep, hfp]
              refine a_goto 129 dX12_chain_125 (by decide) ?_
              refine a_istore_n 130 dX12_chain_129 rfl (by decide) ?_
              refine a_iinc _ 133 dX12_chain_130 rfl rfl (by decide) rfl ?_
              refine a_goto 14 dX12_chain_133 (by decide) ?_
              exact ih (t + 1) f _ _ _ _ _ (by omega) (elo _ (Or.inl ⟨rfl, Decidable.not_not.mp (fun v => c_116 (hcmp.mpr v))⟩)) (nI_1 t) q1 hf1 hf hfx2
          | succ r2 ih2 =>
            intro t f y o5 h1 ht hy q1 hf1 hf hfx hfp
            subst hy
            have hm1 := q1.at
            have vt : vp_in (nI t) 24 := vp_in_nI (by omega) (by decide)
            have et : (nI t).toNatClampNeg = t := nI_clamp (by omega)
            have hft := hfx t (by omega)
            have hct := chA_le T z p t
            have hat := ahd_le (chA_le T z p) (T := T) (z := z) p t
            have hle := nI_le0 (k := T.src z p t) (by have := src_lt o (j := p) (i := t) hz; omega)
            have hcmp : nI (chA T z p t) + 1 ≤ nI (ahd T z (chA T z p) p t + 1) ↔ ¬ ahd T z (chA T z p) p t < chA T z p t := by
              rw [nI_1, nI_leI (by omega) (by omega)]; omega
            have stp : ∀ v, (v = nI (chA T z p t) + 1 ∧ (ahd T z (chA T z p) p t < chA T z p t ∧ 0 < T.src z p t) ∨ v = nI (ahd T z (chA T z p) p t + 1) ∧ ¬ (ahd T z (chA T z p) p t < chA T z p t ∧ 0 < T.src z p t)) → v = nI (ahd T z (chA T z p) p (t + 1) + 1) := by
              intro v hv
              rw [ahd]
              rcases hv with ⟨e1, e2⟩ | ⟨e1, e2⟩
              · rw [if_pos e2, e1]; exact nI_1 _
              · rw [if_neg e2]; exact e1
            refine a_iload 34 dX12_chain_32 rfl rfl ?_
            refine a_iload_n 35 dX12_chain_34 rfl rfl ?_
            refine a_icmp_ge 109 38 dX12_chain_35 rfl (by decide) (fun c_35 => absurd c_35 (nI_ge (a := t) (b := p) (by omega) (by omega))) (fun c_35 => ?_)
            refine a_aload_n 39 dX12_chain_38 rfl rfl ?_
            refine a_iload_n 40 dX12_chain_39 rfl rfl ?_
            refine a_iload_n 41 dX12_chain_40 rfl rfl ?_
            refine a_iload 43 dX12_chain_41 rfl rfl ?_
            refine a_callV ok_X12_source ln_X12_250 in_X12_source rfl 46 dX12_chain_43 rfl (m_src q1 hz (by omega) (by omega)) (by repeat (first | assumption | (refine rg_ne (by first | decide | omega) ?_) | apply rg_eq | refine rg_fr (by assumption) (by first | decide | (simp; omega)) ?_)) rfl rfl rfl ⟨(Nat.le_of_ble_eq_true rfl), (Nat.le_of_ble_eq_true rfl)⟩ (Nat.le_of_ble_eq_true rfl) ⟨(Nat.le_of_ble_eq_true rfl), (Nat.le_of_ble_eq_true rfl)⟩ ?_
            rintro h2 v ⟨rfl, hc2, hf2⟩
            have q2 := q1.line hc2 hf2
            have hm2 := q2.at
            have hf53 := rg_fr hf2 (by decide) hf
            have fr2 := fr_trans hf1 hf2 (by decide)
            refine a_if_le 71 49 dX12_chain_46 rfl (by decide) (fun c_46 => ?_) (fun c_46 => ?_)
            · refine a_iconst (0) 72 dX12_chain_71 rfl (by decide) ?_
              refine a_istore 74 dX12_chain_72 rfl (by decide) ?_
              refine a_aload_n 75 dX12_chain_74 rfl rfl ?_
              refine a_get fd_X12_53 rfl 78 dX12_chain_75 rfl (by repeat (first | assumption | (refine rg_ne (by first | decide | omega) ?_) | apply rg_eq | refine rg_fr (by assumption) (by first | decide | (simp; omega)) ?_)) rfl ?_
              refine a_iload_n 79 dX12_chain_78 rfl rfl ?_
              refine a_iload 81 dX12_chain_79 rfl rfl ?_
              refine a_if_eq 96 84 dX12_chain_81 rfl (by decide) (fun c_81 => ?_) (fun c_81 => absurd rfl c_81)
              refine a_aload_n 97 dX12_chain_96 rfl rfl ?_
              refine a_get fd_X12_53 rfl 100 dX12_chain_97 rfl (by repeat (first | assumption | (refine rg_ne (by first | decide | omega) ?_) | apply rg_eq | refine rg_fr (by assumption) (by first | decide | (simp; omega)) ?_)) rfl ?_
              refine a_iload_n 101 dX12_chain_100 rfl rfl ?_
              refine a_iaload 102 dX12_chain_101 rfl (by repeat (first | assumption | (refine rg_ne (by first | decide | omega) ?_) | apply rg_eq | refine rg_fr (by assumption) (by first | decide | (simp; omega)) ?_)) vp ?_
              rw [ep, hfp]
              refine a_iastore 103 dX12_chain_102 rfl (by repeat (first | assumption | (refine rg_ne (by first | decide | omega) ?_) | apply rg_eq | refine rg_fr (by assumption) (by first | decide | (simp; omega)) ?_)) vp ?_
              refine a_iinc _ 106 dX12_chain_103 rfl rfl (by decide) rfl ?_
              refine a_goto 32 dX12_chain_106 (by decide) ?_
              exact ih2 (t + 1) _ _ _ _ (by omega) (nI_1 t) (q2.s53 (fr_set (fr_refl _ _) (by decide)) (rg_eq hf53)) (fr_set fr2 (by decide)) (rg_eq hf53) (fun k hk => by rw [ep, pk_un (by omega)]; exact hfx k hk) (by rw [ep, pk_us]; exact stp _ (Or.inr ⟨rfl, fun w => absurd w.2 (by rw [hle.mp c_46]; decide)⟩))
            · refine a_aload_n 50 dX12_chain_49 rfl rfl ?_
              refine a_get fd_X12_53 rfl 53 dX12_chain_50 rfl (by repeat (first | assumption | (refine rg_ne (by first | decide | omega) ?_) | apply rg_eq | refine rg_fr (by assumption) (by first | decide | (simp; omega)) ?_)) rfl ?_
              refine a_iload 55 dX12_chain_53 rfl rfl ?_
              refine a_iaload 56 dX12_chain_55 rfl (by repeat (first | assumption | (refine rg_ne (by first | decide | omega) ?_) | apply rg_eq | refine rg_fr (by assumption) (by first | decide | (simp; omega)) ?_)) vt ?_
              rw [et, hft]
              refine a_iconst (1) 57 dX12_chain_56 rfl (by decide) ?_
              refine a_iadd 58 dX12_chain_57 rfl ?_
              refine a_aload_n 59 dX12_chain_58 rfl rfl ?_
              refine a_get fd_X12_53 rfl 62 dX12_chain_59 rfl (by repeat (first | assumption | (refine rg_ne (by first | decide | omega) ?_) | apply rg_eq | refine rg_fr (by assumption) (by first | decide | (simp; omega)) ?_)) rfl ?_
              refine a_iload_n 63 dX12_chain_62 rfl rfl ?_
              refine a_iaload 64 dX12_chain_63 rfl (by repeat (first | assumption | (refine rg_ne (by first | decide | omega) ?_) | apply rg_eq | refine rg_fr (by assumption) (by first | decide | (simp; omega)) ?_)) vp ?_
              rw [ep, hfp]
              refine a_icmp_le 71 67 dX12_chain_64 rfl (by decide) (fun c_64 => ?_) (fun c_64 => ?_)
              · refine a_iconst (0) 72 dX12_chain_71 rfl (by decide) ?_
                refine a_istore 74 dX12_chain_72 rfl (by decide) ?_
                refine a_aload_n 75 dX12_chain_74 rfl rfl ?_
                refine a_get fd_X12_53 rfl 78 dX12_chain_75 rfl (by repeat (first | assumption | (refine rg_ne (by first | decide | omega) ?_) | apply rg_eq | refine rg_fr (by assumption) (by first | decide | (simp; omega)) ?_)) rfl ?_
                refine a_iload_n 79 dX12_chain_78 rfl rfl ?_
                refine a_iload 81 dX12_chain_79 rfl rfl ?_
                refine a_if_eq 96 84 dX12_chain_81 rfl (by decide) (fun c_81 => ?_) (fun c_81 => absurd rfl c_81)
                refine a_aload_n 97 dX12_chain_96 rfl rfl ?_
                refine a_get fd_X12_53 rfl 100 dX12_chain_97 rfl (by repeat (first | assumption | (refine rg_ne (by first | decide | omega) ?_) | apply rg_eq | refine rg_fr (by assumption) (by first | decide | (simp; omega)) ?_)) rfl ?_
                refine a_iload_n 101 dX12_chain_100 rfl rfl ?_
                refine a_iaload 102 dX12_chain_101 rfl (by repeat (first | assumption | (refine rg_ne (by first | decide | omega) ?_) | apply rg_eq | refine rg_fr (by assumption) (by first | decide | (simp; omega)) ?_)) vp ?_
                rw [ep, hfp]
                refine a_iastore 103 dX12_chain_102 rfl (by repeat (first | assumption | (refine rg_ne (by first | decide | omega) ?_) | apply rg_eq | refine rg_fr (by assumption) (by first | decide | (simp; omega)) ?_)) vp ?_
                refine a_iinc _ 106 dX12_chain_103 rfl rfl (by decide) rfl ?_
                refine a_goto 32 dX12_chain_106 (by decide) ?_
                exact ih2 (t + 1) _ _ _ _ (by omega) (nI_1 t) (q2.s53 (fr_set (fr_refl _ _) (by decide)) (rg_eq hf53)) (fr_set fr2 (by decide)) (rg_eq hf53) (fun k hk => by rw [ep, pk_un (by omega)]; exact hfx k hk) (by rw [ep, pk_us]; exact stp _ (Or.inr ⟨rfl, fun w => hcmp.mp c_64 w.1⟩))
              · refine a_iconst (1) 68 dX12_chain_67 rfl (by decide) ?_
                refine a_goto 72 dX12_chain_68 (by decide) ?_
                refine a_istore 74 dX12_chain_72 rfl (by decide) ?_
                refine a_aload_n 75 dX12_chain_74 rfl rfl ?_
                refine a_get fd_X12_53 rfl 78 dX12_chain_75 rfl (by repeat (first | assumption | (refine rg_ne (by first | decide | omega) ?_) | apply rg_eq | refine rg_fr (by assumption) (by first | decide | (simp; omega)) ?_)) rfl ?_
                refine a_iload_n 79 dX12_chain_78 rfl rfl ?_
                refine a_iload 81 dX12_chain_79 rfl rfl ?_
                refine a_if_eq 96 84 dX12_chain_81 rfl (by decide) (fun c_81 => absurd c_81 (by decide)) (fun c_81 => ?_)
                refine a_aload_n 85 dX12_chain_84 rfl rfl ?_
                refine a_get fd_X12_53 rfl 88 dX12_chain_85 rfl (by repeat (first | assumption | (refine rg_ne (by first | decide | omega) ?_) | apply rg_eq | refine rg_fr (by assumption) (by first | decide | (simp; omega)) ?_)) rfl ?_
                refine a_iload 90 dX12_chain_88 rfl rfl ?_
                refine a_iaload 91 dX12_chain_90 rfl (by repeat (first | assumption | (refine rg_ne (by first | decide | omega) ?_) | apply rg_eq | refine rg_fr (by assumption) (by first | decide | (simp; omega)) ?_)) vt ?_
                rw [et, hft]
                refine a_iconst (1) 92 dX12_chain_91 rfl (by decide) ?_
                refine a_iadd 93 dX12_chain_92 rfl ?_
                refine a_goto 102 dX12_chain_93 (by decide) ?_
                refine a_iastore 103 dX12_chain_102 rfl (by repeat (first | assumption | (refine rg_ne (by first | decide | omega) ?_) | apply rg_eq | refine rg_fr (by assumption) (by first | decide | (simp; omega)) ?_)) vp ?_
                refine a_iinc _ 106 dX12_chain_103 rfl rfl (by decide) rfl ?_
                refine a_goto 32 dX12_chain_106 (by decide) ?_
                exact ih2 (t + 1) _ _ _ _ (by omega) (nI_1 t) (q2.s53 (fr_set (fr_refl _ _) (by decide)) (rg_eq hf53)) (fr_set fr2 (by decide)) (rg_eq hf53) (fun k hk => by rw [ep, pk_un (by omega)]; exact hfx k hk) (by rw [ep, pk_us]; exact stp _ (Or.inl ⟨rfl, Decidable.not_not.mp (fun w => c_64 (hcmp.mpr w)), Nat.pos_of_ne_zero (fun e => c_46 (hle.mpr e))⟩))
        refine a_iload_n 15 dX12_chain_14 rfl rfl ?_
        refine a_aload_n 16 dX12_chain_15 rfl rfl ?_
        refine a_get fd_X12_163 rfl 19 dX12_chain_16 rfl (by repeat (first | assumption | (refine rg_ne (by first | decide | omega) ?_) | apply rg_eq | refine rg_fr (by assumption) (by first | decide | (simp; omega)) ?_)) rfl ?_
        refine a_icmp_ge 136 22 dX12_chain_19 rfl (by decide) (fun c_19 => absurd c_19 (by rw [hny1]; exact nI_ge (a := p) (b := T.ny) (by omega) (by omega))) (fun c_19 => ?_)
        refine a_aload_n 23 dX12_chain_22 rfl rfl ?_
        refine a_get fd_X12_53 rfl 26 dX12_chain_23 rfl (by repeat (first | assumption | (refine rg_ne (by first | decide | omega) ?_) | apply rg_eq | refine rg_fr (by assumption) (by first | decide | (simp; omega)) ?_)) rfl ?_
        refine a_iload_n 27 dX12_chain_26 rfl rfl ?_
        refine a_iconst (1) 28 dX12_chain_27 rfl (by decide) ?_
        refine a_iastore 29 dX12_chain_28 rfl (by repeat (first | assumption | (refine rg_ne (by first | decide | omega) ?_) | apply rg_eq | refine rg_fr (by assumption) (by first | decide | (simp; omega)) ?_)) vp ?_
        refine a_iconst (0) 30 dX12_chain_29 rfl (by decide) ?_
        refine a_istore 32 dX12_chain_30 rfl (by decide) ?_
        exact L2 p 0 _ _ _ _ (by omega) rfl (q1.s53 (fr_set (fr_refl _ _) (by decide)) (rg_eq hf)) (fr_set hf1 (by decide)) (rg_eq hf) (fun k hk => by rw [ep, pk_un (by omega)]; exact hfx k hk) (by rw [ep, pk_us]; rfl)
    refine rM_start (by decide) (Nat.le_of_ble_eq_true rfl) ?_
    refine a_aload_n 1 dX12_chain_0 rfl rfl ?_
    refine a_iload_n 2 dX12_chain_1 rfl rfl ?_
    refine a_callV ok_X12_noLaw ln_X12_218 in_X12_noLaw rfl 5 dX12_chain_2 rfl (m_noLaw q (nI z)) (by repeat (first | assumption | (refine rg_ne (by first | decide | omega) ?_) | apply rg_eq | refine rg_fr (by assumption) (by first | decide | (simp; omega)) ?_)) rfl rfl rfl ⟨(Nat.le_of_ble_eq_true rfl), (Nat.le_of_ble_eq_true rfl)⟩ (Nat.le_of_ble_eq_true rfl) ⟨(Nat.le_of_ble_eq_true rfl), (Nat.le_of_ble_eq_true rfl)⟩ ?_
    rintro _ _ ⟨rfl, rfl⟩
    refine a_if_eq 10 8 dX12_chain_5 rfl (by decide) (fun c_5 => ?_) (fun c_5 => absurd (if_pos (oT_yes hz (by omega))) c_5)
    refine a_iconst (0) 11 dX12_chain_10 rfl (by decide) ?_
    refine a_istore_n 12 dX12_chain_11 rfl (by decide) ?_
    refine a_iconst (0) 13 dX12_chain_12 rfl (by decide) ?_
    refine a_istore_n 14 dX12_chain_13 rfl (by decide) ?_
    exact L T.ny 0 f53 _ _ _ _ _ (by omega) rfl rfl q (fr_refl _ _) hf53 (fun k hk => absurd hk (by omega))
end MPUB3
