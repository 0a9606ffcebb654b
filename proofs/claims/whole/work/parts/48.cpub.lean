/-! THE CLASS: chains, the yawn missed -/
theorem lon_s {a b : Nat} (ha : a < 2 ^ 30) (hb : b < 2 ^ 30) : (if nI a < nI b + 1 then nI b + 1 else nI a) = nI (if a < b + 1 then b + 1 else a) := by
  rw [nI_1]
  by_cases e : a < b + 1
  · rw [if_pos (nI_lt e (by omega)), if_pos e]
  · rw [if_neg (nI_nlt (by omega) (by omega)), if_neg e]
theorem chA_s {T : Tn} {z j : Nat} {f : Nat → Int32} (h : ∀ k, k < j → f k = nI (chA T z j k)) : ∀ k, k < j + 1 → upd f j (nI (ahd T z (chA T z j) j j) + 1) k = nI (chA T z (j + 1) k) := by
  intro k hk
  by_cases e : k = j
  · subst e
    rw [pk_us, nI_1, chA]; dsimp only; rw [if_pos rfl]
  · rw [pk_un e, h k (by omega), chA]; dsimp only; rw [if_neg e]
section CPUB4
variable {l : Launch} {G : rG} {h : rH} {T : Tn}
set_option maxRecDepth 100000 in
set_option maxHeartbeats 400000 in
theorem c_chain (q : cAll G h T) (o : T.ok) (c : Int32) : rM l G 12 mX11_chain 0 0 [.ref (gN G + 0), .int c] h (fun h' v => v = some (.int (aChain T c)) ∧ cAll G h' T ∧ kp h h' cL) := by
  have hnl := o.nl6
  have hny := o.ny24
  have hy := q.1.1
  rcases oT_cases (n := T.nl) (by omega) c with ⟨e, hc⟩ | ⟨z, hz, rfl, e⟩
  · have ea : aChain T c = -1 := by unfold aChain; rw [e]
    refine rM_start (by decide) (Nat.le_of_ble_eq_true rfl) ?_
    refine a_aload_n 1 dX11_chain_0 rfl rfl ?_
    refine a_iload_n 2 dX11_chain_1 rfl rfl ?_
    refine a_callV ok_X11_weighedLaw ln_X11_217 in_X11_weighedLaw rfl 5 dX11_chain_2 rfl (k_X11_weighedLawN q.1 hc) (by repeat (first | assumption | (refine rg_ne (by first | decide | omega) ?_) | apply rg_eq | refine rg_fr (by assumption) (by first | decide | (simp; omega)) ?_)) rfl rfl rfl ⟨(Nat.le_of_ble_eq_true rfl), (Nat.le_of_ble_eq_true rfl)⟩ (Nat.le_of_ble_eq_true rfl) ⟨(Nat.le_of_ble_eq_true rfl), (Nat.le_of_ble_eq_true rfl)⟩ ?_
    rintro _ _ ⟨rfl, rfl⟩
    refine a_astoreN_n 6 dX11_chain_5 rfl (by decide) ?_
    refine a_aloadN_n 7 dX11_chain_6 rfl rfl ?_
    refine a_ifnonnullN 10 dX11_chain_7 rfl ?_
    refine a_iconst (-1) 11 dX11_chain_10 rfl (by decide) ?_
    exact a_ireturn dX11_chain_11 rfl rfl (Nat.le_of_ble_eq_true rfl) (Nat.le_of_ble_eq_true rfl) ⟨by rw [ea], q, fun _ _ _ => rfl⟩
  · have ea : aChain T (nI z) = nI (lonT T z T.ny) := by unfold aChain; rw [e]
    refine rM_start (by decide) (Nat.le_of_ble_eq_true rfl) ?_
    have L : ∀ (r j : Nat) (f : Nat → Int32) (h1 : rH) (s y : Int32) (o5 o6 : Option Value), j + r = T.ny → s = nI (lonT T z j) → y = nI j → wgAt G h1 T z → cAll G h1 T → kp h h1 cL → h1.length = h.length → h1[28]? = some (.inl (gA G 0, 24, .inl f)) → (∀ k, k < j → f k = nI (chA T z j k)) → rW l G (rRm 12 0 0) mX11_chain (rZ G (fun h' v => v = some (.int (aChain T (nI z))) ∧ cAll G h' T ∧ kp h h' cL) 0 0) 0 0 17 [some (.ref (gN G + 0)), some (.int (nI z)), some (.ref (gN G + T.la z)), some (.int s), some (.int y), o5, o6] [] h1 := by
      intro r
      induction r with
      | zero =>
        intro j f h1 s y o5 o6 hj hs hy2 w1 qa kk hlen hf hfx
        subst hs; subst hy2
        have hy1 := w1.1.1
        have r1 := (wg_row w1).1
        have e : j = T.ny := by omega
        subst e
        refine a_iload 19 dX11_chain_17 rfl rfl ?_
        refine a_aload_n 20 dX11_chain_19 rfl rfl ?_
        refine a_get fd_X11_53 rfl 23 dX11_chain_20 rfl (by repeat (first | assumption | (refine rg_ne (by first | decide | omega) ?_) | apply rg_eq | refine rg_fr (by assumption) (by first | decide | (simp; omega)) ?_)) rfl ?_
        refine a_get fd_X11_195 rfl 26 dX11_chain_23 rfl (by repeat (first | assumption | (refine rg_ne (by first | decide | omega) ?_) | apply rg_eq | refine rg_fr (by assumption) (by first | decide | (simp; omega)) ?_)) rfl ?_
        refine a_icmp_ge 120 29 dX11_chain_26 rfl (by decide) (fun c_26 => ?_) (fun c_26 => absurd (Int32.le_refl _) c_26)
        refine a_iload_n 121 dX11_chain_120 rfl rfl ?_
        exact a_ireturn dX11_chain_121 rfl rfl (Nat.le_of_ble_eq_true rfl) (Nat.le_of_ble_eq_true rfl) ⟨by rw [ea], qa, kk⟩
      | succ r ih =>
        intro j f h1 s y o5 o6 hj hs hy2 w1 qa kk hlen hf hfx
        subst hs; subst hy2
        have hy1 := w1.1.1
        have r1 := (wg_row w1).1
        have vj : vp_in (nI j) 24 := vp_in_nI (by omega) (by decide)
        have e0 : (nI j).toNatClampNeg = j := nI_clamp (by omega)
        have hlo := lonT_le T z j
        have L2 : ∀ (r2 i : Nat) (s y1 : Int32), i + r2 = j → s = nI (ahd T z (chA T z j) j i) → y1 = nI i → rW l G (rRm 12 0 0) mX11_chain (rZ G (fun h' v => v = some (.int (aChain T (nI z))) ∧ cAll G h' T ∧ kp h h' cL) 0 0) 0 0 45 [some (.ref (gN G + 0)), some (.int (nI z)), some (.ref (gN G + T.la z)), some (.int (nI (lonT T z j))), some (.int (nI j)), some (.int s), some (.int y1)] [] h1 := by
          intro r2
          induction r2 with
          | zero =>
            intro i s y1 hi hs hy3
            subst hs; subst hy3
            have e : i = j := by omega
            subst e
            have hah := ahd_le (chA_le T z i) (T := T) (z := z) i i
            refine a_iload 47 dX11_chain_45 rfl rfl ?_
            refine a_iload 49 dX11_chain_47 rfl rfl ?_
            refine a_icmp_ge 91 52 dX11_chain_49 rfl (by decide) (fun c_49 => ?_) (fun c_49 => absurd (Int32.le_refl _) c_49)
            refine a_aload_n 92 dX11_chain_91 rfl rfl ?_
            refine a_get fd_X11_74 rfl 95 dX11_chain_92 rfl (by repeat (first | assumption | (refine rg_ne (by first | decide | omega) ?_) | apply rg_eq | refine rg_fr (by assumption) (by first | decide | (simp; omega)) ?_)) rfl ?_
            refine a_iload 97 dX11_chain_95 rfl rfl ?_
            refine a_iload 99 dX11_chain_97 rfl rfl ?_
            refine a_iconst (1) 100 dX11_chain_99 rfl (by decide) ?_
            refine a_iadd 101 dX11_chain_100 rfl ?_
            refine a_iastore 102 dX11_chain_101 rfl (by repeat (first | assumption | (refine rg_ne (by first | decide | omega) ?_) | apply rg_eq | refine rg_fr (by assumption) (by first | decide | (simp; omega)) ?_)) vj ?_
            refine a_iload_n 103 dX11_chain_102 rfl rfl ?_
            refine a_aload_n 104 dX11_chain_103 rfl rfl ?_
            refine a_get fd_X11_74 rfl 107 dX11_chain_104 rfl (by repeat (first | assumption | (refine rg_ne (by first | decide | omega) ?_) | apply rg_eq | refine rg_fr (by assumption) (by first | decide | (simp; omega)) ?_)) rfl ?_
            refine a_iload 109 dX11_chain_107 rfl rfl ?_
            refine a_iaload 110 dX11_chain_109 rfl (by repeat (first | assumption | (refine rg_ne (by first | decide | omega) ?_) | apply rg_eq | refine rg_fr (by assumption) (by first | decide | (simp; omega)) ?_)) vj ?_
            rw [e0, pk_us]
            refine a_mmax lm_X11_257 rfl 113 dX11_chain_110 rfl (Nat.le_of_ble_eq_true rfl) (Nat.le_of_ble_eq_true rfl) ⟨(Nat.le_of_ble_eq_true rfl), (Nat.le_of_ble_eq_true rfl)⟩ ?_
            rw [lon_s (by omega) (by omega)]
            refine a_istore_n 114 dX11_chain_113 rfl (by decide) ?_
            refine a_iinc _ 117 dX11_chain_114 rfl rfl (by decide) rfl ?_
            refine a_goto 17 dX11_chain_117 (by decide) ?_
            exact ih (i + 1) _ _ _ _ _ _ (by omega) rfl (nI_1 i) (w1.kp (kp_fr (fr_set (S := [28]) (fr_refl _ _) (by decide))) (by decide) (by decide) (by decide)) (all_28 qa ⟨_, rg_eq hf⟩ (fr_set (fr_refl _ _) (by decide))) (kp_trans kk (kp_mono (kp_fr (fr_set (S := [28]) (fr_refl _ _) (by decide))) (by decide)) (by omega)) ((List.length_set).trans hlen) (rg_eq hf) (chA_s hfx)
          | succ r2 ih2 =>
            intro i s y1 hi hs hy3
            subst hs; subst hy3
            have vi : vp_in (nI i) 24 := vp_in_nI (by omega) (by decide)
            have ei : (nI i).toNatClampNeg = i := nI_clamp (by omega)
            have hc1 := chA_le T z j i
            have hah := ahd_le (chA_le T z j) (T := T) (z := z) j i
            have hfi := hfx i (by omega)
            have hle := nI_le0 (k := T.src z j i) (by have := src_lt o (j := j) (i := i) hz; omega)
            refine a_iload 47 dX11_chain_45 rfl rfl ?_
            refine a_iload 49 dX11_chain_47 rfl rfl ?_
            refine a_icmp_ge 91 52 dX11_chain_49 rfl (by decide) (fun c_49 => absurd c_49 (nI_ge (a := i) (b := j) (by omega) (by omega))) (fun c_49 => ?_)
            refine a_aload_n 53 dX11_chain_52 rfl rfl ?_
            refine a_get fd_X11_74 rfl 56 dX11_chain_53 rfl (by repeat (first | assumption | (refine rg_ne (by first | decide | omega) ?_) | apply rg_eq | refine rg_fr (by assumption) (by first | decide | (simp; omega)) ?_)) rfl ?_
            refine a_iload 58 dX11_chain_56 rfl rfl ?_
            refine a_iaload 59 dX11_chain_58 rfl (by repeat (first | assumption | (refine rg_ne (by first | decide | omega) ?_) | apply rg_eq | refine rg_fr (by assumption) (by first | decide | (simp; omega)) ?_)) vi ?_
            rw [ei, hfi]
            refine a_iload 61 dX11_chain_59 rfl rfl ?_
            refine a_icmp_le 85 64 dX11_chain_61 rfl (by decide) (fun c_61 => ?_) (fun c_61 => ?_)
            · refine a_iinc _ 88 dX11_chain_85 rfl rfl (by decide) rfl ?_
              refine a_goto 45 dX11_chain_88 (by decide) ?_
              exact ih2 (i + 1) _ _ (by omega) (by rw [ahd, if_neg (fun q => absurd c_61 (nI_ge q.1 (by omega)))]) (nI_1 i)
            · refine a_aload_n 65 dX11_chain_64 rfl rfl ?_
              refine a_aload_n 66 dX11_chain_65 rfl rfl ?_
              refine a_iload 68 dX11_chain_66 rfl rfl ?_
              refine a_iload 70 dX11_chain_68 rfl rfl ?_
              refine a_callV ok_X11_sourceMight ln_X11_220 in_X11_sourceMight rfl 73 dX11_chain_70 rfl (k_X11_sourceMight w1 o (by omega) (by omega)) (by repeat (first | assumption | (refine rg_ne (by first | decide | omega) ?_) | apply rg_eq | refine rg_fr (by assumption) (by first | decide | (simp; omega)) ?_)) rfl rfl rfl ⟨(Nat.le_of_ble_eq_true rfl), (Nat.le_of_ble_eq_true rfl)⟩ (Nat.le_of_ble_eq_true rfl) ⟨(Nat.le_of_ble_eq_true rfl), (Nat.le_of_ble_eq_true rfl)⟩ ?_
              rintro _ _ ⟨rfl, rfl⟩
              refine a_if_le 85 76 dX11_chain_73 rfl (by decide) (fun c_73 => ?_) (fun c_73 => ?_)
              · refine a_iinc _ 88 dX11_chain_85 rfl rfl (by decide) rfl ?_
                refine a_goto 45 dX11_chain_88 (by decide) ?_
                exact ih2 (i + 1) _ _ (by omega) (by rw [ahd, if_neg (fun q => absurd q.2 (by rw [hle.mp c_73]; decide))]) (nI_1 i)
              · refine a_aload_n 77 dX11_chain_76 rfl rfl ?_
                refine a_get fd_X11_74 rfl 80 dX11_chain_77 rfl (by repeat (first | assumption | (refine rg_ne (by first | decide | omega) ?_) | apply rg_eq | refine rg_fr (by assumption) (by first | decide | (simp; omega)) ?_)) rfl ?_
                refine a_iload 82 dX11_chain_80 rfl rfl ?_
                refine a_iaload 83 dX11_chain_82 rfl (by repeat (first | assumption | (refine rg_ne (by first | decide | omega) ?_) | apply rg_eq | refine rg_fr (by assumption) (by first | decide | (simp; omega)) ?_)) vi ?_
                rw [ei, hfi]
                refine a_istore 85 dX11_chain_83 rfl (by decide) ?_
                refine a_iinc _ 88 dX11_chain_85 rfl rfl (by decide) rfl ?_
                refine a_goto 45 dX11_chain_88 (by decide) ?_
                exact ih2 (i + 1) _ _ (by omega) (by rw [ahd, if_pos ⟨Nat.lt_of_not_le (fun q => c_61 (nI_le q (by omega))), Nat.pos_of_ne_zero (fun e => c_73 (hle.mpr e))⟩]) (nI_1 i)
        refine a_iload 19 dX11_chain_17 rfl rfl ?_
        refine a_aload_n 20 dX11_chain_19 rfl rfl ?_
        refine a_get fd_X11_53 rfl 23 dX11_chain_20 rfl (by repeat (first | assumption | (refine rg_ne (by first | decide | omega) ?_) | apply rg_eq | refine rg_fr (by assumption) (by first | decide | (simp; omega)) ?_)) rfl ?_
        refine a_get fd_X11_195 rfl 26 dX11_chain_23 rfl (by repeat (first | assumption | (refine rg_ne (by first | decide | omega) ?_) | apply rg_eq | refine rg_fr (by assumption) (by first | decide | (simp; omega)) ?_)) rfl ?_
        refine a_icmp_ge 120 29 dX11_chain_26 rfl (by decide) (fun c_26 => absurd c_26 (nI_ge (a := j) (b := T.ny) (by omega) (by omega))) (fun c_26 => ?_)
        refine a_iload 31 dX11_chain_29 rfl rfl ?_
        refine a_aload_n 32 dX11_chain_31 rfl rfl ?_
        refine a_get fd_X11_74 rfl 35 dX11_chain_32 rfl (by repeat (first | assumption | (refine rg_ne (by first | decide | omega) ?_) | apply rg_eq | refine rg_fr (by assumption) (by first | decide | (simp; omega)) ?_)) rfl ?_
        refine a_alen_0 36 dX11_chain_35 rfl (by repeat (first | assumption | (refine rg_ne (by first | decide | omega) ?_) | apply rg_eq | refine rg_fr (by assumption) (by first | decide | (simp; omega)) ?_)) ?_
        refine a_icmp_ge 120 39 dX11_chain_36 rfl (by decide) (fun c_36 => absurd c_36 (nI_ge (a := j) (b := 24) (by omega) (by decide))) (fun c_36 => ?_)
        refine a_iconst (0) 40 dX11_chain_39 rfl (by decide) ?_
        refine a_istore 42 dX11_chain_40 rfl (by decide) ?_
        refine a_iconst (0) 43 dX11_chain_42 rfl (by decide) ?_
        refine a_istore 45 dX11_chain_43 rfl (by decide) ?_
        exact L2 j 0 _ _ (by omega) rfl rfl
    refine a_aload_n 1 dX11_chain_0 rfl rfl ?_
    refine a_iload_n 2 dX11_chain_1 rfl rfl ?_
    refine a_callV ok_X11_weighedLaw ln_X11_217 in_X11_weighedLaw rfl 5 dX11_chain_2 rfl (k_X11_weighedLaw q.1 o q.2.1 hz) (by repeat (first | assumption | (refine rg_ne (by first | decide | omega) ?_) | apply rg_eq | refine rg_fr (by assumption) (by first | decide | (simp; omega)) ?_)) rfl rfl rfl ⟨(Nat.le_of_ble_eq_true rfl), (Nat.le_of_ble_eq_true rfl)⟩ (Nat.le_of_ble_eq_true rfl) ⟨(Nat.le_of_ble_eq_true rfl), (Nat.le_of_ble_eq_true rfl)⟩ ?_
    rintro h1 _ ⟨rfl, w1, hf1⟩
    have hy1 := w1.1.1
    have qa := wg_all q w1 hf1
    obtain ⟨f28, hf28⟩ := qa.2.1.2.2.2.1
    refine a_astore_n 6 dX11_chain_5 rfl (by decide) ?_
    refine a_aload_n 7 dX11_chain_6 rfl rfl ?_
    refine a_ifnonnull 12 dX11_chain_7 (by decide) ?_
    refine a_iconst (0) 13 dX11_chain_12 rfl (by decide) ?_
    refine a_istore_n 14 dX11_chain_13 rfl (by decide) ?_
    refine a_iconst (0) 15 dX11_chain_14 rfl (by decide) ?_
    refine a_istore 17 dX11_chain_15 rfl (by decide) ?_
    exact L T.ny 0 f28 _ _ _ _ _ (by omega) rfl rfl w1 qa (kp_mono (kp_fr hf1) (by decide)) hf1.1 hf28 (fun k hk => absurd hk (by omega))
set_option maxRecDepth 100000 in
set_option maxHeartbeats 400000 in
theorem c_missed (q : cAll G h T) (o : T.ok) (c d : Int32) : rM l G 12 mX11_missed 0 0 [.ref (gN G + 0), .int c, .int d] h (fun h' v => v = some (.int (aMissed T c d)) ∧ cAll G h' T ∧ kp h h' cL) := by
  have hnl := o.nl6
  have hny := o.ny24
  have hy := q.1.1
  rcases oT_cases (n := T.nl) (by omega) c with ⟨e, hc⟩ | ⟨z, hz, rfl, e⟩
  · have ea : aMissed T c d = -1 := by unfold aMissed; rw [e]
    refine rM_start (by decide) (Nat.le_of_ble_eq_true rfl) ?_
    refine a_aload_n 1 dX11_missed_0 rfl rfl ?_
    refine a_iload_n 2 dX11_missed_1 rfl rfl ?_
    refine a_callV ok_X11_weighedLaw ln_X11_217 in_X11_weighedLaw rfl 5 dX11_missed_2 rfl (k_X11_weighedLawN q.1 hc) (by repeat (first | assumption | (refine rg_ne (by first | decide | omega) ?_) | apply rg_eq | refine rg_fr (by assumption) (by first | decide | (simp; omega)) ?_)) rfl rfl rfl ⟨(Nat.le_of_ble_eq_true rfl), (Nat.le_of_ble_eq_true rfl)⟩ (Nat.le_of_ble_eq_true rfl) ⟨(Nat.le_of_ble_eq_true rfl), (Nat.le_of_ble_eq_true rfl)⟩ ?_
    rintro _ _ ⟨rfl, rfl⟩
    refine a_astoreN_n 6 dX11_missed_5 rfl (by decide) ?_
    refine a_aloadN_n 7 dX11_missed_6 rfl rfl ?_
    refine a_ifnonnullN 10 dX11_missed_7 rfl ?_
    refine a_iconst (-1) 11 dX11_missed_10 rfl (by decide) ?_
    exact a_ireturn dX11_missed_11 rfl rfl (Nat.le_of_ble_eq_true rfl) (Nat.le_of_ble_eq_true rfl) ⟨by rw [ea], q, fun _ _ _ => rfl⟩
  · have ea : aMissed T (nI z) d = if 0 ≤ d ∧ d ≤ 2 then (match barT T z with | some b => misV (misA T z (T.ym b)) d | none => -3) else -2 := by unfold aMissed; rw [e]; dsimp only; cases barT T z <;> rfl
    cases hb : barT T z with
    | none =>
      rw [hb] at ea
      refine rM_start (by decide) (Nat.le_of_ble_eq_true rfl) ?_
      refine a_aload_n 1 dX11_missed_0 rfl rfl ?_
      refine a_iload_n 2 dX11_missed_1 rfl rfl ?_
      refine a_callV ok_X11_weighedLaw ln_X11_217 in_X11_weighedLaw rfl 5 dX11_missed_2 rfl (k_X11_weighedLaw q.1 o q.2.1 hz) (by repeat (first | assumption | (refine rg_ne (by first | decide | omega) ?_) | apply rg_eq | refine rg_fr (by assumption) (by first | decide | (simp; omega)) ?_)) rfl rfl rfl ⟨(Nat.le_of_ble_eq_true rfl), (Nat.le_of_ble_eq_true rfl)⟩ (Nat.le_of_ble_eq_true rfl) ⟨(Nat.le_of_ble_eq_true rfl), (Nat.le_of_ble_eq_true rfl)⟩ ?_
      rintro h1 _ ⟨rfl, w1, hf1⟩
      have hy1 := w1.1.1
      have qa := wg_all q w1 hf1
      refine a_astore_n 6 dX11_missed_5 rfl (by decide) ?_
      refine a_aload_n 7 dX11_missed_6 rfl rfl ?_
      refine a_ifnonnull 12 dX11_missed_7 (by decide) ?_
      refine a_iload_n 13 dX11_missed_12 rfl rfl ?_
      refine a_if_lt 21 16 dX11_missed_13 rfl (by decide) (fun c_13 => ?_) (fun c_13 => ?_)
      · refine a_bipush (-2) 23 dX11_missed_21 rfl (by decide) ?_
        exact a_ireturn dX11_missed_23 rfl rfl (Nat.le_of_ble_eq_true rfl) (Nat.le_of_ble_eq_true rfl) ⟨by rw [ea, if_neg (fun z => (Int32.not_lt.mpr z.1) c_13)], qa, kp_mono (kp_fr hf1) (by decide)⟩
      · refine a_iload_n 17 dX11_missed_16 rfl rfl ?_
        refine a_iconst (2) 18 dX11_missed_17 rfl (by decide) ?_
        refine a_icmp_le 24 21 dX11_missed_18 rfl (by decide) (fun c_18 => ?_) (fun c_18 => ?_)
        · refine a_aload_n 25 dX11_missed_24 rfl rfl ?_
          refine a_aload_n 26 dX11_missed_25 rfl rfl ?_
          refine a_callV ok_X11_markBare ln_X11_262 in_X11_markBare rfl 29 dX11_missed_26 rfl (k_X11_markBare w1 o qa.2.1.2.2.2.2) (by repeat (first | assumption | (refine rg_ne (by first | decide | omega) ?_) | apply rg_eq | refine rg_fr (by assumption) (by first | decide | (simp; omega)) ?_)) rfl rfl rfl ⟨(Nat.le_of_ble_eq_true rfl), (Nat.le_of_ble_eq_true rfl)⟩ (Nat.le_of_ble_eq_true rfl) ⟨(Nat.le_of_ble_eq_true rfl), (Nat.le_of_ble_eq_true rfl)⟩ ?_
          rintro h2 _ ⟨rfl, hfr2, f, hf2, hfx⟩
          have qb := all_29 qa ⟨f, hf2⟩ hfr2
          have kk := kp_mono (kp_fr (fr_trans (fr_mono hf1 (T := [25, 26, 29]) (by decide)) hfr2 (by decide))) (S' := cL) (by decide)
          rw [hb]
          refine a_istore 31 dX11_missed_29 rfl (by decide) ?_
          refine a_iload 33 dX11_missed_31 rfl rfl ?_
          refine a_bipush (-9) 35 dX11_missed_33 rfl (by decide) ?_
          refine a_icmp_ne 41 38 dX11_missed_35 rfl (by decide) (fun c_35 => absurd c_35 (fun z => z rfl)) (fun c_35 => ?_)
          refine a_bipush (-3) 40 dX11_missed_38 rfl (by decide) ?_
          exact a_ireturn dX11_missed_40 rfl rfl (Nat.le_of_ble_eq_true rfl) (Nat.le_of_ble_eq_true rfl) ⟨by rw [ea, if_pos ⟨Int32.not_lt.mp c_13, c_18⟩], qb, kk⟩
        · refine a_bipush (-2) 23 dX11_missed_21 rfl (by decide) ?_
          exact a_ireturn dX11_missed_23 rfl rfl (Nat.le_of_ble_eq_true rfl) (Nat.le_of_ble_eq_true rfl) ⟨by rw [ea, if_neg (fun z => c_18 z.2)], qa, kp_mono (kp_fr hf1) (by decide)⟩
    | some b =>
      rw [hb] at ea
      have hbs := firstN_spec hb
      have hbn : b < T.ny := by omega
      refine rM_start (by decide) (Nat.le_of_ble_eq_true rfl) ?_
      refine a_aload_n 1 dX11_missed_0 rfl rfl ?_
      refine a_iload_n 2 dX11_missed_1 rfl rfl ?_
      refine a_callV ok_X11_weighedLaw ln_X11_217 in_X11_weighedLaw rfl 5 dX11_missed_2 rfl (k_X11_weighedLaw q.1 o q.2.1 hz) (by repeat (first | assumption | (refine rg_ne (by first | decide | omega) ?_) | apply rg_eq | refine rg_fr (by assumption) (by first | decide | (simp; omega)) ?_)) rfl rfl rfl ⟨(Nat.le_of_ble_eq_true rfl), (Nat.le_of_ble_eq_true rfl)⟩ (Nat.le_of_ble_eq_true rfl) ⟨(Nat.le_of_ble_eq_true rfl), (Nat.le_of_ble_eq_true rfl)⟩ ?_
      rintro h1 _ ⟨rfl, w1, hf1⟩
      have hy1 := w1.1.1
      have qa := wg_all q w1 hf1
      refine a_astore_n 6 dX11_missed_5 rfl (by decide) ?_
      refine a_aload_n 7 dX11_missed_6 rfl rfl ?_
      refine a_ifnonnull 12 dX11_missed_7 (by decide) ?_
      refine a_iload_n 13 dX11_missed_12 rfl rfl ?_
      refine a_if_lt 21 16 dX11_missed_13 rfl (by decide) (fun c_13 => ?_) (fun c_13 => ?_)
      · refine a_bipush (-2) 23 dX11_missed_21 rfl (by decide) ?_
        exact a_ireturn dX11_missed_23 rfl rfl (Nat.le_of_ble_eq_true rfl) (Nat.le_of_ble_eq_true rfl) ⟨by rw [ea, if_neg (fun z => (Int32.not_lt.mpr z.1) c_13)], qa, kp_mono (kp_fr hf1) (by decide)⟩
      · refine a_iload_n 17 dX11_missed_16 rfl rfl ?_
        refine a_iconst (2) 18 dX11_missed_17 rfl (by decide) ?_
        refine a_icmp_le 24 21 dX11_missed_18 rfl (by decide) (fun c_18 => ?_) (fun c_18 => ?_)
        · refine a_aload_n 25 dX11_missed_24 rfl rfl ?_
          refine a_aload_n 26 dX11_missed_25 rfl rfl ?_
          refine a_callV ok_X11_markBare ln_X11_262 in_X11_markBare rfl 29 dX11_missed_26 rfl (k_X11_markBare w1 o qa.2.1.2.2.2.2) (by repeat (first | assumption | (refine rg_ne (by first | decide | omega) ?_) | apply rg_eq | refine rg_fr (by assumption) (by first | decide | (simp; omega)) ?_)) rfl rfl rfl ⟨(Nat.le_of_ble_eq_true rfl), (Nat.le_of_ble_eq_true rfl)⟩ (Nat.le_of_ble_eq_true rfl) ⟨(Nat.le_of_ble_eq_true rfl), (Nat.le_of_ble_eq_true rfl)⟩ ?_
          rintro h2 _ ⟨rfl, hfr2, f, hf2, hfx⟩
          have qb := all_29 qa ⟨f, hf2⟩ hfr2
          have w2 := w1.kp (kp_fr hfr2) (by decide) (by decide) (by decide)
          have hy2 := qb.1.1
          have r2 := (wg_row w2).1
          have kk := kp_mono (kp_fr (fr_trans (fr_mono hf1 (T := [25, 26, 29]) (by decide)) hfr2 (by decide))) (S' := cL) (by decide)
          rw [hb]
          refine a_istore 31 dX11_missed_29 rfl (by decide) ?_
          refine a_iload 33 dX11_missed_31 rfl rfl ?_
          refine a_bipush (-9) 35 dX11_missed_33 rfl (by decide) ?_
          refine a_icmp_ne 41 38 dX11_missed_35 rfl (by decide) (fun c_35 => ?_) (fun c_35 => absurd c_35 (nI_ne9 (by omega)))
          refine a_aload_n 42 dX11_missed_41 rfl rfl ?_
          refine a_aload_n 43 dX11_missed_42 rfl rfl ?_
          refine a_aload_n 44 dX11_missed_43 rfl rfl ?_
          refine a_get fd_X11_53 rfl 47 dX11_missed_44 rfl (by repeat (first | assumption | (refine rg_ne (by first | decide | omega) ?_) | apply rg_eq | refine rg_fr (by assumption) (by first | decide | (simp; omega)) ?_)) rfl ?_
          refine a_iload 49 dX11_missed_47 rfl rfl ?_
          refine a_callV ok_X10_minuteOf ln_X11_211 in_X10_minuteOf rfl 52 dX11_missed_49 rfl (c_minute qb.1 o hbn) (by repeat (first | assumption | (refine rg_ne (by first | decide | omega) ?_) | apply rg_eq | refine rg_fr (by assumption) (by first | decide | (simp; omega)) ?_)) rfl rfl rfl ⟨(Nat.le_of_ble_eq_true rfl), (Nat.le_of_ble_eq_true rfl)⟩ (Nat.le_of_ble_eq_true rfl) ⟨(Nat.le_of_ble_eq_true rfl), (Nat.le_of_ble_eq_true rfl)⟩ ?_
          rintro _ _ ⟨rfl, rfl⟩
          refine a_iload_n 53 dX11_missed_52 rfl rfl ?_
          refine a_callV ok_X11_findMissed ln_X11_265 in_X11_findMissed rfl 56 dX11_missed_53 rfl (k_X11_findMissed w2 o hf2 hfx (o.ym hbn) d) (by repeat (first | assumption | (refine rg_ne (by first | decide | omega) ?_) | apply rg_eq | refine rg_fr (by assumption) (by first | decide | (simp; omega)) ?_)) rfl rfl rfl ⟨(Nat.le_of_ble_eq_true rfl), (Nat.le_of_ble_eq_true rfl)⟩ (Nat.le_of_ble_eq_true rfl) ⟨(Nat.le_of_ble_eq_true rfl), (Nat.le_of_ble_eq_true rfl)⟩ ?_
          rintro _ _ ⟨rfl, rfl⟩
          exact a_ireturn dX11_missed_56 rfl rfl (Nat.le_of_ble_eq_true rfl) (Nat.le_of_ble_eq_true rfl) ⟨by rw [ea, if_pos ⟨Int32.not_lt.mp c_13, c_18⟩], qb, kk⟩
        · refine a_bipush (-2) 23 dX11_missed_21 rfl (by decide) ?_
          exact a_ireturn dX11_missed_23 rfl rfl (Nat.le_of_ble_eq_true rfl) (Nat.le_of_ble_eq_true rfl) ⟨by rw [ea, if_neg (fun z => c_18 z.2)], qa, kp_mono (kp_fr hf1) (by decide)⟩
end CPUB4
