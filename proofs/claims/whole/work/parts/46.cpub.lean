/-! THE CLASS's calls over a law's mights, on -/
theorem mos_lt {T : Tn} {z : Nat} : ∀ {x b : Nat}, mosT T z x = some b → b < x
  | 0, _, h => by cases h
  | x + 1, b, h => by
    rw [mosT] at h
    cases hm : mosT T z x with
    | none => rw [hm] at h; cases h; omega
    | some c =>
      rw [hm] at h
      have := mos_lt hm
      dsimp only at h
      split at h <;> (cases h; omega)
theorem cnt_W {T : Tn} {g : Nat → Int32} (hg : ∀ j, j < T.ny → g j = nI (T.yw j)) {x : Nat} (hyw : ∀ j, j < T.ny → T.yw j < 2 ^ 31) (hx : x < 2 ^ 31) : cntI g (nI x) T.ny = cntW T x := by
  have : ∀ n, n ≤ T.ny → cntI g (nI x) n = sumN (fun j => if T.yw j = x then 1 else 0) n := by
    intro n
    induction n with
    | zero => intro _; rfl
    | succ n ih =>
      intro hn
      rw [cntI, sumN, ih (by omega), hg n (by omega)]
      by_cases e : T.yw n = x
      · rw [if_pos ((nI_eq (hyw n (by omega)) hx).mpr e), if_pos e]
      · rw [if_neg (fun q => e ((nI_eq (hyw n (by omega)) hx).mp q)), if_neg e]; try rfl
  exact this T.ny (Nat.le_refl _)
section CPUB2
variable {l : Launch} {G : rG} {h : rH} {T : Tn}
set_option maxRecDepth 100000 in
set_option maxHeartbeats 400000 in
theorem c_barred (q : cAll G h T) (o : T.ok) (c : Int32) : rM l G 12 mX11_barred 0 0 [.ref (gN G + 0), .int c] h (fun h' v => v = some (.int (aBarred T c)) ∧ cAll G h' T ∧ kp h h' cL) := by
  have hnl := o.nl6
  have hy := q.1.1
  rcases oT_cases (n := T.nl) (by omega) c with ⟨e, hc⟩ | ⟨z, hz, rfl, e⟩
  · have ea : aBarred T c = -1 := by unfold aBarred; rw [e]
    refine rM_start (by decide) (Nat.le_of_ble_eq_true rfl) ?_
    refine a_aload_n 1 dX11_barred_0 rfl rfl ?_
    refine a_iload_n 2 dX11_barred_1 rfl rfl ?_
    refine a_callV ok_X11_weighedLaw ln_X11_217 in_X11_weighedLaw rfl 5 dX11_barred_2 rfl (k_X11_weighedLawN q.1 hc) (by repeat (first | assumption | (refine rg_ne (by first | decide | omega) ?_) | apply rg_eq | refine rg_fr (by assumption) (by first | decide | (simp; omega)) ?_)) rfl rfl rfl ⟨(Nat.le_of_ble_eq_true rfl), (Nat.le_of_ble_eq_true rfl)⟩ (Nat.le_of_ble_eq_true rfl) ⟨(Nat.le_of_ble_eq_true rfl), (Nat.le_of_ble_eq_true rfl)⟩ ?_
    rintro _ _ ⟨rfl, rfl⟩
    refine a_astoreN_n 6 dX11_barred_5 rfl (by decide) ?_
    refine a_aloadN_n 7 dX11_barred_6 rfl rfl ?_
    refine a_ifnonnullN 10 dX11_barred_7 rfl ?_
    refine a_iconst (-1) 11 dX11_barred_10 rfl (by decide) ?_
    refine a_goto 19 dX11_barred_11 (by decide) ?_
    exact a_ireturn dX11_barred_19 rfl rfl (Nat.le_of_ble_eq_true rfl) (Nat.le_of_ble_eq_true rfl) ⟨by rw [ea], q, fun _ _ _ => rfl⟩
  · have ea : aBarred T (nI z) = noI (barT T z) := by unfold aBarred; rw [e]
    refine rM_start (by decide) (Nat.le_of_ble_eq_true rfl) ?_
    refine a_aload_n 1 dX11_barred_0 rfl rfl ?_
    refine a_iload_n 2 dX11_barred_1 rfl rfl ?_
    refine a_callV ok_X11_weighedLaw ln_X11_217 in_X11_weighedLaw rfl 5 dX11_barred_2 rfl (k_X11_weighedLaw q.1 o q.2.1 hz) (by repeat (first | assumption | (refine rg_ne (by first | decide | omega) ?_) | apply rg_eq | refine rg_fr (by assumption) (by first | decide | (simp; omega)) ?_)) rfl rfl rfl ⟨(Nat.le_of_ble_eq_true rfl), (Nat.le_of_ble_eq_true rfl)⟩ (Nat.le_of_ble_eq_true rfl) ⟨(Nat.le_of_ble_eq_true rfl), (Nat.le_of_ble_eq_true rfl)⟩ ?_
    rintro h1 _ ⟨rfl, w1, hf1⟩
    have hy1 := w1.1.1
    refine a_astore_n 6 dX11_barred_5 rfl (by decide) ?_
    refine a_aload_n 7 dX11_barred_6 rfl rfl ?_
    refine a_ifnonnull 14 dX11_barred_7 (by decide) ?_
    refine a_aload_n 15 dX11_barred_14 rfl rfl ?_
    refine a_aload_n 16 dX11_barred_15 rfl rfl ?_
    refine a_callV ok_X11_firstBare ln_X11_237 in_X11_firstBare rfl 19 dX11_barred_16 rfl (k_X11_firstBare w1 o) (by repeat (first | assumption | (refine rg_ne (by first | decide | omega) ?_) | apply rg_eq | refine rg_fr (by assumption) (by first | decide | (simp; omega)) ?_)) rfl rfl rfl ⟨(Nat.le_of_ble_eq_true rfl), (Nat.le_of_ble_eq_true rfl)⟩ (Nat.le_of_ble_eq_true rfl) ⟨(Nat.le_of_ble_eq_true rfl), (Nat.le_of_ble_eq_true rfl)⟩ ?_
    rintro _ _ ⟨rfl, rfl⟩
    exact a_ireturn dX11_barred_19 rfl rfl (Nat.le_of_ble_eq_true rfl) (Nat.le_of_ble_eq_true rfl) ⟨by rw [ea], wg_all q w1 hf1, kp_mono (kp_fr hf1) (by decide)⟩
set_option maxRecDepth 100000 in
set_option maxHeartbeats 400000 in
theorem c_spread (q : cAll G h T) (o : T.ok) (c : Int32) : rM l G 12 mX11_spread 0 0 [.ref (gN G + 0), .int c] h (fun h' v => v = some (.int (aSpread T c)) ∧ cAll G h' T ∧ kp h h' cL) := by
  have hnl := o.nl6
  have hy := q.1.1
  rcases oT_cases (n := T.nl) (by omega) c with ⟨e, hc⟩ | ⟨z, hz, rfl, e⟩
  · have ea : aSpread T c = -1 := by unfold aSpread; rw [e]
    refine rM_start (by decide) (Nat.le_of_ble_eq_true rfl) ?_
    refine a_aload_n 1 dX11_spread_0 rfl rfl ?_
    refine a_iload_n 2 dX11_spread_1 rfl rfl ?_
    refine a_callV ok_X11_weighedLaw ln_X11_217 in_X11_weighedLaw rfl 5 dX11_spread_2 rfl (k_X11_weighedLawN q.1 hc) (by repeat (first | assumption | (refine rg_ne (by first | decide | omega) ?_) | apply rg_eq | refine rg_fr (by assumption) (by first | decide | (simp; omega)) ?_)) rfl rfl rfl ⟨(Nat.le_of_ble_eq_true rfl), (Nat.le_of_ble_eq_true rfl)⟩ (Nat.le_of_ble_eq_true rfl) ⟨(Nat.le_of_ble_eq_true rfl), (Nat.le_of_ble_eq_true rfl)⟩ ?_
    rintro _ _ ⟨rfl, rfl⟩
    refine a_astoreN_n 6 dX11_spread_5 rfl (by decide) ?_
    refine a_aloadN_n 7 dX11_spread_6 rfl rfl ?_
    refine a_ifnonnullN 10 dX11_spread_7 rfl ?_
    refine a_iconst (-1) 11 dX11_spread_10 rfl (by decide) ?_
    refine a_goto 18 dX11_spread_11 (by decide) ?_
    exact a_ireturn dX11_spread_18 rfl rfl (Nat.le_of_ble_eq_true rfl) (Nat.le_of_ble_eq_true rfl) ⟨by rw [ea], q, fun _ _ _ => rfl⟩
  · have ea : aSpread T (nI z) = nI (sprT T z) := by unfold aSpread; rw [e]
    refine rM_start (by decide) (Nat.le_of_ble_eq_true rfl) ?_
    refine a_aload_n 1 dX11_spread_0 rfl rfl ?_
    refine a_iload_n 2 dX11_spread_1 rfl rfl ?_
    refine a_callV ok_X11_weighedLaw ln_X11_217 in_X11_weighedLaw rfl 5 dX11_spread_2 rfl (k_X11_weighedLaw q.1 o q.2.1 hz) (by repeat (first | assumption | (refine rg_ne (by first | decide | omega) ?_) | apply rg_eq | refine rg_fr (by assumption) (by first | decide | (simp; omega)) ?_)) rfl rfl rfl ⟨(Nat.le_of_ble_eq_true rfl), (Nat.le_of_ble_eq_true rfl)⟩ (Nat.le_of_ble_eq_true rfl) ⟨(Nat.le_of_ble_eq_true rfl), (Nat.le_of_ble_eq_true rfl)⟩ ?_
    rintro h1 _ ⟨rfl, w1, hf1⟩
    have hy1 := w1.1.1
    refine a_astore_n 6 dX11_spread_5 rfl (by decide) ?_
    refine a_aload_n 7 dX11_spread_6 rfl rfl ?_
    refine a_ifnonnull 14 dX11_spread_7 (by decide) ?_
    refine a_aload_n 15 dX11_spread_14 rfl rfl ?_
    refine a_callV ok_X11_weighedSpread ln_X11_279 in_X11_weighedSpread rfl 18 dX11_spread_15 rfl (k_X11_weighedSpread w1 o) (by repeat (first | assumption | (refine rg_ne (by first | decide | omega) ?_) | apply rg_eq | refine rg_fr (by assumption) (by first | decide | (simp; omega)) ?_)) rfl rfl rfl ⟨(Nat.le_of_ble_eq_true rfl), (Nat.le_of_ble_eq_true rfl)⟩ (Nat.le_of_ble_eq_true rfl) ⟨(Nat.le_of_ble_eq_true rfl), (Nat.le_of_ble_eq_true rfl)⟩ ?_
    rintro _ _ ⟨rfl, rfl⟩
    exact a_ireturn dX11_spread_18 rfl rfl (Nat.le_of_ble_eq_true rfl) (Nat.le_of_ble_eq_true rfl) ⟨by rw [ea], wg_all q w1 hf1, kp_mono (kp_fr hf1) (by decide)⟩
set_option maxRecDepth 100000 in
set_option maxHeartbeats 400000 in
theorem c_trees (q : cAll G h T) (o : T.ok) (c : Int32) : rM l G 12 mX11_trees 0 0 [.ref (gN G + 0), .int c] h (fun h' v => v = some (.int (aTrees T c)) ∧ cAll G h' T ∧ kp h h' cL) := by
  have hnl := o.nl6
  have hny := o.ny24
  have hy := q.1.1
  rcases oT_cases (n := T.nl) (by omega) c with ⟨e, hc⟩ | ⟨z, hz, rfl, e⟩
  · have ea : aTrees T c = -1 := by unfold aTrees; rw [e]
    refine rM_start (by decide) (Nat.le_of_ble_eq_true rfl) ?_
    refine a_aload_n 1 dX11_trees_0 rfl rfl ?_
    refine a_iload_n 2 dX11_trees_1 rfl rfl ?_
    refine a_callV ok_X11_weighedLaw ln_X11_217 in_X11_weighedLaw rfl 5 dX11_trees_2 rfl (k_X11_weighedLawN q.1 hc) (by repeat (first | assumption | (refine rg_ne (by first | decide | omega) ?_) | apply rg_eq | refine rg_fr (by assumption) (by first | decide | (simp; omega)) ?_)) rfl rfl rfl ⟨(Nat.le_of_ble_eq_true rfl), (Nat.le_of_ble_eq_true rfl)⟩ (Nat.le_of_ble_eq_true rfl) ⟨(Nat.le_of_ble_eq_true rfl), (Nat.le_of_ble_eq_true rfl)⟩ ?_
    rintro _ _ ⟨rfl, rfl⟩
    refine a_astoreN_n 6 dX11_trees_5 rfl (by decide) ?_
    refine a_aloadN_n 7 dX11_trees_6 rfl rfl ?_
    refine a_ifnonnullN 10 dX11_trees_7 rfl ?_
    refine a_iconst (-1) 11 dX11_trees_10 rfl (by decide) ?_
    exact a_ireturn dX11_trees_11 rfl rfl (Nat.le_of_ble_eq_true rfl) (Nat.le_of_ble_eq_true rfl) ⟨by rw [ea], q, fun _ _ _ => rfl⟩
  · have ea : aTrees T (nI z) = (treL T z T.ny).toInt32 := by unfold aTrees; rw [e]
    refine rM_start (by decide) (Nat.le_of_ble_eq_true rfl) ?_
    have L : ∀ (h1 : rH) (w1 : wgAt G h1 T z) (hf1 : fr h h1 [25, 26]) (r i : Nat) (s : Int64) (y : Int32), i + r = T.ny → s = treL T z i → y = nI i → rW l G (rRm 12 0 0) mX11_trees (rZ G (fun h' v => v = some (.int (aTrees T (nI z))) ∧ cAll G h' T ∧ kp h h' cL) 0 0) 0 0 17 [some (.ref (gN G + 0)), some (.int (nI z)), some (.ref (gN G + T.la z)), some (.long s), none, some (.int y)] [] h1 := by
      intro h1 w1 hf1 r
      have hy1 := w1.1.1
      have r1 := (wg_row w1).1
      induction r with
      | zero =>
        intro i s y hi hs hy2
        subst hs; subst hy2
        have e : i = T.ny := by omega
        subst e
        refine a_iload 19 dX11_trees_17 rfl rfl ?_
        refine a_aload_n 20 dX11_trees_19 rfl rfl ?_
        refine a_get fd_X11_53 rfl 23 dX11_trees_20 rfl (by repeat (first | assumption | (refine rg_ne (by first | decide | omega) ?_) | apply rg_eq | refine rg_fr (by assumption) (by first | decide | (simp; omega)) ?_)) rfl ?_
        refine a_get fd_X11_195 rfl 26 dX11_trees_23 rfl (by repeat (first | assumption | (refine rg_ne (by first | decide | omega) ?_) | apply rg_eq | refine rg_fr (by assumption) (by first | decide | (simp; omega)) ?_)) rfl ?_
        refine a_icmp_ge 50 29 dX11_trees_26 rfl (by decide) (fun c_26 => ?_) (fun c_26 => absurd (Int32.le_refl _) c_26)
        refine a_lload_n 51 dX11_trees_50 rfl rfl ?_
        refine a_l2i 52 dX11_trees_51 rfl ?_
        exact a_ireturn dX11_trees_52 rfl rfl (Nat.le_of_ble_eq_true rfl) (Nat.le_of_ble_eq_true rfl) ⟨by rw [ea], wg_all q w1 hf1, kp_mono (kp_fr hf1) (by decide)⟩
      | succ r ih =>
        intro i s y hi hs hy2
        subst hs; subst hy2
        refine a_iload 19 dX11_trees_17 rfl rfl ?_
        refine a_aload_n 20 dX11_trees_19 rfl rfl ?_
        refine a_get fd_X11_53 rfl 23 dX11_trees_20 rfl (by repeat (first | assumption | (refine rg_ne (by first | decide | omega) ?_) | apply rg_eq | refine rg_fr (by assumption) (by first | decide | (simp; omega)) ?_)) rfl ?_
        refine a_get fd_X11_195 rfl 26 dX11_trees_23 rfl (by repeat (first | assumption | (refine rg_ne (by first | decide | omega) ?_) | apply rg_eq | refine rg_fr (by assumption) (by first | decide | (simp; omega)) ?_)) rfl ?_
        refine a_icmp_ge 50 29 dX11_trees_26 rfl (by decide) (fun c_26 => absurd c_26 (nI_ge (a := i) (b := T.ny) (by omega) (by omega))) (fun c_26 => ?_)
        refine a_lload_n 30 dX11_trees_29 rfl rfl ?_
        refine a_aload_n 31 dX11_trees_30 rfl rfl ?_
        refine a_aload_n 32 dX11_trees_31 rfl rfl ?_
        refine a_iload 34 dX11_trees_32 rfl rfl ?_
        refine a_callV ok_X11_sourceCount ln_X11_241 in_X11_sourceCount rfl 37 dX11_trees_34 rfl (k_X11_sourceCount w1 o (by omega)) (by repeat (first | assumption | (refine rg_ne (by first | decide | omega) ?_) | apply rg_eq | refine rg_fr (by assumption) (by first | decide | (simp; omega)) ?_)) rfl rfl rfl ⟨(Nat.le_of_ble_eq_true rfl), (Nat.le_of_ble_eq_true rfl)⟩ (Nat.le_of_ble_eq_true rfl) ⟨(Nat.le_of_ble_eq_true rfl), (Nat.le_of_ble_eq_true rfl)⟩ ?_
        rintro _ _ ⟨rfl, rfl⟩
        refine a_i2l 38 dX11_trees_37 rfl ?_
        refine a_lmul 39 dX11_trees_38 rfl ?_
        refine a_ldc2 (1000000007) 42 dX11_trees_39 rfl lk_X11_244 ?_
        refine a_lrem 43 dX11_trees_42 rfl (by decide) ?_
        refine a_lstore_n 44 dX11_trees_43 rfl (by decide) ?_
        refine a_iinc _ 47 dX11_trees_44 rfl rfl (by decide) rfl ?_
        refine a_goto 17 dX11_trees_47 (by decide) ?_
        exact ih (i + 1) _ _ (by omega) rfl (nI_1 i)
    refine a_aload_n 1 dX11_trees_0 rfl rfl ?_
    refine a_iload_n 2 dX11_trees_1 rfl rfl ?_
    refine a_callV ok_X11_weighedLaw ln_X11_217 in_X11_weighedLaw rfl 5 dX11_trees_2 rfl (k_X11_weighedLaw q.1 o q.2.1 hz) (by repeat (first | assumption | (refine rg_ne (by first | decide | omega) ?_) | apply rg_eq | refine rg_fr (by assumption) (by first | decide | (simp; omega)) ?_)) rfl rfl rfl ⟨(Nat.le_of_ble_eq_true rfl), (Nat.le_of_ble_eq_true rfl)⟩ (Nat.le_of_ble_eq_true rfl) ⟨(Nat.le_of_ble_eq_true rfl), (Nat.le_of_ble_eq_true rfl)⟩ ?_
    rintro h1 _ ⟨rfl, w1, hf1⟩
    have hy1 := w1.1.1
    refine a_astore_n 6 dX11_trees_5 rfl (by decide) ?_
    refine a_aload_n 7 dX11_trees_6 rfl rfl ?_
    refine a_ifnonnull 12 dX11_trees_7 (by decide) ?_
    refine a_lconst (1) 13 dX11_trees_12 rfl (by decide) ?_
    refine a_lstore_n 14 dX11_trees_13 rfl (by decide) ?_
    refine a_iconst (0) 15 dX11_trees_14 rfl (by decide) ?_
    refine a_istore 17 dX11_trees_15 rfl (by decide) ?_
    exact L _ w1 hf1 T.ny 0 _ _ (by omega) rfl rfl
theorem caused_at {on lc lf mk : Int32} (hy : h[0]? = some (ytc G on lc lf mk)) {f : Nat → Int32} (hf : h[27]? = some (.inl (gA G 0, 12, .inl f))) {x : Nat} (hx : x < 12) : rM l G 0 mX11_causedBy 0 0 [.ref (gN G + 0), .int (nI x)] h (rV h (some (.int (f x)))) := by
  refine rV_of ?_ (k_X11_causedBy hy hf (nI x))
  rw [if_pos ⟨nI_pos' (by omega), nI_lt (b := 12) (by omega) (by decide)⟩, nI_clamp (by omega)]
set_option maxRecDepth 100000 in
set_option maxHeartbeats 400000 in
theorem c_causes (q : cAll G h T) (o : T.ok) (c d : Int32) : rM l G 12 mX11_causes 0 0 [.ref (gN G + 0), .int c, .int d] h (fun h' v => v = some (.int (aCauses T c d)) ∧ cAll G h' T ∧ kp h h' cL) := by
  have hnl := o.nl6
  have hm := o.m12
  have hy := q.1.1
  rcases oT_cases (n := T.nl) (by omega) c with ⟨e, hc⟩ | ⟨z, hz, rfl, e⟩
  · have ea : aCauses T c d = -1 := by unfold aCauses; rw [e]
    refine rM_start (by decide) (Nat.le_of_ble_eq_true rfl) ?_
    refine a_aload_n 1 dX11_causes_0 rfl rfl ?_
    refine a_iload_n 2 dX11_causes_1 rfl rfl ?_
    refine a_callV ok_X11_weighedLaw ln_X11_217 in_X11_weighedLaw rfl 5 dX11_causes_2 rfl (k_X11_weighedLawN q.1 hc) (by repeat (first | assumption | (refine rg_ne (by first | decide | omega) ?_) | apply rg_eq | refine rg_fr (by assumption) (by first | decide | (simp; omega)) ?_)) rfl rfl rfl ⟨(Nat.le_of_ble_eq_true rfl), (Nat.le_of_ble_eq_true rfl)⟩ (Nat.le_of_ble_eq_true rfl) ⟨(Nat.le_of_ble_eq_true rfl), (Nat.le_of_ble_eq_true rfl)⟩ ?_
    rintro _ _ ⟨rfl, rfl⟩
    refine a_astoreN_n 6 dX11_causes_5 rfl (by decide) ?_
    refine a_aloadN_n 7 dX11_causes_6 rfl rfl ?_
    refine a_ifnullN 18 dX11_causes_7 (by decide) ?_
    refine a_iconst (-1) 19 dX11_causes_18 rfl (by decide) ?_
    exact a_ireturn dX11_causes_19 rfl rfl (Nat.le_of_ble_eq_true rfl) (Nat.le_of_ble_eq_true rfl) ⟨by rw [ea], q, fun _ _ _ => rfl⟩
  · rcases oT_cases (n := T.m) (by omega) d with ⟨e2, hd⟩ | ⟨x, hx, rfl, e2⟩
    · have ea : aCauses T (nI z) d = -1 := by unfold aCauses; rw [e, e2]
      refine rM_start (by decide) (Nat.le_of_ble_eq_true rfl) ?_
      refine a_aload_n 1 dX11_causes_0 rfl rfl ?_
      refine a_iload_n 2 dX11_causes_1 rfl rfl ?_
      refine a_callV ok_X11_weighedLaw ln_X11_217 in_X11_weighedLaw rfl 5 dX11_causes_2 rfl (k_X11_weighedLaw q.1 o q.2.1 hz) (by repeat (first | assumption | (refine rg_ne (by first | decide | omega) ?_) | apply rg_eq | refine rg_fr (by assumption) (by first | decide | (simp; omega)) ?_)) rfl rfl rfl ⟨(Nat.le_of_ble_eq_true rfl), (Nat.le_of_ble_eq_true rfl)⟩ (Nat.le_of_ble_eq_true rfl) ⟨(Nat.le_of_ble_eq_true rfl), (Nat.le_of_ble_eq_true rfl)⟩ ?_
      rintro h1 _ ⟨rfl, w1, hf1⟩
      have hy1 := w1.1.1
      have qa := wg_all q w1 hf1
      refine a_astore_n 6 dX11_causes_5 rfl (by decide) ?_
      refine a_aload_n 7 dX11_causes_6 rfl rfl ?_
      refine a_ifnull 10 dX11_causes_7 rfl ?_
      refine a_aload_n 11 dX11_causes_10 rfl rfl ?_
      refine a_iload_n 12 dX11_causes_11 rfl rfl ?_
      refine a_callV ok_X11_personAt ln_X11_152 in_X11_personAt rfl 15 dX11_causes_12 rfl (c_personN w1.1 hd) (by repeat (first | assumption | (refine rg_ne (by first | decide | omega) ?_) | apply rg_eq | refine rg_fr (by assumption) (by first | decide | (simp; omega)) ?_)) rfl rfl rfl ⟨(Nat.le_of_ble_eq_true rfl), (Nat.le_of_ble_eq_true rfl)⟩ (Nat.le_of_ble_eq_true rfl) ⟨(Nat.le_of_ble_eq_true rfl), (Nat.le_of_ble_eq_true rfl)⟩ ?_
      rintro _ _ ⟨rfl, rfl⟩
      refine a_ifnonnullN 18 dX11_causes_15 rfl ?_
      refine a_iconst (-1) 19 dX11_causes_18 rfl (by decide) ?_
      exact a_ireturn dX11_causes_19 rfl rfl (Nat.le_of_ble_eq_true rfl) (Nat.le_of_ble_eq_true rfl) ⟨by rw [ea], qa, kp_mono (kp_fr hf1) (by decide)⟩
    · have ea : aCauses T (nI z) (nI x) = if barT T z = none then nI (cauT T z x) else -3 := by unfold aCauses; rw [e, e2]
      refine rM_start (by decide) (Nat.le_of_ble_eq_true rfl) ?_
      refine a_aload_n 1 dX11_causes_0 rfl rfl ?_
      refine a_iload_n 2 dX11_causes_1 rfl rfl ?_
      refine a_callV ok_X11_weighedLaw ln_X11_217 in_X11_weighedLaw rfl 5 dX11_causes_2 rfl (k_X11_weighedLaw q.1 o q.2.1 hz) (by repeat (first | assumption | (refine rg_ne (by first | decide | omega) ?_) | apply rg_eq | refine rg_fr (by assumption) (by first | decide | (simp; omega)) ?_)) rfl rfl rfl ⟨(Nat.le_of_ble_eq_true rfl), (Nat.le_of_ble_eq_true rfl)⟩ (Nat.le_of_ble_eq_true rfl) ⟨(Nat.le_of_ble_eq_true rfl), (Nat.le_of_ble_eq_true rfl)⟩ ?_
      rintro h1 _ ⟨rfl, w1, hf1⟩
      have hy1 := w1.1.1
      have qa := wg_all q w1 hf1
      refine a_astore_n 6 dX11_causes_5 rfl (by decide) ?_
      refine a_aload_n 7 dX11_causes_6 rfl rfl ?_
      refine a_ifnull 10 dX11_causes_7 rfl ?_
      refine a_aload_n 11 dX11_causes_10 rfl rfl ?_
      refine a_iload_n 12 dX11_causes_11 rfl rfl ?_
      refine a_callV ok_X11_personAt ln_X11_152 in_X11_personAt rfl 15 dX11_causes_12 rfl (c_person w1.1 o hx) (by repeat (first | assumption | (refine rg_ne (by first | decide | omega) ?_) | apply rg_eq | refine rg_fr (by assumption) (by first | decide | (simp; omega)) ?_)) rfl rfl rfl ⟨(Nat.le_of_ble_eq_true rfl), (Nat.le_of_ble_eq_true rfl)⟩ (Nat.le_of_ble_eq_true rfl) ⟨(Nat.le_of_ble_eq_true rfl), (Nat.le_of_ble_eq_true rfl)⟩ ?_
      rintro _ _ ⟨rfl, rfl⟩
      refine a_ifnonnull 20 dX11_causes_15 (by decide) ?_
      refine a_aload_n 21 dX11_causes_20 rfl rfl ?_
      refine a_aload_n 22 dX11_causes_21 rfl rfl ?_
      refine a_callV ok_X11_sumCauses ln_X11_246 in_X11_sumCauses rfl 25 dX11_causes_22 rfl (k_X11_sumCauses w1 o qa.2.1.2.2.1) (by repeat (first | assumption | (refine rg_ne (by first | decide | omega) ?_) | apply rg_eq | refine rg_fr (by assumption) (by first | decide | (simp; omega)) ?_)) rfl rfl rfl ⟨(Nat.le_of_ble_eq_true rfl), (Nat.le_of_ble_eq_true rfl)⟩ (Nat.le_of_ble_eq_true rfl) ⟨(Nat.le_of_ble_eq_true rfl), (Nat.le_of_ble_eq_true rfl)⟩ ?_
      rintro h2 _ ⟨rfl, hfr2, f, hf2, hfx⟩
      have qb := all_27 qa ⟨f, hf2⟩ hfr2
      have hy2 := qb.1.1
      have kk := kp_mono (kp_fr (fr_trans (fr_mono hf1 (T := [25, 26, 27]) (by decide)) hfr2 (by decide))) (S' := cL) (by decide)
      refine a_if_eq 36 28 dX11_causes_25 rfl (by decide) (fun c_25 => ?_) (fun c_25 => ?_)
      · refine a_bipush (-3) 38 dX11_causes_36 rfl (by decide) ?_
        exact a_ireturn dX11_causes_38 rfl rfl (Nat.le_of_ble_eq_true rfl) (Nat.le_of_ble_eq_true rfl) ⟨by rw [ea, if_neg (b_eq0.mp c_25)], qb, kk⟩
      · refine a_aload_n 29 dX11_causes_28 rfl rfl ?_
        refine a_iload_n 30 dX11_causes_29 rfl rfl ?_
        refine a_callV ok_X11_causedBy ln_X11_250 in_X11_causedBy rfl 33 dX11_causes_30 rfl (caused_at (by exact qb.1.1) hf2 (by omega)) (by repeat (first | assumption | (refine rg_ne (by first | decide | omega) ?_) | apply rg_eq | refine rg_fr (by assumption) (by first | decide | (simp; omega)) ?_)) rfl rfl rfl ⟨(Nat.le_of_ble_eq_true rfl), (Nat.le_of_ble_eq_true rfl)⟩ (Nat.le_of_ble_eq_true rfl) ⟨(Nat.le_of_ble_eq_true rfl), (Nat.le_of_ble_eq_true rfl)⟩ ?_
        rintro _ _ ⟨rfl, rfl⟩
        refine a_goto 38 dX11_causes_33 (by decide) ?_
        exact a_ireturn dX11_causes_38 rfl rfl (Nat.le_of_ble_eq_true rfl) (Nat.le_of_ble_eq_true rfl) ⟨by rw [ea, if_pos (Decidable.not_not.mp (fun q => c_25 (if_neg q))), hfx (Decidable.not_not.mp (fun q => c_25 (if_neg q))) x hx], qb, kk⟩
set_option maxRecDepth 100000 in
set_option maxHeartbeats 400000 in
theorem c_most (q : cAll G h T) (o : T.ok) (c : Int32) : rM l G 12 mX11_most 0 0 [.ref (gN G + 0), .int c] h (fun h' v => v = some (.int (aMost T c)) ∧ cAll G h' T ∧ kp h h' cL) := by
  have hnl := o.nl6
  have hm := o.m12
  have hy := q.1.1
  rcases oT_cases (n := T.nl) (by omega) c with ⟨e, hc⟩ | ⟨z, hz, rfl, e⟩
  · have ea : aMost T c = -1 := by unfold aMost; rw [e]
    refine rM_start (by decide) (Nat.le_of_ble_eq_true rfl) ?_
    refine a_aload_n 1 dX11_most_0 rfl rfl ?_
    refine a_iload_n 2 dX11_most_1 rfl rfl ?_
    refine a_callV ok_X11_weighedLaw ln_X11_217 in_X11_weighedLaw rfl 5 dX11_most_2 rfl (k_X11_weighedLawN q.1 hc) (by repeat (first | assumption | (refine rg_ne (by first | decide | omega) ?_) | apply rg_eq | refine rg_fr (by assumption) (by first | decide | (simp; omega)) ?_)) rfl rfl rfl ⟨(Nat.le_of_ble_eq_true rfl), (Nat.le_of_ble_eq_true rfl)⟩ (Nat.le_of_ble_eq_true rfl) ⟨(Nat.le_of_ble_eq_true rfl), (Nat.le_of_ble_eq_true rfl)⟩ ?_
    rintro _ _ ⟨rfl, rfl⟩
    refine a_astoreN_n 6 dX11_most_5 rfl (by decide) ?_
    refine a_aloadN_n 7 dX11_most_6 rfl rfl ?_
    refine a_ifnonnullN 10 dX11_most_7 rfl ?_
    refine a_iconst (-1) 11 dX11_most_10 rfl (by decide) ?_
    exact a_ireturn dX11_most_11 rfl rfl (Nat.le_of_ble_eq_true rfl) (Nat.le_of_ble_eq_true rfl) ⟨by rw [ea], q, fun _ _ _ => rfl⟩
  · have ea : aMost T (nI z) = if barT T z = none then noI (mosT T z T.m) else -3 := by unfold aMost; rw [e]
    refine rM_start (by decide) (Nat.le_of_ble_eq_true rfl) ?_
    have L : ∀ (h2 : rH) (qb : cAll G h2 T) (kk : kp h h2 cL) (f : Nat → Int32) (hf2 : h2[27]? = some (.inl (gA G 0, 12, .inl f))) (hb : barT T z = none) (hfx : ∀ x, x < T.m → f x = nI (cauT T z x)) (r x : Nat) (s y : Int32), x + r = T.m → s = noI (mosT T z x) → y = nI x → rW l G (rRm 12 0 0) mX11_most (rZ G (fun h' v => v = some (.int (aMost T (nI z))) ∧ cAll G h' T ∧ kp h h' cL) 0 0) 0 0 29 [some (.ref (gN G + 0)), some (.int (nI z)), some (.ref (gN G + T.la z)), some (.int s), some (.int y)] [] h2 := by
      intro h2 qb kk f hf2 hb hfx r
      have hy2 := qb.1.1
      have hbs := fun j (hj : j < T.ny) => Nat.pos_of_ne_zero (of_decide_eq_false (firstN_no hb j (Nat.zero_le _) (by omega)))
      have hlt := fun x => cauT_lt o (z := z) (x := x) hbs
      induction r with
      | zero =>
        intro i s y hi hs hy3
        subst hs; subst hy3
        have e : i = T.m := by omega
        subst e
        refine a_iload 31 dX11_most_29 rfl rfl ?_
        refine a_aload_n 32 dX11_most_31 rfl rfl ?_
        refine a_get fd_X11_98 rfl 35 dX11_most_32 rfl (by repeat (first | assumption | (refine rg_ne (by first | decide | omega) ?_) | apply rg_eq | refine rg_fr (by assumption) (by first | decide | (simp; omega)) ?_)) rfl ?_
        refine a_icmp_ge 67 38 dX11_most_35 rfl (by decide) (fun c_35 => ?_) (fun c_35 => absurd (Int32.le_refl _) c_35)
        refine a_iload_n 68 dX11_most_67 rfl rfl ?_
        exact a_ireturn dX11_most_68 rfl rfl (Nat.le_of_ble_eq_true rfl) (Nat.le_of_ble_eq_true rfl) ⟨by rw [ea, if_pos hb], qb, kk⟩
      | succ r ih =>
        intro x s y hi hs hy3
        subst hs; subst hy3
        cases hmo : mosT T z x with
        | none =>
          refine a_iload 31 dX11_most_29 rfl rfl ?_
          refine a_aload_n 32 dX11_most_31 rfl rfl ?_
          refine a_get fd_X11_98 rfl 35 dX11_most_32 rfl (by repeat (first | assumption | (refine rg_ne (by first | decide | omega) ?_) | apply rg_eq | refine rg_fr (by assumption) (by first | decide | (simp; omega)) ?_)) rfl ?_
          refine a_icmp_ge 67 38 dX11_most_35 rfl (by decide) (fun c_35 => absurd c_35 (nI_ge (a := x) (b := T.m) (by omega) (by omega))) (fun c_35 => ?_)
          refine a_iload_n 39 dX11_most_38 rfl rfl ?_
          refine a_bipush (-9) 41 dX11_most_39 rfl (by decide) ?_
          refine a_icmp_eq 58 44 dX11_most_41 rfl (by decide) (fun c_41 => ?_) (fun c_41 => absurd rfl c_41)
          refine a_iload 60 dX11_most_58 rfl rfl ?_
          refine a_istore_n 61 dX11_most_60 rfl (by decide) ?_
          refine a_iinc _ 64 dX11_most_61 rfl rfl (by decide) rfl ?_
          refine a_goto 29 dX11_most_64 (by decide) ?_
          exact ih (x + 1) _ _ (by omega) (by rw [mosT, hmo]) (nI_1 x)
        | some b =>
          have hbx : b < x := mos_lt hmo
          have e1 := hfx x (by omega)
          have e2 := hfx b (by omega)
          refine a_iload 31 dX11_most_29 rfl rfl ?_
          refine a_aload_n 32 dX11_most_31 rfl rfl ?_
          refine a_get fd_X11_98 rfl 35 dX11_most_32 rfl (by repeat (first | assumption | (refine rg_ne (by first | decide | omega) ?_) | apply rg_eq | refine rg_fr (by assumption) (by first | decide | (simp; omega)) ?_)) rfl ?_
          refine a_icmp_ge 67 38 dX11_most_35 rfl (by decide) (fun c_35 => absurd c_35 (nI_ge (a := x) (b := T.m) (by omega) (by omega))) (fun c_35 => ?_)
          refine a_iload_n 39 dX11_most_38 rfl rfl ?_
          refine a_bipush (-9) 41 dX11_most_39 rfl (by decide) ?_
          refine a_icmp_eq 58 44 dX11_most_41 rfl (by decide) (fun c_41 => absurd c_41 (nI_ne9 (by omega))) (fun c_41 => ?_)
          refine a_aload_n 45 dX11_most_44 rfl rfl ?_
          refine a_iload 47 dX11_most_45 rfl rfl ?_
          refine a_callV ok_X11_causedBy ln_X11_250 in_X11_causedBy rfl 50 dX11_most_47 rfl (caused_at hy2 hf2 (by omega)) (by repeat (first | assumption | (refine rg_ne (by first | decide | omega) ?_) | apply rg_eq | refine rg_fr (by assumption) (by first | decide | (simp; omega)) ?_)) rfl rfl rfl ⟨(Nat.le_of_ble_eq_true rfl), (Nat.le_of_ble_eq_true rfl)⟩ (Nat.le_of_ble_eq_true rfl) ⟨(Nat.le_of_ble_eq_true rfl), (Nat.le_of_ble_eq_true rfl)⟩ ?_
          rintro _ _ ⟨rfl, rfl⟩
          refine a_aload_n 51 dX11_most_50 rfl rfl ?_
          refine a_iload_n 52 dX11_most_51 rfl rfl ?_
          refine a_callV ok_X11_causedBy ln_X11_250 in_X11_causedBy rfl 55 dX11_most_52 rfl (caused_at hy2 hf2 (by omega)) (by repeat (first | assumption | (refine rg_ne (by first | decide | omega) ?_) | apply rg_eq | refine rg_fr (by assumption) (by first | decide | (simp; omega)) ?_)) rfl rfl rfl ⟨(Nat.le_of_ble_eq_true rfl), (Nat.le_of_ble_eq_true rfl)⟩ (Nat.le_of_ble_eq_true rfl) ⟨(Nat.le_of_ble_eq_true rfl), (Nat.le_of_ble_eq_true rfl)⟩ ?_
          rintro _ _ ⟨rfl, rfl⟩
          refine a_icmp_le 61 58 dX11_most_55 rfl (by decide) (fun c_55 => ?_) (fun c_55 => ?_)
          · refine a_iinc _ 64 dX11_most_61 rfl rfl (by decide) rfl ?_
            refine a_goto 29 dX11_most_64 (by decide) ?_
            exact ih (x + 1) _ _ (by omega) (by rw [mosT, hmo]; show _ = noI (if _ then _ else _); rw [if_neg (fun q => absurd c_55 (by rw [e1, e2]; exact nI_ge q (by have := hlt x; omega)))]) (nI_1 x)
          · refine a_iload 60 dX11_most_58 rfl rfl ?_
            refine a_istore_n 61 dX11_most_60 rfl (by decide) ?_
            refine a_iinc _ 64 dX11_most_61 rfl rfl (by decide) rfl ?_
            refine a_goto 29 dX11_most_64 (by decide) ?_
            exact ih (x + 1) _ _ (by omega) (by rw [mosT, hmo]; show _ = noI (if _ then _ else _); rw [if_pos (by rw [e1, e2] at c_55; exact Nat.lt_of_not_le (fun q => c_55 (nI_le q (by have := hlt b; omega))))]) (nI_1 x)
    refine a_aload_n 1 dX11_most_0 rfl rfl ?_
    refine a_iload_n 2 dX11_most_1 rfl rfl ?_
    refine a_callV ok_X11_weighedLaw ln_X11_217 in_X11_weighedLaw rfl 5 dX11_most_2 rfl (k_X11_weighedLaw q.1 o q.2.1 hz) (by repeat (first | assumption | (refine rg_ne (by first | decide | omega) ?_) | apply rg_eq | refine rg_fr (by assumption) (by first | decide | (simp; omega)) ?_)) rfl rfl rfl ⟨(Nat.le_of_ble_eq_true rfl), (Nat.le_of_ble_eq_true rfl)⟩ (Nat.le_of_ble_eq_true rfl) ⟨(Nat.le_of_ble_eq_true rfl), (Nat.le_of_ble_eq_true rfl)⟩ ?_
    rintro h1 _ ⟨rfl, w1, hf1⟩
    have hy1 := w1.1.1
    have qa := wg_all q w1 hf1
    refine a_astore_n 6 dX11_most_5 rfl (by decide) ?_
    refine a_aload_n 7 dX11_most_6 rfl rfl ?_
    refine a_ifnonnull 12 dX11_most_7 (by decide) ?_
    refine a_aload_n 13 dX11_most_12 rfl rfl ?_
    refine a_aload_n 14 dX11_most_13 rfl rfl ?_
    refine a_callV ok_X11_sumCauses ln_X11_246 in_X11_sumCauses rfl 17 dX11_most_14 rfl (k_X11_sumCauses w1 o qa.2.1.2.2.1) (by repeat (first | assumption | (refine rg_ne (by first | decide | omega) ?_) | apply rg_eq | refine rg_fr (by assumption) (by first | decide | (simp; omega)) ?_)) rfl rfl rfl ⟨(Nat.le_of_ble_eq_true rfl), (Nat.le_of_ble_eq_true rfl)⟩ (Nat.le_of_ble_eq_true rfl) ⟨(Nat.le_of_ble_eq_true rfl), (Nat.le_of_ble_eq_true rfl)⟩ ?_
    rintro h2 _ ⟨rfl, hfr2, f, hf2, hfx⟩
    have qb := all_27 qa ⟨f, hf2⟩ hfr2
    have kk := kp_mono (kp_fr (fr_trans (fr_mono hf1 (T := [25, 26, 27]) (by decide)) hfr2 (by decide))) (S' := cL) (by decide)
    refine a_if_ne 23 20 dX11_most_17 rfl (by decide) (fun c_17 => ?_) (fun c_17 => ?_)
    · refine a_bipush (-9) 25 dX11_most_23 rfl (by decide) ?_
      refine a_istore_n 26 dX11_most_25 rfl (by decide) ?_
      refine a_iconst (0) 27 dX11_most_26 rfl (by decide) ?_
      refine a_istore 29 dX11_most_27 rfl (by decide) ?_
      exact L _ qb kk f hf2 (Decidable.not_not.mp (fun q => c_17 (if_neg q))) (hfx (Decidable.not_not.mp (fun q => c_17 (if_neg q)))) T.m 0 _ _ (by omega) rfl rfl
    · refine a_bipush (-3) 22 dX11_most_20 rfl (by decide) ?_
      exact a_ireturn dX11_most_22 rfl rfl (Nat.le_of_ble_eq_true rfl) (Nat.le_of_ble_eq_true rfl) ⟨by rw [ea, if_neg (b_eq0.mp c_17)], qb, kk⟩
set_option maxRecDepth 100000 in
set_option maxHeartbeats 400000 in
theorem c_goesOn (q : cAll G h T) (o : T.ok) (c : Int32) : rM l G 12 mX11_goesOn 0 0 [.ref (gN G + 0), .int c] h (fun h' v => v = some (.int (aGoes T c)) ∧ cAll G h' T ∧ kp h h' cL) := by
  have hnl := o.nl6
  have hny := o.ny24
  have hm := o.m12
  have hy := q.1.1
  rcases oT_cases (n := T.nl) (by omega) c with ⟨e, hc⟩ | ⟨z, hz, rfl, e⟩
  · have ea : aGoes T c = -1 := by unfold aGoes; rw [e]
    refine rM_start (by decide) (Nat.le_of_ble_eq_true rfl) ?_
    refine a_aload_n 1 dX11_goesOn_0 rfl rfl ?_
    refine a_iload_n 2 dX11_goesOn_1 rfl rfl ?_
    refine a_callV ok_X11_weighedLaw ln_X11_217 in_X11_weighedLaw rfl 5 dX11_goesOn_2 rfl (k_X11_weighedLawN q.1 hc) (by repeat (first | assumption | (refine rg_ne (by first | decide | omega) ?_) | apply rg_eq | refine rg_fr (by assumption) (by first | decide | (simp; omega)) ?_)) rfl rfl rfl ⟨(Nat.le_of_ble_eq_true rfl), (Nat.le_of_ble_eq_true rfl)⟩ (Nat.le_of_ble_eq_true rfl) ⟨(Nat.le_of_ble_eq_true rfl), (Nat.le_of_ble_eq_true rfl)⟩ ?_
    rintro _ _ ⟨rfl, rfl⟩
    refine a_astoreN_n 6 dX11_goesOn_5 rfl (by decide) ?_
    refine a_aloadN_n 7 dX11_goesOn_6 rfl rfl ?_
    refine a_ifnonnullN 10 dX11_goesOn_7 rfl ?_
    refine a_iconst (-1) 11 dX11_goesOn_10 rfl (by decide) ?_
    exact a_ireturn dX11_goesOn_11 rfl rfl (Nat.le_of_ble_eq_true rfl) (Nat.le_of_ble_eq_true rfl) ⟨by rw [ea], q, fun _ _ _ => rfl⟩
  · have ea : aGoes T (nI z) = if barT T z = none then (if andN (fun x => decide (cauT T z x ≤ 1000000 * cntW T x)) T.m then 0 else 1) else -3 := by unfold aGoes; rw [e]
    refine rM_start (by decide) (Nat.le_of_ble_eq_true rfl) ?_
    have L : ∀ (h2 : rH) (qb : cAll G h2 T) (kk : kp h h2 cL) (f : Nat → Int32) (hf2 : h2[27]? = some (.inl (gA G 0, 12, .inl f))) (hb : barT T z = none) (hfx : ∀ x, x < T.m → f x = nI (cauT T z x)) (r x : Nat) (y : Int32), x + r = T.m → andN (fun x => decide (cauT T z x ≤ 1000000 * cntW T x)) x = true → y = nI x → rW l G (rRm 12 0 0) mX11_goesOn (rZ G (fun h' v => v = some (.int (aGoes T (nI z))) ∧ cAll G h' T ∧ kp h h' cL) 0 0) 0 0 25 [some (.ref (gN G + 0)), some (.int (nI z)), some (.ref (gN G + T.la z)), some (.int y)] [] h2 := by
      intro h2 qb kk f hf2 hb hfx r
      have hy2 := qb.1.1
      obtain ⟨r1, -, g, r4, r5⟩ := qb.1.2.2.2.2.2.2.1
      have hbs := fun j (hj : j < T.ny) => Nat.pos_of_ne_zero (of_decide_eq_false (firstN_no hb j (Nat.zero_le _) (by omega)))
      have hlt := fun x => cauT_lt o (z := z) (x := x) hbs
      induction r with
      | zero =>
        intro x y hi hs hy3
        subst hy3
        have e : x = T.m := by omega
        subst e
        refine a_iload_n 26 dX11_goesOn_25 rfl rfl ?_
        refine a_aload_n 27 dX11_goesOn_26 rfl rfl ?_
        refine a_get fd_X11_98 rfl 30 dX11_goesOn_27 rfl (by repeat (first | assumption | (refine rg_ne (by first | decide | omega) ?_) | apply rg_eq | refine rg_fr (by assumption) (by first | decide | (simp; omega)) ?_)) rfl ?_
        refine a_icmp_ge 60 33 dX11_goesOn_30 rfl (by decide) (fun c_30 => ?_) (fun c_30 => absurd (Int32.le_refl _) c_30)
        refine a_iconst (0) 61 dX11_goesOn_60 rfl (by decide) ?_
        exact a_ireturn dX11_goesOn_61 rfl rfl (Nat.le_of_ble_eq_true rfl) (Nat.le_of_ble_eq_true rfl) ⟨by rw [ea, if_pos hb, if_pos hs], qb, kk⟩
      | succ r ih =>
        intro x y hi hs hy3
        subst hy3
        have e1 := hfx x (by omega)
        have ec := cnt_W (T := T) (g := g) (fun j hj => r5 j hj) (x := x) (fun j hj => by have := o.yw hj; omega) (by omega)
        have hc24 : cntW T x ≤ T.ny * 1 := sumN_le T.ny (fun j _ => by split <;> omega)
        have em : (1000000 : Int32) * nI (cntI g (nI x) T.ny) = nI (1000000 * cntW T x) := by rw [ec, show (1000000 : Int32) = nI 1000000 from rfl, pk_mul]
        refine a_iload_n 26 dX11_goesOn_25 rfl rfl ?_
        refine a_aload_n 27 dX11_goesOn_26 rfl rfl ?_
        refine a_get fd_X11_98 rfl 30 dX11_goesOn_27 rfl (by repeat (first | assumption | (refine rg_ne (by first | decide | omega) ?_) | apply rg_eq | refine rg_fr (by assumption) (by first | decide | (simp; omega)) ?_)) rfl ?_
        refine a_icmp_ge 60 33 dX11_goesOn_30 rfl (by decide) (fun c_30 => absurd c_30 (nI_ge (a := x) (b := T.m) (by omega) (by omega))) (fun c_30 => ?_)
        refine a_aload_n 34 dX11_goesOn_33 rfl rfl ?_
        refine a_iload_n 35 dX11_goesOn_34 rfl rfl ?_
        refine a_callV ok_X11_causedBy ln_X11_250 in_X11_causedBy rfl 38 dX11_goesOn_35 rfl (caused_at hy2 hf2 (by omega)) (by repeat (first | assumption | (refine rg_ne (by first | decide | omega) ?_) | apply rg_eq | refine rg_fr (by assumption) (by first | decide | (simp; omega)) ?_)) rfl rfl rfl ⟨(Nat.le_of_ble_eq_true rfl), (Nat.le_of_ble_eq_true rfl)⟩ (Nat.le_of_ble_eq_true rfl) ⟨(Nat.le_of_ble_eq_true rfl), (Nat.le_of_ble_eq_true rfl)⟩ ?_
        rintro _ _ ⟨rfl, rfl⟩
        refine a_ldc (1000000) 40 dX11_goesOn_38 rfl lk_X11_253 ?_
        refine a_aload_n 41 dX11_goesOn_40 rfl rfl ?_
        refine a_get fd_X11_53 rfl 44 dX11_goesOn_41 rfl (by repeat (first | assumption | (refine rg_ne (by first | decide | omega) ?_) | apply rg_eq | refine rg_fr (by assumption) (by first | decide | (simp; omega)) ?_)) rfl ?_
        refine a_iload_n 45 dX11_goesOn_44 rfl rfl ?_
        refine a_callV ok_X10_howOften ln_X11_254 in_X10_howOften rfl 48 dX11_goesOn_45 rfl (k_X10_howOften (by exact o.ny24) r1 r4 (nI x)) (by repeat (first | assumption | (refine rg_ne (by first | decide | omega) ?_) | apply rg_eq | refine rg_fr (by assumption) (by first | decide | (simp; omega)) ?_)) rfl rfl rfl ⟨(Nat.le_of_ble_eq_true rfl), (Nat.le_of_ble_eq_true rfl)⟩ (Nat.le_of_ble_eq_true rfl) ⟨(Nat.le_of_ble_eq_true rfl), (Nat.le_of_ble_eq_true rfl)⟩ ?_
        rintro _ _ ⟨rfl, rfl⟩
        refine a_imul 49 dX11_goesOn_48 rfl ?_
        rw [e1, em]
        refine a_icmp_le 54 52 dX11_goesOn_49 rfl (by decide) (fun c_49 => ?_) (fun c_49 => ?_)
        · refine a_iinc _ 57 dX11_goesOn_54 rfl rfl (by decide) rfl ?_
          refine a_goto 25 dX11_goesOn_57 (by decide) ?_
          exact ih (x + 1) _ (by omega) (by rw [andN, hs, decide_eq_true ((nI_leI (by have := hlt x; omega) (by omega)).mp c_49)]; rfl) (nI_1 x)
        · refine a_iconst (1) 53 dX11_goesOn_52 rfl (by decide) ?_
          exact a_ireturn dX11_goesOn_53 rfl rfl (Nat.le_of_ble_eq_true rfl) (Nat.le_of_ble_eq_true rfl) ⟨by rw [ea, if_pos hb, if_neg (fun z => absurd (andN_f (n := T.m) (i := x) (by omega) (decide_eq_false (fun q => c_49 (nI_le q (by omega))))) (by rw [z]; decide))], qb, kk⟩
    refine a_aload_n 1 dX11_goesOn_0 rfl rfl ?_
    refine a_iload_n 2 dX11_goesOn_1 rfl rfl ?_
    refine a_callV ok_X11_weighedLaw ln_X11_217 in_X11_weighedLaw rfl 5 dX11_goesOn_2 rfl (k_X11_weighedLaw q.1 o q.2.1 hz) (by repeat (first | assumption | (refine rg_ne (by first | decide | omega) ?_) | apply rg_eq | refine rg_fr (by assumption) (by first | decide | (simp; omega)) ?_)) rfl rfl rfl ⟨(Nat.le_of_ble_eq_true rfl), (Nat.le_of_ble_eq_true rfl)⟩ (Nat.le_of_ble_eq_true rfl) ⟨(Nat.le_of_ble_eq_true rfl), (Nat.le_of_ble_eq_true rfl)⟩ ?_
    rintro h1 _ ⟨rfl, w1, hf1⟩
    have hy1 := w1.1.1
    have qa := wg_all q w1 hf1
    refine a_astore_n 6 dX11_goesOn_5 rfl (by decide) ?_
    refine a_aload_n 7 dX11_goesOn_6 rfl rfl ?_
    refine a_ifnonnull 12 dX11_goesOn_7 (by decide) ?_
    refine a_aload_n 13 dX11_goesOn_12 rfl rfl ?_
    refine a_aload_n 14 dX11_goesOn_13 rfl rfl ?_
    refine a_callV ok_X11_sumCauses ln_X11_246 in_X11_sumCauses rfl 17 dX11_goesOn_14 rfl (k_X11_sumCauses w1 o qa.2.1.2.2.1) (by repeat (first | assumption | (refine rg_ne (by first | decide | omega) ?_) | apply rg_eq | refine rg_fr (by assumption) (by first | decide | (simp; omega)) ?_)) rfl rfl rfl ⟨(Nat.le_of_ble_eq_true rfl), (Nat.le_of_ble_eq_true rfl)⟩ (Nat.le_of_ble_eq_true rfl) ⟨(Nat.le_of_ble_eq_true rfl), (Nat.le_of_ble_eq_true rfl)⟩ ?_
    rintro h2 _ ⟨rfl, hfr2, f, hf2, hfx⟩
    have qb := all_27 qa ⟨f, hf2⟩ hfr2
    have kk := kp_mono (kp_fr (fr_trans (fr_mono hf1 (T := [25, 26, 27]) (by decide)) hfr2 (by decide))) (S' := cL) (by decide)
    refine a_if_ne 23 20 dX11_goesOn_17 rfl (by decide) (fun c_17 => ?_) (fun c_17 => ?_)
    · refine a_iconst (0) 24 dX11_goesOn_23 rfl (by decide) ?_
      refine a_istore_n 25 dX11_goesOn_24 rfl (by decide) ?_
      exact L _ qb kk f hf2 (Decidable.not_not.mp (fun q => c_17 (if_neg q))) (hfx (Decidable.not_not.mp (fun q => c_17 (if_neg q)))) T.m 0 _ (by omega) rfl rfl
    · refine a_bipush (-3) 22 dX11_goesOn_20 rfl (by decide) ?_
      exact a_ireturn dX11_goesOn_22 rfl rfl (Nat.le_of_ble_eq_true rfl) (Nat.le_of_ble_eq_true rfl) ⟨by rw [ea, if_neg (b_eq0.mp c_17)], qb, kk⟩
end CPUB2
