/-! THE MODEL: kept -/
section MKEPT
variable {l : Launch} {G : rG} {h : rH} {T : Tn}
set_option maxRecDepth 100000 in
set_option maxHeartbeats 400000 in
theorem k_X12_isBeyond (a s : Int32) (b : Int64) : rM l G 0 mX12_isBeyond 0 0 [.int a, .long b, .int s] h (rV h (some (.int (if a < 0 ∨ b < 0 ∨ s.toInt64 < a.toInt64 + b then 1 else 0)))) := by
  refine rM_start (by decide) (Nat.le_of_ble_eq_true rfl) ?_
  refine a_iload_n 1 dX12_isBeyond_0 rfl rfl ?_
  refine a_if_lt 20 4 dX12_isBeyond_1 rfl (by decide) (fun c_1 => ?_) (fun c_1 => ?_)
  · refine a_iconst (1) 21 dX12_isBeyond_20 rfl (by decide) ?_
    refine a_goto 25 dX12_isBeyond_21 (by decide) ?_
    exact a_ireturn dX12_isBeyond_25 rfl rfl (Nat.le_of_ble_eq_true rfl) (Nat.le_of_ble_eq_true rfl) ⟨rfl, by rw [if_pos (Or.inl c_1)]⟩
  · refine a_lload_n 5 dX12_isBeyond_4 rfl rfl ?_
    refine a_lconst (0) 6 dX12_isBeyond_5 rfl (by decide) ?_
    refine a_lcmp 7 dX12_isBeyond_6 rfl ?_
    refine a_if_lt 20 10 dX12_isBeyond_7 rfl (by decide) (fun c_7 => ?_) (fun c_7 => ?_)
    · refine a_iconst (1) 21 dX12_isBeyond_20 rfl (by decide) ?_
      refine a_goto 25 dX12_isBeyond_21 (by decide) ?_
      exact a_ireturn dX12_isBeyond_25 rfl rfl (Nat.le_of_ble_eq_true rfl) (Nat.le_of_ble_eq_true rfl) ⟨rfl, by rw [if_pos (Or.inr (Or.inl ((lg_cmp_lt _ _).mp c_7)))]⟩
    · refine a_iload_n 11 dX12_isBeyond_10 rfl rfl ?_
      refine a_i2l 12 dX12_isBeyond_11 rfl ?_
      refine a_lload_n 13 dX12_isBeyond_12 rfl rfl ?_
      refine a_ladd 14 dX12_isBeyond_13 rfl ?_
      refine a_iload_n 15 dX12_isBeyond_14 rfl rfl ?_
      refine a_i2l 16 dX12_isBeyond_15 rfl ?_
      refine a_lcmp 17 dX12_isBeyond_16 rfl ?_
      refine a_if_le 24 20 dX12_isBeyond_17 rfl (by decide) (fun c_17 => ?_) (fun c_17 => ?_)
      · refine a_iconst (0) 25 dX12_isBeyond_24 rfl (by decide) ?_
        exact a_ireturn dX12_isBeyond_25 rfl rfl (Nat.le_of_ble_eq_true rfl) (Nat.le_of_ble_eq_true rfl) ⟨rfl, by rw [if_neg (fun v => by rcases v with v | v | v; exact c_1 v; exact c_7 ((lg_cmp_lt _ _).mpr v); exact absurd ((lg_cmp_le _ _).mp c_17) (Int64.not_le.mpr v))]⟩
      · refine a_iconst (1) 21 dX12_isBeyond_20 rfl (by decide) ?_
        refine a_goto 25 dX12_isBeyond_21 (by decide) ?_
        exact a_ireturn dX12_isBeyond_25 rfl rfl (Nat.le_of_ble_eq_true rfl) (Nat.le_of_ble_eq_true rfl) ⟨rfl, by rw [if_pos (Or.inr (Or.inr (Int64.not_le.mp (fun v => c_17 ((lg_cmp_le _ _).mpr v)))))]⟩

theorem beyond_iff {sz : Nat} (hs : sz ≤ 60) (a n : Int32) : (a < 0 ∨ n.toInt64 < 0 ∨ (nI sz).toInt64 < a.toInt64 + n.toInt64) ↔ ¬ hasC sz a n := by
  have es : (nI sz).toInt = (sz : Int) := nI_toInt (by omega)
  have b1 := Int32.toInt_lt a
  have b2 := Int32.le_toInt a
  have b3 := Int32.toInt_lt n
  have b4 := Int32.le_toInt n
  have e0 : (0 : Int32).toInt = 0 := rfl
  have e64 : (0 : Int64).toInt = 0 := rfl
  have ead : (a.toInt64 + n.toInt64).toInt = a.toInt + n.toInt := by
    rw [Int64.toInt_add, Int32.toInt_toInt64, Int32.toInt_toInt64]
    exact Int.bmod_eq_of_le (by omega) (by omega)
  have esu : 0 ≤ a.toInt → a.toInt ≤ sz → (nI sz - a).toInt = sz - a.toInt := by
    intro u v
    rw [Int32.toInt_sub, es]
    exact Int.bmod_eq_of_le (by omega) (by omega)
  unfold hasC
  rw [i_lt, Int64.lt_iff_toInt_lt, Int64.lt_iff_toInt_lt, ead, Int32.toInt_toInt64, Int32.toInt_toInt64, i_le, i_le, i_le, i_le, e0, e64, es]
  by_cases h1 : 0 ≤ a.toInt
  · by_cases h2 : a.toInt ≤ sz
    · rw [esu h1 h2]; omega
    · exact ⟨fun _ w => h2 w.2.1, fun _ => by omega⟩
  · exact ⟨fun _ w => h1 w.1, fun _ => Or.inl (by omega)⟩
theorem refF_lane {c d i n : Int32} (h : (refF T c d i n).1 = 0) : laneI d := by
  rcases oT_cases (n := 4) (by decide) c with ⟨e, hc⟩ | ⟨z, hz, rfl, e⟩
  · unfold refF at h; rw [e] at h; exact absurd h (show ¬ (-1 : Int32) = 0 by decide)
  · by_cases hd : laneI d
    · exact hd
    · unfold refF at h; rw [e] at h; dsimp only at h; rw [if_neg hd] at h; exact absurd h (show ¬ (-2 : Int32) = 0 by decide)
theorem lg_ge0 {N : Nat} (h : N < 2 ^ 31) : 0 ≤ lg_cmp (nI N).toInt64 0 := (lg_cmp_ge _ _).mpr (Int64.le_iff_toInt_le.mpr (by rw [Int32.toInt_toInt64, nI_toInt h]; show (0 : Int) ≤ N; omega))
theorem n64_lt (n : Int32) : n.toInt64 < 0 ↔ n < 0 := by
  rw [Int64.lt_iff_toInt_lt, Int32.toInt_toInt64, i_lt]; exact Iff.rfl
set_option maxRecDepth 100000 in
set_option maxHeartbeats 400000 in
theorem m_kept0 {i : Nat → Int32} {j : Nat → Int64} (q : mX G h T i j) (o : T.ok) {c d a n : Int32} (hr : (refF T c d a n).1 = 0) : rM l G 2 mX12_kept 0 0 [.ref (gN G + 38), .int c, .int d, .int a, .long n.toInt64] h (rV h (some (.int 0))) := by
  have hd := refF_lane hr
  obtain ⟨z, b, N, hz, rfl, ez, rfl, rfl, hbN, er, hh, hl⟩ := refF_ok o hr
  have hm := q.at
  have hsz := o.sz60 hz
  have hd1 : ¬ (if (0 : Int64) ≤ d.toInt64 ∧ d.toInt64 ≤ 2 then (1 : Int32) else 0) = 0 := fun v => b_eq0.mp v ((in02 d).mpr hd)
  obtain ⟨f, g, w, h57, h58, h59, hx⟩ := q.2.2.2.2.1
  have vz : vp_in (nI z) 4 := vp_in_nI hz (by decide)
  have ec : (nI z).toNatClampNeg = z := nI_clamp (by omega)
  have hfz : f z = nI (T.sz z) := (hx z hz).1.trans (if_pos hh)
  have hgz : g z = d := (hx z hz).2.1.trans hl
  have hge : ¬ f z < 0 := by rw [hfz, ← nI_0]; exact nI_nlt (Nat.zero_le _) (by omega)
  have hby : (if nI b < 0 ∨ (nI N).toInt64 < 0 ∨ (nI (T.sz z)).toInt64 < (nI b).toInt64 + (nI N).toInt64 then (1 : Int32) else 0) = 0 := if_neg (fun u => (beyond_iff hsz _ _).mp u ⟨nI_pos' (by omega), nI_le (by omega) (by omega), nI_pos' (by omega), by rw [pk_sub (by omega)]; exact nI_le (by omega) (by omega)⟩)
  refine rM_start (by decide) (Nat.le_of_ble_eq_true rfl) ?_
  refine a_iload_n 1 dX12_kept_0 rfl rfl ?_
  refine a_callS ok_X12_noSheet ln_X12_87 is_X12_noSheet rfl 4 dX12_kept_1 rfl (k_X12_noSheet (nI z)) rfl rfl ⟨(Nat.le_of_ble_eq_true rfl), (Nat.le_of_ble_eq_true rfl)⟩ (Nat.le_of_ble_eq_true rfl) ⟨(Nat.le_of_ble_eq_true rfl), (Nat.le_of_ble_eq_true rfl)⟩ ?_
  rintro _ _ ⟨rfl, rfl⟩
  refine a_if_eq 13 7 dX12_kept_4 rfl (by decide) (fun c_4 => ?_) (fun c_4 => absurd (if_pos (oT_yes hz (by decide))) c_4)
  refine a_iload_n 14 dX12_kept_13 rfl rfl ?_
  refine a_i2l 15 dX12_kept_14 rfl ?_
  refine a_lconst (0) 16 dX12_kept_15 rfl (by decide) ?_
  refine a_ldc2 (2) 19 dX12_kept_16 rfl lk_X12_95 ?_
  refine a_callS ok_X12_in ln_X12_97 is_X12_in rfl 22 dX12_kept_19 rfl (k_X12_in _ _ _) rfl rfl ⟨(Nat.le_of_ble_eq_true rfl), (Nat.le_of_ble_eq_true rfl)⟩ (Nat.le_of_ble_eq_true rfl) ⟨(Nat.le_of_ble_eq_true rfl), (Nat.le_of_ble_eq_true rfl)⟩ ?_
  rintro _ _ ⟨rfl, rfl⟩
  refine a_if_ne 32 25 dX12_kept_22 rfl (by decide) (fun c_22 => ?_) (fun c_22 => absurd c_22 hd1)
  refine a_aload_n 33 dX12_kept_32 rfl rfl ?_
  refine a_get fd_X12_65 rfl 36 dX12_kept_33 rfl (by repeat (first | assumption | (refine rg_ne (by first | decide | omega) ?_) | apply rg_eq | refine rg_fr (by assumption) (by first | decide | (simp; omega)) ?_)) rfl ?_
  refine a_iload_n 37 dX12_kept_36 rfl rfl ?_
  refine a_iaload 38 dX12_kept_37 rfl (by repeat (first | assumption | (refine rg_ne (by first | decide | omega) ?_) | apply rg_eq | refine rg_fr (by assumption) (by first | decide | (simp; omega)) ?_)) vz ?_
  rw [ec]
  refine a_if_lt 57 41 dX12_kept_38 rfl (by decide) (fun c_38 => absurd c_38 hge) (fun c_38 => ?_)
  refine a_aload_n 42 dX12_kept_41 rfl rfl ?_
  refine a_get fd_X12_68 rfl 45 dX12_kept_42 rfl (by repeat (first | assumption | (refine rg_ne (by first | decide | omega) ?_) | apply rg_eq | refine rg_fr (by assumption) (by first | decide | (simp; omega)) ?_)) rfl ?_
  refine a_iload_n 46 dX12_kept_45 rfl rfl ?_
  refine a_iaload 47 dX12_kept_46 rfl (by repeat (first | assumption | (refine rg_ne (by first | decide | omega) ?_) | apply rg_eq | refine rg_fr (by assumption) (by first | decide | (simp; omega)) ?_)) vz ?_
  rw [ec]
  refine a_iload_n 48 dX12_kept_47 rfl rfl ?_
  refine a_icmp_eq 57 51 dX12_kept_48 rfl (by decide) (fun c_48 => ?_) (fun c_48 => absurd hgz c_48)
  refine a_aload_n 58 dX12_kept_57 rfl rfl ?_
  refine a_get fd_X12_65 rfl 61 dX12_kept_58 rfl (by repeat (first | assumption | (refine rg_ne (by first | decide | omega) ?_) | apply rg_eq | refine rg_fr (by assumption) (by first | decide | (simp; omega)) ?_)) rfl ?_
  refine a_iload_n 62 dX12_kept_61 rfl rfl ?_
  refine a_iaload 63 dX12_kept_62 rfl (by repeat (first | assumption | (refine rg_ne (by first | decide | omega) ?_) | apply rg_eq | refine rg_fr (by assumption) (by first | decide | (simp; omega)) ?_)) vz ?_
  rw [ec]
  refine a_if_ge 72 66 dX12_kept_63 rfl (by decide) (fun c_63 => ?_) (fun c_63 => absurd (Int32.not_lt.mp hge) c_63)
  refine a_lload 74 dX12_kept_72 rfl rfl ?_
  refine a_lconst (0) 75 dX12_kept_74 rfl (by decide) ?_
  refine a_lcmp 76 dX12_kept_75 rfl ?_
  refine a_if_ge 85 79 dX12_kept_76 rfl (by decide) (fun c_76 => ?_) (fun c_76 => absurd (lg_ge0 (by omega)) c_76)
  refine a_iload_n 86 dX12_kept_85 rfl rfl ?_
  refine a_lload 88 dX12_kept_86 rfl rfl ?_
  refine a_aload_n 89 dX12_kept_88 rfl rfl ?_
  refine a_get fd_X12_65 rfl 92 dX12_kept_89 rfl (by repeat (first | assumption | (refine rg_ne (by first | decide | omega) ?_) | apply rg_eq | refine rg_fr (by assumption) (by first | decide | (simp; omega)) ?_)) rfl ?_
  refine a_iload_n 93 dX12_kept_92 rfl rfl ?_
  refine a_iaload 94 dX12_kept_93 rfl (by repeat (first | assumption | (refine rg_ne (by first | decide | omega) ?_) | apply rg_eq | refine rg_fr (by assumption) (by first | decide | (simp; omega)) ?_)) vz ?_
  rw [ec, hfz]
  refine a_callS ok_X12_isBeyond ln_X12_104 is_X12_isBeyond rfl 97 dX12_kept_94 rfl (k_X12_isBeyond _ _ _) rfl rfl ⟨(Nat.le_of_ble_eq_true rfl), (Nat.le_of_ble_eq_true rfl)⟩ (Nat.le_of_ble_eq_true rfl) ⟨(Nat.le_of_ble_eq_true rfl), (Nat.le_of_ble_eq_true rfl)⟩ ?_
  rintro _ _ ⟨rfl, rfl⟩
  rw [hby]
  refine a_if_eq 108 100 dX12_kept_97 rfl (by decide) (fun c_97 => ?_) (fun c_97 => absurd rfl c_97)
  refine a_iconst (0) 109 dX12_kept_108 rfl (by decide) ?_
  exact a_ireturn dX12_kept_109 rfl rfl (Nat.le_of_ble_eq_true rfl) (Nat.le_of_ble_eq_true rfl) ⟨rfl, rfl⟩
set_option maxRecDepth 100000 in
set_option maxHeartbeats 400000 in
theorem m_keptN {i : Nat → Int32} {j : Nat → Int64} (q : mX G h T i j) (o : T.ok) {c d a n : Int32} (hr : ¬ (refF T c d a n).1 = 0) : rM l G 2 mX12_kept 0 0 [.ref (gN G + 38), .int c, .int d, .int a, .long n.toInt64] h (fun h' v => v = some (.int (refF T c d a n).1) ∧ (refF T c d a n).1 < 0 ∧ mX G h' (setFT T (refF T c d a n).2 T.tr) (upd i 0 (refF T c d a n).2) j ∧ fr h h' [38]) := by
  have hm := q.at
  rcases oT_cases (n := 4) (by decide) c with ⟨e, hc⟩ | ⟨z, hz, rfl, e⟩
  · have er : refF T c d a n = (-1, 0) := by unfold refF; rw [e]
    rw [er]
    refine rM_start (by decide) (Nat.le_of_ble_eq_true rfl) ?_
    refine a_iload_n 1 dX12_kept_0 rfl rfl ?_
    refine a_callS ok_X12_noSheet ln_X12_87 is_X12_noSheet rfl 4 dX12_kept_1 rfl (k_X12_noSheet c) rfl rfl ⟨(Nat.le_of_ble_eq_true rfl), (Nat.le_of_ble_eq_true rfl)⟩ (Nat.le_of_ble_eq_true rfl) ⟨(Nat.le_of_ble_eq_true rfl), (Nat.le_of_ble_eq_true rfl)⟩ ?_
    rintro _ _ ⟨rfl, rfl⟩
    refine a_if_eq 13 7 dX12_kept_4 rfl (by decide) (fun c_4 => absurd c_4 (by rw [if_neg (show ¬ (0 ≤ c ∧ c < 4) from hc)]; decide)) (fun c_4 => ?_)
    refine a_aload_n 8 dX12_kept_7 rfl rfl ?_
    refine a_iconst (-1) 9 dX12_kept_8 rfl (by decide) ?_
    refine a_callV ok_X12_refused ln_X12_91 in_X12_refused rfl 12 dX12_kept_9 rfl (k_X12_refused hm (-1)) (by repeat (first | assumption | (refine rg_ne (by first | decide | omega) ?_) | apply rg_eq | refine rg_fr (by assumption) (by first | decide | (simp; omega)) ?_)) rfl rfl rfl ⟨(Nat.le_of_ble_eq_true rfl), (Nat.le_of_ble_eq_true rfl)⟩ (Nat.le_of_ble_eq_true rfl) ⟨(Nat.le_of_ble_eq_true rfl), (Nat.le_of_ble_eq_true rfl)⟩ ?_
    rintro h2 v ⟨rfl, e2, hf2⟩
    exact a_ireturn dX12_kept_12 rfl rfl (Nat.le_of_ble_eq_true rfl) (Nat.le_of_ble_eq_true rfl) ⟨rfl, by decide, mX_fa q e2 hf2, hf2⟩
  · have er : refF T (nI z) d a n = if laneI d then (if T.has z then (if T.ln z = d then (if n < 0 then (-14, 4) else if hasC (T.sz z) a n then (0, 0) else (-13, 3)) else (-12, 2)) else (-11, 1)) else (-2, 0) := by unfold refF; rw [e]
    rw [er] at hr ⊢
    have hBR : (if (0 : Int64) ≤ d.toInt64 ∧ d.toInt64 ≤ 2 then (1 : Int32) else 0) = 0 ↔ ¬ laneI d := by rw [b_eq0, in02 d]
    have hsz := o.sz60 hz
    obtain ⟨f, g, w, h57, h58, h59, hx⟩ := q.2.2.2.2.1
    have vz : vp_in (nI z) 4 := vp_in_nI hz (by decide)
    have ec : (nI z).toNatClampNeg = z := nI_clamp (by omega)
    have hfz : f z = if T.has z then nI (T.sz z) else -1 := (hx z hz).1
    have hgz : g z = T.ln z := (hx z hz).2.1
    by_cases hd : laneI d
    · rw [if_pos hd] at hr ⊢
      have hd1 : ¬ (if (0 : Int64) ≤ d.toInt64 ∧ d.toInt64 ≤ 2 then (1 : Int32) else 0) = 0 := fun v => hBR.mp v hd
      cases hh : T.has z with
      | false =>
        rw [if_neg (by decide)]
        have hlt : f z < 0 := by rw [hfz, hh, if_neg (by decide)]; decide
        refine rM_start (by decide) (Nat.le_of_ble_eq_true rfl) ?_
        refine a_iload_n 1 dX12_kept_0 rfl rfl ?_
        refine a_callS ok_X12_noSheet ln_X12_87 is_X12_noSheet rfl 4 dX12_kept_1 rfl (k_X12_noSheet (nI z)) rfl rfl ⟨(Nat.le_of_ble_eq_true rfl), (Nat.le_of_ble_eq_true rfl)⟩ (Nat.le_of_ble_eq_true rfl) ⟨(Nat.le_of_ble_eq_true rfl), (Nat.le_of_ble_eq_true rfl)⟩ ?_
        rintro _ _ ⟨rfl, rfl⟩
        refine a_if_eq 13 7 dX12_kept_4 rfl (by decide) (fun c_4 => ?_) (fun c_4 => absurd (if_pos (oT_yes hz (by decide))) c_4)
        refine a_iload_n 14 dX12_kept_13 rfl rfl ?_
        refine a_i2l 15 dX12_kept_14 rfl ?_
        refine a_lconst (0) 16 dX12_kept_15 rfl (by decide) ?_
        refine a_ldc2 (2) 19 dX12_kept_16 rfl lk_X12_95 ?_
        refine a_callS ok_X12_in ln_X12_97 is_X12_in rfl 22 dX12_kept_19 rfl (k_X12_in _ _ _) rfl rfl ⟨(Nat.le_of_ble_eq_true rfl), (Nat.le_of_ble_eq_true rfl)⟩ (Nat.le_of_ble_eq_true rfl) ⟨(Nat.le_of_ble_eq_true rfl), (Nat.le_of_ble_eq_true rfl)⟩ ?_
        rintro _ _ ⟨rfl, rfl⟩
        refine a_if_ne 32 25 dX12_kept_22 rfl (by decide) (fun c_22 => ?_) (fun c_22 => absurd c_22 hd1)
        refine a_aload_n 33 dX12_kept_32 rfl rfl ?_
        refine a_get fd_X12_65 rfl 36 dX12_kept_33 rfl (by repeat (first | assumption | (refine rg_ne (by first | decide | omega) ?_) | apply rg_eq | refine rg_fr (by assumption) (by first | decide | (simp; omega)) ?_)) rfl ?_
        refine a_iload_n 37 dX12_kept_36 rfl rfl ?_
        refine a_iaload 38 dX12_kept_37 rfl (by repeat (first | assumption | (refine rg_ne (by first | decide | omega) ?_) | apply rg_eq | refine rg_fr (by assumption) (by first | decide | (simp; omega)) ?_)) vz ?_
        rw [ec]
        refine a_if_lt 57 41 dX12_kept_38 rfl (by decide) (fun c_38 => ?_) (fun c_38 => absurd hlt c_38)
        refine a_aload_n 58 dX12_kept_57 rfl rfl ?_
        refine a_get fd_X12_65 rfl 61 dX12_kept_58 rfl (by repeat (first | assumption | (refine rg_ne (by first | decide | omega) ?_) | apply rg_eq | refine rg_fr (by assumption) (by first | decide | (simp; omega)) ?_)) rfl ?_
        refine a_iload_n 62 dX12_kept_61 rfl rfl ?_
        refine a_iaload 63 dX12_kept_62 rfl (by repeat (first | assumption | (refine rg_ne (by first | decide | omega) ?_) | apply rg_eq | refine rg_fr (by assumption) (by first | decide | (simp; omega)) ?_)) vz ?_
        rw [ec]
        refine a_if_ge 72 66 dX12_kept_63 rfl (by decide) (fun c_63 => absurd c_63 (Int32.not_le.mpr hlt)) (fun c_63 => ?_)
        refine a_aload_n 67 dX12_kept_66 rfl rfl ?_
        refine a_iconst (1) 68 dX12_kept_67 rfl (by decide) ?_
        refine a_callV ok_X12_failed ln_X12_101 in_X12_failed rfl 71 dX12_kept_68 rfl (k_X12_failed hm 1) (by repeat (first | assumption | (refine rg_ne (by first | decide | omega) ?_) | apply rg_eq | refine rg_fr (by assumption) (by first | decide | (simp; omega)) ?_)) rfl rfl rfl ⟨(Nat.le_of_ble_eq_true rfl), (Nat.le_of_ble_eq_true rfl)⟩ (Nat.le_of_ble_eq_true rfl) ⟨(Nat.le_of_ble_eq_true rfl), (Nat.le_of_ble_eq_true rfl)⟩ ?_
        rintro h2 v ⟨rfl, e2, hf2⟩
        exact a_ireturn dX12_kept_71 rfl rfl (Nat.le_of_ble_eq_true rfl) (Nat.le_of_ble_eq_true rfl) ⟨rfl, by decide, mX_fa q e2 hf2, hf2⟩
      | true =>
        rw [hh, if_pos rfl] at hr
        rw [if_pos rfl]
        rw [hh, if_pos rfl] at hfz
        have hge : ¬ f z < 0 := by rw [hfz, ← nI_0]; exact nI_nlt (Nat.zero_le _) (by omega)
        by_cases hl : T.ln z = d
        · rw [if_pos hl] at hr ⊢
          have hgd : g z = d := hgz.trans hl
          by_cases hn : n < 0
          · rw [if_pos hn]
            refine rM_start (by decide) (Nat.le_of_ble_eq_true rfl) ?_
            refine a_iload_n 1 dX12_kept_0 rfl rfl ?_
            refine a_callS ok_X12_noSheet ln_X12_87 is_X12_noSheet rfl 4 dX12_kept_1 rfl (k_X12_noSheet (nI z)) rfl rfl ⟨(Nat.le_of_ble_eq_true rfl), (Nat.le_of_ble_eq_true rfl)⟩ (Nat.le_of_ble_eq_true rfl) ⟨(Nat.le_of_ble_eq_true rfl), (Nat.le_of_ble_eq_true rfl)⟩ ?_
            rintro _ _ ⟨rfl, rfl⟩
            refine a_if_eq 13 7 dX12_kept_4 rfl (by decide) (fun c_4 => ?_) (fun c_4 => absurd (if_pos (oT_yes hz (by decide))) c_4)
            refine a_iload_n 14 dX12_kept_13 rfl rfl ?_
            refine a_i2l 15 dX12_kept_14 rfl ?_
            refine a_lconst (0) 16 dX12_kept_15 rfl (by decide) ?_
            refine a_ldc2 (2) 19 dX12_kept_16 rfl lk_X12_95 ?_
            refine a_callS ok_X12_in ln_X12_97 is_X12_in rfl 22 dX12_kept_19 rfl (k_X12_in _ _ _) rfl rfl ⟨(Nat.le_of_ble_eq_true rfl), (Nat.le_of_ble_eq_true rfl)⟩ (Nat.le_of_ble_eq_true rfl) ⟨(Nat.le_of_ble_eq_true rfl), (Nat.le_of_ble_eq_true rfl)⟩ ?_
            rintro _ _ ⟨rfl, rfl⟩
            refine a_if_ne 32 25 dX12_kept_22 rfl (by decide) (fun c_22 => ?_) (fun c_22 => absurd c_22 hd1)
            refine a_aload_n 33 dX12_kept_32 rfl rfl ?_
            refine a_get fd_X12_65 rfl 36 dX12_kept_33 rfl (by repeat (first | assumption | (refine rg_ne (by first | decide | omega) ?_) | apply rg_eq | refine rg_fr (by assumption) (by first | decide | (simp; omega)) ?_)) rfl ?_
            refine a_iload_n 37 dX12_kept_36 rfl rfl ?_
            refine a_iaload 38 dX12_kept_37 rfl (by repeat (first | assumption | (refine rg_ne (by first | decide | omega) ?_) | apply rg_eq | refine rg_fr (by assumption) (by first | decide | (simp; omega)) ?_)) vz ?_
            rw [ec]
            refine a_if_lt 57 41 dX12_kept_38 rfl (by decide) (fun c_38 => absurd c_38 hge) (fun c_38 => ?_)
            refine a_aload_n 42 dX12_kept_41 rfl rfl ?_
            refine a_get fd_X12_68 rfl 45 dX12_kept_42 rfl (by repeat (first | assumption | (refine rg_ne (by first | decide | omega) ?_) | apply rg_eq | refine rg_fr (by assumption) (by first | decide | (simp; omega)) ?_)) rfl ?_
            refine a_iload_n 46 dX12_kept_45 rfl rfl ?_
            refine a_iaload 47 dX12_kept_46 rfl (by repeat (first | assumption | (refine rg_ne (by first | decide | omega) ?_) | apply rg_eq | refine rg_fr (by assumption) (by first | decide | (simp; omega)) ?_)) vz ?_
            rw [ec]
            refine a_iload_n 48 dX12_kept_47 rfl rfl ?_
            refine a_icmp_eq 57 51 dX12_kept_48 rfl (by decide) (fun c_48 => ?_) (fun c_48 => absurd hgd c_48)
            refine a_aload_n 58 dX12_kept_57 rfl rfl ?_
            refine a_get fd_X12_65 rfl 61 dX12_kept_58 rfl (by repeat (first | assumption | (refine rg_ne (by first | decide | omega) ?_) | apply rg_eq | refine rg_fr (by assumption) (by first | decide | (simp; omega)) ?_)) rfl ?_
            refine a_iload_n 62 dX12_kept_61 rfl rfl ?_
            refine a_iaload 63 dX12_kept_62 rfl (by repeat (first | assumption | (refine rg_ne (by first | decide | omega) ?_) | apply rg_eq | refine rg_fr (by assumption) (by first | decide | (simp; omega)) ?_)) vz ?_
            rw [ec]
            refine a_if_ge 72 66 dX12_kept_63 rfl (by decide) (fun c_63 => ?_) (fun c_63 => absurd (Int32.not_lt.mp hge) c_63)
            refine a_lload 74 dX12_kept_72 rfl rfl ?_
            refine a_lconst (0) 75 dX12_kept_74 rfl (by decide) ?_
            refine a_lcmp 76 dX12_kept_75 rfl ?_
            refine a_if_ge 85 79 dX12_kept_76 rfl (by decide) (fun c_76 => absurd ((lg_cmp_ge _ _).mp c_76) (Int64.not_le.mpr ((n64_lt n).mpr hn))) (fun c_76 => ?_)
            refine a_aload_n 80 dX12_kept_79 rfl rfl ?_
            refine a_iconst (4) 81 dX12_kept_80 rfl (by decide) ?_
            refine a_callV ok_X12_failed ln_X12_101 in_X12_failed rfl 84 dX12_kept_81 rfl (k_X12_failed hm 4) (by repeat (first | assumption | (refine rg_ne (by first | decide | omega) ?_) | apply rg_eq | refine rg_fr (by assumption) (by first | decide | (simp; omega)) ?_)) rfl rfl rfl ⟨(Nat.le_of_ble_eq_true rfl), (Nat.le_of_ble_eq_true rfl)⟩ (Nat.le_of_ble_eq_true rfl) ⟨(Nat.le_of_ble_eq_true rfl), (Nat.le_of_ble_eq_true rfl)⟩ ?_
            rintro h2 v ⟨rfl, e2, hf2⟩
            exact a_ireturn dX12_kept_84 rfl rfl (Nat.le_of_ble_eq_true rfl) (Nat.le_of_ble_eq_true rfl) ⟨rfl, by decide, mX_fa q e2 hf2, hf2⟩
          · rw [if_neg hn] at hr ⊢
            have hi : ¬ hasC (T.sz z) a n := fun u => hr (by rw [if_pos u])
            rw [if_neg hi]
            have hby : ¬ (if a < 0 ∨ n.toInt64 < 0 ∨ (nI (T.sz z)).toInt64 < a.toInt64 + n.toInt64 then (1 : Int32) else 0) = 0 := fun u => b_eq0.mp u ((beyond_iff hsz _ _).mpr hi)
            refine rM_start (by decide) (Nat.le_of_ble_eq_true rfl) ?_
            refine a_iload_n 1 dX12_kept_0 rfl rfl ?_
            refine a_callS ok_X12_noSheet ln_X12_87 is_X12_noSheet rfl 4 dX12_kept_1 rfl (k_X12_noSheet (nI z)) rfl rfl ⟨(Nat.le_of_ble_eq_true rfl), (Nat.le_of_ble_eq_true rfl)⟩ (Nat.le_of_ble_eq_true rfl) ⟨(Nat.le_of_ble_eq_true rfl), (Nat.le_of_ble_eq_true rfl)⟩ ?_
            rintro _ _ ⟨rfl, rfl⟩
            refine a_if_eq 13 7 dX12_kept_4 rfl (by decide) (fun c_4 => ?_) (fun c_4 => absurd (if_pos (oT_yes hz (by decide))) c_4)
            refine a_iload_n 14 dX12_kept_13 rfl rfl ?_
            refine a_i2l 15 dX12_kept_14 rfl ?_
            refine a_lconst (0) 16 dX12_kept_15 rfl (by decide) ?_
            refine a_ldc2 (2) 19 dX12_kept_16 rfl lk_X12_95 ?_
            refine a_callS ok_X12_in ln_X12_97 is_X12_in rfl 22 dX12_kept_19 rfl (k_X12_in _ _ _) rfl rfl ⟨(Nat.le_of_ble_eq_true rfl), (Nat.le_of_ble_eq_true rfl)⟩ (Nat.le_of_ble_eq_true rfl) ⟨(Nat.le_of_ble_eq_true rfl), (Nat.le_of_ble_eq_true rfl)⟩ ?_
            rintro _ _ ⟨rfl, rfl⟩
            refine a_if_ne 32 25 dX12_kept_22 rfl (by decide) (fun c_22 => ?_) (fun c_22 => absurd c_22 hd1)
            refine a_aload_n 33 dX12_kept_32 rfl rfl ?_
            refine a_get fd_X12_65 rfl 36 dX12_kept_33 rfl (by repeat (first | assumption | (refine rg_ne (by first | decide | omega) ?_) | apply rg_eq | refine rg_fr (by assumption) (by first | decide | (simp; omega)) ?_)) rfl ?_
            refine a_iload_n 37 dX12_kept_36 rfl rfl ?_
            refine a_iaload 38 dX12_kept_37 rfl (by repeat (first | assumption | (refine rg_ne (by first | decide | omega) ?_) | apply rg_eq | refine rg_fr (by assumption) (by first | decide | (simp; omega)) ?_)) vz ?_
            rw [ec]
            refine a_if_lt 57 41 dX12_kept_38 rfl (by decide) (fun c_38 => absurd c_38 hge) (fun c_38 => ?_)
            refine a_aload_n 42 dX12_kept_41 rfl rfl ?_
            refine a_get fd_X12_68 rfl 45 dX12_kept_42 rfl (by repeat (first | assumption | (refine rg_ne (by first | decide | omega) ?_) | apply rg_eq | refine rg_fr (by assumption) (by first | decide | (simp; omega)) ?_)) rfl ?_
            refine a_iload_n 46 dX12_kept_45 rfl rfl ?_
            refine a_iaload 47 dX12_kept_46 rfl (by repeat (first | assumption | (refine rg_ne (by first | decide | omega) ?_) | apply rg_eq | refine rg_fr (by assumption) (by first | decide | (simp; omega)) ?_)) vz ?_
            rw [ec]
            refine a_iload_n 48 dX12_kept_47 rfl rfl ?_
            refine a_icmp_eq 57 51 dX12_kept_48 rfl (by decide) (fun c_48 => ?_) (fun c_48 => absurd hgd c_48)
            refine a_aload_n 58 dX12_kept_57 rfl rfl ?_
            refine a_get fd_X12_65 rfl 61 dX12_kept_58 rfl (by repeat (first | assumption | (refine rg_ne (by first | decide | omega) ?_) | apply rg_eq | refine rg_fr (by assumption) (by first | decide | (simp; omega)) ?_)) rfl ?_
            refine a_iload_n 62 dX12_kept_61 rfl rfl ?_
            refine a_iaload 63 dX12_kept_62 rfl (by repeat (first | assumption | (refine rg_ne (by first | decide | omega) ?_) | apply rg_eq | refine rg_fr (by assumption) (by first | decide | (simp; omega)) ?_)) vz ?_
            rw [ec]
            refine a_if_ge 72 66 dX12_kept_63 rfl (by decide) (fun c_63 => ?_) (fun c_63 => absurd (Int32.not_lt.mp hge) c_63)
            refine a_lload 74 dX12_kept_72 rfl rfl ?_
            refine a_lconst (0) 75 dX12_kept_74 rfl (by decide) ?_
            refine a_lcmp 76 dX12_kept_75 rfl ?_
            refine a_if_ge 85 79 dX12_kept_76 rfl (by decide) (fun c_76 => ?_) (fun c_76 => absurd ((lg_cmp_ge _ _).mpr (Int64.not_lt.mp (fun u => hn ((n64_lt n).mp u)))) c_76)
            refine a_iload_n 86 dX12_kept_85 rfl rfl ?_
            refine a_lload 88 dX12_kept_86 rfl rfl ?_
            refine a_aload_n 89 dX12_kept_88 rfl rfl ?_
            refine a_get fd_X12_65 rfl 92 dX12_kept_89 rfl (by repeat (first | assumption | (refine rg_ne (by first | decide | omega) ?_) | apply rg_eq | refine rg_fr (by assumption) (by first | decide | (simp; omega)) ?_)) rfl ?_
            refine a_iload_n 93 dX12_kept_92 rfl rfl ?_
            refine a_iaload 94 dX12_kept_93 rfl (by repeat (first | assumption | (refine rg_ne (by first | decide | omega) ?_) | apply rg_eq | refine rg_fr (by assumption) (by first | decide | (simp; omega)) ?_)) vz ?_
            rw [ec, hfz]
            refine a_callS ok_X12_isBeyond ln_X12_104 is_X12_isBeyond rfl 97 dX12_kept_94 rfl (k_X12_isBeyond _ _ _) rfl rfl ⟨(Nat.le_of_ble_eq_true rfl), (Nat.le_of_ble_eq_true rfl)⟩ (Nat.le_of_ble_eq_true rfl) ⟨(Nat.le_of_ble_eq_true rfl), (Nat.le_of_ble_eq_true rfl)⟩ ?_
            rintro _ _ ⟨rfl, rfl⟩
            refine a_if_eq 108 100 dX12_kept_97 rfl (by decide) (fun c_97 => absurd c_97 hby) (fun c_97 => ?_)
            refine a_aload_n 101 dX12_kept_100 rfl rfl ?_
            refine a_iconst (3) 102 dX12_kept_101 rfl (by decide) ?_
            refine a_callV ok_X12_failed ln_X12_101 in_X12_failed rfl 105 dX12_kept_102 rfl (k_X12_failed hm 3) (by repeat (first | assumption | (refine rg_ne (by first | decide | omega) ?_) | apply rg_eq | refine rg_fr (by assumption) (by first | decide | (simp; omega)) ?_)) rfl rfl rfl ⟨(Nat.le_of_ble_eq_true rfl), (Nat.le_of_ble_eq_true rfl)⟩ (Nat.le_of_ble_eq_true rfl) ⟨(Nat.le_of_ble_eq_true rfl), (Nat.le_of_ble_eq_true rfl)⟩ ?_
            rintro h2 v ⟨rfl, e2, hf2⟩
            refine a_goto 109 dX12_kept_105 (by decide) ?_
            exact a_ireturn dX12_kept_109 rfl rfl (Nat.le_of_ble_eq_true rfl) (Nat.le_of_ble_eq_true rfl) ⟨rfl, by decide, mX_fa q e2 hf2, hf2⟩
        · rw [if_neg hl]
          have hgd : ¬ g z = d := fun u => hl (hgz.symm.trans u)
          refine rM_start (by decide) (Nat.le_of_ble_eq_true rfl) ?_
          refine a_iload_n 1 dX12_kept_0 rfl rfl ?_
          refine a_callS ok_X12_noSheet ln_X12_87 is_X12_noSheet rfl 4 dX12_kept_1 rfl (k_X12_noSheet (nI z)) rfl rfl ⟨(Nat.le_of_ble_eq_true rfl), (Nat.le_of_ble_eq_true rfl)⟩ (Nat.le_of_ble_eq_true rfl) ⟨(Nat.le_of_ble_eq_true rfl), (Nat.le_of_ble_eq_true rfl)⟩ ?_
          rintro _ _ ⟨rfl, rfl⟩
          refine a_if_eq 13 7 dX12_kept_4 rfl (by decide) (fun c_4 => ?_) (fun c_4 => absurd (if_pos (oT_yes hz (by decide))) c_4)
          refine a_iload_n 14 dX12_kept_13 rfl rfl ?_
          refine a_i2l 15 dX12_kept_14 rfl ?_
          refine a_lconst (0) 16 dX12_kept_15 rfl (by decide) ?_
          refine a_ldc2 (2) 19 dX12_kept_16 rfl lk_X12_95 ?_
          refine a_callS ok_X12_in ln_X12_97 is_X12_in rfl 22 dX12_kept_19 rfl (k_X12_in _ _ _) rfl rfl ⟨(Nat.le_of_ble_eq_true rfl), (Nat.le_of_ble_eq_true rfl)⟩ (Nat.le_of_ble_eq_true rfl) ⟨(Nat.le_of_ble_eq_true rfl), (Nat.le_of_ble_eq_true rfl)⟩ ?_
          rintro _ _ ⟨rfl, rfl⟩
          refine a_if_ne 32 25 dX12_kept_22 rfl (by decide) (fun c_22 => ?_) (fun c_22 => absurd c_22 hd1)
          refine a_aload_n 33 dX12_kept_32 rfl rfl ?_
          refine a_get fd_X12_65 rfl 36 dX12_kept_33 rfl (by repeat (first | assumption | (refine rg_ne (by first | decide | omega) ?_) | apply rg_eq | refine rg_fr (by assumption) (by first | decide | (simp; omega)) ?_)) rfl ?_
          refine a_iload_n 37 dX12_kept_36 rfl rfl ?_
          refine a_iaload 38 dX12_kept_37 rfl (by repeat (first | assumption | (refine rg_ne (by first | decide | omega) ?_) | apply rg_eq | refine rg_fr (by assumption) (by first | decide | (simp; omega)) ?_)) vz ?_
          rw [ec]
          refine a_if_lt 57 41 dX12_kept_38 rfl (by decide) (fun c_38 => absurd c_38 hge) (fun c_38 => ?_)
          refine a_aload_n 42 dX12_kept_41 rfl rfl ?_
          refine a_get fd_X12_68 rfl 45 dX12_kept_42 rfl (by repeat (first | assumption | (refine rg_ne (by first | decide | omega) ?_) | apply rg_eq | refine rg_fr (by assumption) (by first | decide | (simp; omega)) ?_)) rfl ?_
          refine a_iload_n 46 dX12_kept_45 rfl rfl ?_
          refine a_iaload 47 dX12_kept_46 rfl (by repeat (first | assumption | (refine rg_ne (by first | decide | omega) ?_) | apply rg_eq | refine rg_fr (by assumption) (by first | decide | (simp; omega)) ?_)) vz ?_
          rw [ec]
          refine a_iload_n 48 dX12_kept_47 rfl rfl ?_
          refine a_icmp_eq 57 51 dX12_kept_48 rfl (by decide) (fun c_48 => absurd c_48 hgd) (fun c_48 => ?_)
          refine a_aload_n 52 dX12_kept_51 rfl rfl ?_
          refine a_iconst (2) 53 dX12_kept_52 rfl (by decide) ?_
          refine a_callV ok_X12_failed ln_X12_101 in_X12_failed rfl 56 dX12_kept_53 rfl (k_X12_failed hm 2) (by repeat (first | assumption | (refine rg_ne (by first | decide | omega) ?_) | apply rg_eq | refine rg_fr (by assumption) (by first | decide | (simp; omega)) ?_)) rfl rfl rfl ⟨(Nat.le_of_ble_eq_true rfl), (Nat.le_of_ble_eq_true rfl)⟩ (Nat.le_of_ble_eq_true rfl) ⟨(Nat.le_of_ble_eq_true rfl), (Nat.le_of_ble_eq_true rfl)⟩ ?_
          rintro h2 v ⟨rfl, e2, hf2⟩
          exact a_ireturn dX12_kept_56 rfl rfl (Nat.le_of_ble_eq_true rfl) (Nat.le_of_ble_eq_true rfl) ⟨rfl, by decide, mX_fa q e2 hf2, hf2⟩
    · rw [if_neg hd]
      have hd1 := hBR.mpr hd
      refine rM_start (by decide) (Nat.le_of_ble_eq_true rfl) ?_
      refine a_iload_n 1 dX12_kept_0 rfl rfl ?_
      refine a_callS ok_X12_noSheet ln_X12_87 is_X12_noSheet rfl 4 dX12_kept_1 rfl (k_X12_noSheet (nI z)) rfl rfl ⟨(Nat.le_of_ble_eq_true rfl), (Nat.le_of_ble_eq_true rfl)⟩ (Nat.le_of_ble_eq_true rfl) ⟨(Nat.le_of_ble_eq_true rfl), (Nat.le_of_ble_eq_true rfl)⟩ ?_
      rintro _ _ ⟨rfl, rfl⟩
      refine a_if_eq 13 7 dX12_kept_4 rfl (by decide) (fun c_4 => ?_) (fun c_4 => absurd (if_pos (oT_yes hz (by decide))) c_4)
      refine a_iload_n 14 dX12_kept_13 rfl rfl ?_
      refine a_i2l 15 dX12_kept_14 rfl ?_
      refine a_lconst (0) 16 dX12_kept_15 rfl (by decide) ?_
      refine a_ldc2 (2) 19 dX12_kept_16 rfl lk_X12_95 ?_
      refine a_callS ok_X12_in ln_X12_97 is_X12_in rfl 22 dX12_kept_19 rfl (k_X12_in _ _ _) rfl rfl ⟨(Nat.le_of_ble_eq_true rfl), (Nat.le_of_ble_eq_true rfl)⟩ (Nat.le_of_ble_eq_true rfl) ⟨(Nat.le_of_ble_eq_true rfl), (Nat.le_of_ble_eq_true rfl)⟩ ?_
      rintro _ _ ⟨rfl, rfl⟩
      refine a_if_ne 32 25 dX12_kept_22 rfl (by decide) (fun c_22 => absurd hd1 c_22) (fun c_22 => ?_)
      refine a_aload_n 26 dX12_kept_25 rfl rfl ?_
      refine a_bipush (-2) 28 dX12_kept_26 rfl (by decide) ?_
      refine a_callV ok_X12_refused ln_X12_91 in_X12_refused rfl 31 dX12_kept_28 rfl (k_X12_refused hm (-2)) (by repeat (first | assumption | (refine rg_ne (by first | decide | omega) ?_) | apply rg_eq | refine rg_fr (by assumption) (by first | decide | (simp; omega)) ?_)) rfl rfl rfl ⟨(Nat.le_of_ble_eq_true rfl), (Nat.le_of_ble_eq_true rfl)⟩ (Nat.le_of_ble_eq_true rfl) ⟨(Nat.le_of_ble_eq_true rfl), (Nat.le_of_ble_eq_true rfl)⟩ ?_
      rintro h2 v ⟨rfl, e2, hf2⟩
      exact a_ireturn dX12_kept_31 rfl rfl (Nat.le_of_ble_eq_true rfl) (Nat.le_of_ble_eq_true rfl) ⟨rfl, by decide, mX_fa q e2 hf2, hf2⟩
end MKEPT
