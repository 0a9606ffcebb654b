/-! TEXTS read code by code, as the class does -/
def ctGo (code : Nat → Int32) : Nat → Nat → ctS → ctS × Option Nat
  | 0, _, s => (s, none)
  | r + 1, p, s => if (ctTakes s (code p)).2 = 0 then ((ctTakes s (code p)).1, some p) else ctGo code r (p + 1) (ctTakes s (code p)).1
abbrev ctW (s : ctS) : Prop := s.1 = 5 ∧ s.2.2.2.2.1 = s.2.1 * s.2.2.1
def ctAns (N : Nat) (x : ctS × Option Nat) : Int32 := match x.2 with
  | some p => nI p
  | none => if ctW x.1 then -9 else nI N
def ltGo (code : Nat → Int32) : Nat → Nat → ltS → ltS × Option Nat
  | 0, _, s => (s, none)
  | r + 1, p, s => if (ltTakes s (code p)).2 = 0 then ((ltTakes s (code p)).1, some p) else ltGo code r (p + 1) (ltTakes s (code p)).1
def ltAns (N : Nat) (x : ltS × Option Nat) : Int32 := match x.2 with
  | some p => nI p
  | none => if x.1.1 = 2 then -9 else nI N
theorem ctTakes_b (s : ctS) (c : Int32) : (ctTakes s c).2 = 0 ∨ (ctTakes s c).2 = 1 := by
  obtain ⟨st, ro, wi, mi, se, fa⟩ := s
  unfold ctTakes
  simp only
  repeat' split
  all_goals first | exact Or.inl rfl | exact Or.inr rfl | exact ctSeat_b _ _
theorem ltTakes_b (s : ltS) (c : Int32) : (ltTakes s c).2 = 0 ∨ (ltTakes s c).2 = 1 := by
  obtain ⟨st, wh, it, nu, to⟩ := s
  unfold ltTakes
  simp only
  repeat' split
  all_goals first | exact Or.inl rfl | exact Or.inr rfl | exact ltLetter_b _ _ | exact ltDigit_b _ _
section TEXT
variable {l : Launch} {G : rG} {h : rH}
set_option maxRecDepth 100000 in
set_option maxHeartbeats 400000 in
theorem k_X9_ffC {b cb : Nat} {h1 l1 : Int32} {sz a N : Nat} {f code : Nat → Int32} {s0 : ctS} (hs : ctAt G h s0) (hb : b ∉ [2, 3]) (hcb : cb ∉ [2, 3]) (hc : h[b]? = some (.inr (8, [.ref (gN G + cb), .int h1, .int l1, .int (nI sz)]))) (hf : h[cb]? = some (.inl (gA G 0, 60, .inl f))) (ha : a + N ≤ 60) (hcode : ∀ p, p < N → f (a + p) = code p) : rM l G 3 mX9_firstFault 0 0 [.ref (gN G + 2), .ref (gN G + b), .int (nI a), .int (nI N)] h (fun h' v => v = some (.int (ctAns N (ctGo code N 0 (0, 0, 0, 0, 0, s0.2.2.2.2.2)))) ∧ ctAt G h' (ctGo code N 0 (0, 0, 0, 0, 0, s0.2.2.2.2.2)).1 ∧ fr h h' [2, 3]) := by
  have hs1 := hs.1
  have L : ∀ (X : ctS × Option Nat) (r p : Nat) (s : ctS) (h1 : rH) (y : Int32), p + r = N → y = nI p → ctAt G h1 s → ctGo code r p s = X → fr h h1 [2, 3] → rW l G (rRm 3 0 0) mX9_firstFault (rZ G (fun h' v => v = some (.int (ctAns N X)) ∧ ctAt G h' X.1 ∧ fr h h' [2, 3]) 0 0) 0 0 13 [some (.ref (gN G + 2)), some (.ref (gN G + b)), some (.int (nI a)), some (.int (nI N)), some (.int y)] [] h1 := by
    intro X r
    induction r with
    | zero =>
      intro p s h1 y hp hy hs hX hfr
      subst hy; subst hX
      have e : p = N := by omega
      subst e
      have h21 := hs.1
      have em : (if nI p < (0 : Int32) then 0 else nI p) = nI p := if_neg (nI_pos (by omega))
      refine a_iload 15 dX9_firstFault_13 rfl rfl ?_
      refine a_iload_n 16 dX9_firstFault_15 rfl rfl ?_
      refine a_icmp_ge 43 19 dX9_firstFault_16 rfl (by decide) (fun c_16 => ?_) (fun c_16 => absurd (Int32.le_refl _) c_16)
      refine a_aload_n 44 dX9_firstFault_43 rfl rfl ?_
      refine a_callU ok_X2_isWhole cu_X9_24_X2 rfl 47 dX9_firstFault_44 rfl (k_X2_isWhole hs) (by repeat (first | assumption | (refine rg_ne (by first | decide | omega) ?_) | apply rg_eq | refine rg_fr (by assumption) (by first | decide | (simp; omega)) ?_)) rfl rfl rfl ⟨(Nat.le_of_ble_eq_true rfl), (Nat.le_of_ble_eq_true rfl)⟩ (Nat.le_of_ble_eq_true rfl) ⟨(Nat.le_of_ble_eq_true rfl), (Nat.le_of_ble_eq_true rfl)⟩ ?_
      rintro _ _ ⟨rfl, rfl⟩
      refine a_if_eq 55 50 dX9_firstFault_47 rfl (by decide) (fun c_47 => ?_) (fun c_47 => ?_)
      · refine a_iload_n 56 dX9_firstFault_55 rfl rfl ?_
        refine a_iconst (0) 57 dX9_firstFault_56 rfl (by decide) ?_
        refine a_mmax lm_X9_28 rfl 60 dX9_firstFault_57 rfl (Nat.le_of_ble_eq_true rfl) (Nat.le_of_ble_eq_true rfl) ⟨(Nat.le_of_ble_eq_true rfl), (Nat.le_of_ble_eq_true rfl)⟩ ?_
        exact a_ireturn dX9_firstFault_60 rfl rfl (Nat.le_of_ble_eq_true rfl) (Nat.le_of_ble_eq_true rfl) ⟨by rw [show ctAns p (ctGo code 0 p s) = _ from if_neg (b_eq0.mp c_47), em], hs, hfr⟩
      · refine a_bipush (-9) 52 dX9_firstFault_50 rfl (by decide) ?_
        refine a_goto 60 dX9_firstFault_52 (by decide) ?_
        exact a_ireturn dX9_firstFault_60 rfl rfl (Nat.le_of_ble_eq_true rfl) (Nat.le_of_ble_eq_true rfl) ⟨by rw [show ctAns p (ctGo code 0 p s) = _ from if_pos (Decidable.not_not.mp (fun z => c_47 (if_neg z)))], hs, hfr⟩
    | succ r ih =>
      intro p s h1 y hp hy hs hX hfr
      subst hy
      have h21 := hs.1
      have hcb1 := rg_fr hfr hb hc
      have hf1 := rg_fr hfr hcb hf
      have e1 : (if 0 ≤ nI a + nI p ∧ nI a + nI p < 60 then f (nI a + nI p).toNatClampNeg else 0) = code p := by
        rw [nI_add, if_pos ⟨nI_pos' (by omega), nI_lt (b := 60) (by omega) (by decide)⟩, nI_clamp (by omega), hcode p (by omega)]
      rw [ctGo] at hX
      refine a_iload 15 dX9_firstFault_13 rfl rfl ?_
      refine a_iload_n 16 dX9_firstFault_15 rfl rfl ?_
      refine a_icmp_ge 43 19 dX9_firstFault_16 rfl (by decide) (fun c_16 => absurd c_16 (nI_ge (a := p) (b := N) (by omega) (by omega))) (fun c_16 => ?_)
      refine a_aload_n 20 dX9_firstFault_19 rfl rfl ?_
      refine a_aload_n 21 dX9_firstFault_20 rfl rfl ?_
      refine a_iload_n 22 dX9_firstFault_21 rfl rfl ?_
      refine a_iload 24 dX9_firstFault_22 rfl rfl ?_
      refine a_iadd 25 dX9_firstFault_24 rfl ?_
      refine a_callV ok_X8_read ln_X9_14 in_X8_read rfl 28 dX9_firstFault_25 rfl (k_X8_read hcb1 hf1 _) (by repeat (first | assumption | (refine rg_ne (by first | decide | omega) ?_) | apply rg_eq | refine rg_fr (by assumption) (by first | decide | (simp; omega)) ?_)) rfl rfl rfl ⟨(Nat.le_of_ble_eq_true rfl), (Nat.le_of_ble_eq_true rfl)⟩ (Nat.le_of_ble_eq_true rfl) ⟨(Nat.le_of_ble_eq_true rfl), (Nat.le_of_ble_eq_true rfl)⟩ ?_
      rintro _ _ ⟨rfl, rfl⟩
      rw [e1]
      refine a_callU ok_X2_takes cu_X9_20_X2 rfl 31 dX9_firstFault_28 rfl (k_X2_takes hs (code p)) (by repeat (first | assumption | (refine rg_ne (by first | decide | omega) ?_) | apply rg_eq | refine rg_fr (by assumption) (by first | decide | (simp; omega)) ?_)) rfl rfl rfl ⟨(Nat.le_of_ble_eq_true rfl), (Nat.le_of_ble_eq_true rfl)⟩ (Nat.le_of_ble_eq_true rfl) ⟨(Nat.le_of_ble_eq_true rfl), (Nat.le_of_ble_eq_true rfl)⟩ ?_
      rintro h2 _ ⟨rfl, hs2, hf2⟩
      refine a_if_ne 37 34 dX9_firstFault_31 rfl (by decide) (fun c_31 => ?_) (fun c_31 => ?_)
      · refine a_iinc _ 40 dX9_firstFault_37 rfl rfl (by decide) rfl ?_
        refine a_goto 13 dX9_firstFault_40 (by decide) ?_
        exact ih (p + 1) _ _ _ (by omega) (nI_1 p) hs2 ((if_neg c_31).symm.trans hX) (fr_trans hfr hf2 (fun _ q => q))
      · refine a_iload 36 dX9_firstFault_34 rfl rfl ?_
        exact a_ireturn dX9_firstFault_36 rfl rfl (Nat.le_of_ble_eq_true rfl) (Nat.le_of_ble_eq_true rfl) (by rw [if_pos c_31] at hX; subst hX; exact ⟨rfl, hs2, fr_trans hfr hf2 (fun _ q => q)⟩)
  refine rM_start (by decide) (Nat.le_of_ble_eq_true rfl) ?_
  refine a_aload_n 1 dX9_firstFault_0 rfl rfl ?_
  refine a_callU ok_X2_begin cu_X9_9_X2 rfl 4 dX9_firstFault_1 rfl (k_X2_begin hs) (by repeat (first | assumption | (refine rg_ne (by first | decide | omega) ?_) | apply rg_eq | refine rg_fr (by assumption) (by first | decide | (simp; omega)) ?_)) rfl rfl rfl ⟨(Nat.le_of_ble_eq_true rfl), (Nat.le_of_ble_eq_true rfl)⟩ (Nat.le_of_ble_eq_true rfl) ⟨(Nat.le_of_ble_eq_true rfl), (Nat.le_of_ble_eq_true rfl)⟩ ?_
  rintro h2 _ ⟨rfl, hs2, hf2⟩
  refine a_aload_n 5 dX9_firstFault_4 rfl rfl ?_
  refine a_ifnonnull 10 dX9_firstFault_5 (by decide) ?_
  refine a_iconst (0) 11 dX9_firstFault_10 rfl (by decide) ?_
  refine a_istore 13 dX9_firstFault_11 rfl (by decide) ?_
  exact L _ N 0 _ _ _ (by omega) rfl hs2 rfl hf2
set_option maxRecDepth 100000 in
set_option maxHeartbeats 400000 in
theorem k_X9_ffL {b cb : Nat} {h1 l1 : Int32} {sz a N : Nat} {f code : Nat → Int32} {s0 : ltS} (hs : ltAt G h s0) (hb : b ∉ [4, 5, 6]) (hcb : cb ∉ [4, 5, 6]) (hc : h[b]? = some (.inr (8, [.ref (gN G + cb), .int h1, .int l1, .int (nI sz)]))) (hf : h[cb]? = some (.inl (gA G 0, 60, .inl f))) (ha : a + N ≤ 60) (hcode : ∀ p, p < N → f (a + p) = code p) : rM l G 3 mX9_firstFault 0 0 [.ref (gN G + 4), .ref (gN G + b), .int (nI a), .int (nI N)] h (fun h' v => ∃ nu to, (∀ j, j < 7 → nu j = rUntold j ∧ to j = 0) ∧ v = some (.int (ltAns N (ltGo code N 0 (0, 0, 0, nu, to)))) ∧ ltAt G h' (ltGo code N 0 (0, 0, 0, nu, to)).1 ∧ fr h h' [4, 5, 6]) := by
  have hs1 := hs.1
  have L : ∀ (nu0 to0 : Nat → Int32) (hnt : ∀ j, j < 7 → nu0 j = rUntold j ∧ to0 j = 0) (r p : Nat) (s : ltS) (h1 : rH) (y : Int32), p + r = N → y = nI p → ltAt G h1 s → ltGo code r p s = ltGo code N 0 (0, 0, 0, nu0, to0) → fr h h1 [4, 5, 6] → rW l G (rRm 3 0 0) mX9_firstFault (rZ G (fun h' v => ∃ nu to, (∀ j, j < 7 → nu j = rUntold j ∧ to j = 0) ∧ v = some (.int (ltAns N (ltGo code N 0 (0, 0, 0, nu, to)))) ∧ ltAt G h' (ltGo code N 0 (0, 0, 0, nu, to)).1 ∧ fr h h' [4, 5, 6]) 0 0) 0 0 13 [some (.ref (gN G + 4)), some (.ref (gN G + b)), some (.int (nI a)), some (.int (nI N)), some (.int y)] [] h1 := by
    intro nu0 to0 hnt r
    induction r with
    | zero =>
      intro p s h1 y hp hy hs hX hfr
      subst hy
      have e : p = N := by omega
      subst e
      have h21 := hs.1
      have em : (if nI p < (0 : Int32) then 0 else nI p) = nI p := if_neg (nI_pos (by omega))
      refine a_iload 15 dX9_firstFault_13 rfl rfl ?_
      refine a_iload_n 16 dX9_firstFault_15 rfl rfl ?_
      refine a_icmp_ge 43 19 dX9_firstFault_16 rfl (by decide) (fun c_16 => ?_) (fun c_16 => absurd (Int32.le_refl _) c_16)
      refine a_aload_n 44 dX9_firstFault_43 rfl rfl ?_
      refine a_callU ok_X6_isWhole cu_X9_24_X6 rfl 47 dX9_firstFault_44 rfl (k_X6_isWhole hs) (by repeat (first | assumption | (refine rg_ne (by first | decide | omega) ?_) | apply rg_eq | refine rg_fr (by assumption) (by first | decide | (simp; omega)) ?_)) rfl rfl rfl ⟨(Nat.le_of_ble_eq_true rfl), (Nat.le_of_ble_eq_true rfl)⟩ (Nat.le_of_ble_eq_true rfl) ⟨(Nat.le_of_ble_eq_true rfl), (Nat.le_of_ble_eq_true rfl)⟩ ?_
      rintro _ _ ⟨rfl, rfl⟩
      refine a_if_eq 55 50 dX9_firstFault_47 rfl (by decide) (fun c_47 => ?_) (fun c_47 => ?_)
      · refine a_iload_n 56 dX9_firstFault_55 rfl rfl ?_
        refine a_iconst (0) 57 dX9_firstFault_56 rfl (by decide) ?_
        refine a_mmax lm_X9_28 rfl 60 dX9_firstFault_57 rfl (Nat.le_of_ble_eq_true rfl) (Nat.le_of_ble_eq_true rfl) ⟨(Nat.le_of_ble_eq_true rfl), (Nat.le_of_ble_eq_true rfl)⟩ ?_
        exact a_ireturn dX9_firstFault_60 rfl rfl (Nat.le_of_ble_eq_true rfl) (Nat.le_of_ble_eq_true rfl) ⟨nu0, to0, hnt, by rw [← hX, show ltAns p (ltGo code 0 p s) = _ from if_neg (b_eq0.mp c_47), em], by rw [← hX]; exact hs, hfr⟩
      · refine a_bipush (-9) 52 dX9_firstFault_50 rfl (by decide) ?_
        refine a_goto 60 dX9_firstFault_52 (by decide) ?_
        exact a_ireturn dX9_firstFault_60 rfl rfl (Nat.le_of_ble_eq_true rfl) (Nat.le_of_ble_eq_true rfl) ⟨nu0, to0, hnt, by rw [← hX, show ltAns p (ltGo code 0 p s) = _ from if_pos (Decidable.not_not.mp (fun z => c_47 (if_neg z)))], by rw [← hX]; exact hs, hfr⟩
    | succ r ih =>
      intro p s h1 y hp hy hs hX hfr
      subst hy
      have h21 := hs.1
      have hcb1 := rg_fr hfr hb hc
      have hf1 := rg_fr hfr hcb hf
      have e1 : (if 0 ≤ nI a + nI p ∧ nI a + nI p < 60 then f (nI a + nI p).toNatClampNeg else 0) = code p := by
        rw [nI_add, if_pos ⟨nI_pos' (by omega), nI_lt (b := 60) (by omega) (by decide)⟩, nI_clamp (by omega), hcode p (by omega)]
      rw [show ltGo code (r + 1) p s = (if (ltTakes s (code p)).2 = 0 then ((ltTakes s (code p)).1, some p) else ltGo code r (p + 1) (ltTakes s (code p)).1) from rfl] at hX
      refine a_iload 15 dX9_firstFault_13 rfl rfl ?_
      refine a_iload_n 16 dX9_firstFault_15 rfl rfl ?_
      refine a_icmp_ge 43 19 dX9_firstFault_16 rfl (by decide) (fun c_16 => absurd c_16 (nI_ge (a := p) (b := N) (by omega) (by omega))) (fun c_16 => ?_)
      refine a_aload_n 20 dX9_firstFault_19 rfl rfl ?_
      refine a_aload_n 21 dX9_firstFault_20 rfl rfl ?_
      refine a_iload_n 22 dX9_firstFault_21 rfl rfl ?_
      refine a_iload 24 dX9_firstFault_22 rfl rfl ?_
      refine a_iadd 25 dX9_firstFault_24 rfl ?_
      refine a_callV ok_X8_read ln_X9_14 in_X8_read rfl 28 dX9_firstFault_25 rfl (k_X8_read hcb1 hf1 _) (by repeat (first | assumption | (refine rg_ne (by first | decide | omega) ?_) | apply rg_eq | refine rg_fr (by assumption) (by first | decide | (simp; omega)) ?_)) rfl rfl rfl ⟨(Nat.le_of_ble_eq_true rfl), (Nat.le_of_ble_eq_true rfl)⟩ (Nat.le_of_ble_eq_true rfl) ⟨(Nat.le_of_ble_eq_true rfl), (Nat.le_of_ble_eq_true rfl)⟩ ?_
      rintro _ _ ⟨rfl, rfl⟩
      rw [e1]
      refine a_callU ok_X6_takes cu_X9_20_X6 rfl 31 dX9_firstFault_28 rfl (k_X6_takes hs (code p)) (by repeat (first | assumption | (refine rg_ne (by first | decide | omega) ?_) | apply rg_eq | refine rg_fr (by assumption) (by first | decide | (simp; omega)) ?_)) rfl rfl rfl ⟨(Nat.le_of_ble_eq_true rfl), (Nat.le_of_ble_eq_true rfl)⟩ (Nat.le_of_ble_eq_true rfl) ⟨(Nat.le_of_ble_eq_true rfl), (Nat.le_of_ble_eq_true rfl)⟩ ?_
      rintro h2 _ ⟨rfl, hs2, hf2⟩
      refine a_if_ne 37 34 dX9_firstFault_31 rfl (by decide) (fun c_31 => ?_) (fun c_31 => ?_)
      · refine a_iinc _ 40 dX9_firstFault_37 rfl rfl (by decide) rfl ?_
        refine a_goto 13 dX9_firstFault_40 (by decide) ?_
        exact ih (p + 1) _ _ _ (by omega) (nI_1 p) hs2 ((if_neg c_31).symm.trans hX) (fr_trans hfr hf2 (fun _ q => q))
      · refine a_iload 36 dX9_firstFault_34 rfl rfl ?_
        exact a_ireturn dX9_firstFault_36 rfl rfl (Nat.le_of_ble_eq_true rfl) (Nat.le_of_ble_eq_true rfl) (by rw [if_pos c_31] at hX; exact ⟨nu0, to0, hnt, by rw [← hX]; rfl, by rw [← hX]; exact hs2, fr_trans hfr hf2 (fun _ q => q)⟩)
  refine rM_start (by decide) (Nat.le_of_ble_eq_true rfl) ?_
  refine a_aload_n 1 dX9_firstFault_0 rfl rfl ?_
  refine a_callU ok_X6_begin cu_X9_9_X6 rfl 4 dX9_firstFault_1 rfl (k_X6_begin hs) (by repeat (first | assumption | (refine rg_ne (by first | decide | omega) ?_) | apply rg_eq | refine rg_fr (by assumption) (by first | decide | (simp; omega)) ?_)) rfl rfl rfl ⟨(Nat.le_of_ble_eq_true rfl), (Nat.le_of_ble_eq_true rfl)⟩ (Nat.le_of_ble_eq_true rfl) ⟨(Nat.le_of_ble_eq_true rfl), (Nat.le_of_ble_eq_true rfl)⟩ ?_
  rintro h2 _ ⟨rfl, ⟨nu, to, hs2, hnt⟩, hf2⟩
  refine a_aload_n 5 dX9_firstFault_4 rfl rfl ?_
  refine a_ifnonnull 10 dX9_firstFault_5 (by decide) ?_
  refine a_iconst (0) 11 dX9_firstFault_10 rfl (by decide) ?_
  refine a_istore 13 dX9_firstFault_11 rfl (by decide) ?_
  exact L nu to hnt N 0 _ _ _ (by omega) rfl hs2 rfl hf2
end TEXT
