/-! THE MODEL: blinds -/
def gnF (C : CarT) (p : Nat) : Nat := (firstN (fun g => frP C g && decide (rkP C g = p)) 64 0).getD 0
theorem cnt_ex {P : Nat → Bool} {p : Nat} : ∀ {n : Nat}, p < cntB P n → ∃ g, g < n ∧ P g = true ∧ cntB P g = p
  | 0, h => absurd h (Nat.not_lt_zero _)
  | n + 1, h => by
    rw [cntB] at h
    by_cases e : p < cntB P n
    · obtain ⟨g, h1, h2⟩ := cnt_ex e
      exact ⟨g, by omega, h2⟩
    · by_cases hp : P n = true
      · rw [if_pos hp] at h
        exact ⟨n, by omega, hp, by omega⟩
      · rw [if_neg hp] at h; omega
theorem gnF_ok {C : CarT} {p : Nat} (h : p < rkP C 64) : gnF C p < 64 ∧ frP C (gnF C p) = true ∧ rkP C (gnF C p) = p := by
  obtain ⟨g, h1, h2, h3⟩ := cnt_ex h
  unfold gnF
  cases e : firstN (fun g => frP C g && decide (rkP C g = p)) 64 0 with
  | none =>
    have := firstN_no e g (Nat.zero_le _) (by omega)
    rw [h2, decide_eq_true h3] at this; cases this
  | some y =>
    obtain ⟨-, b, c, -⟩ := firstN_spec e
    have c2 : (frP C y && decide (rkP C y = p)) = true := c
    rw [Bool.and_eq_true] at c2
    exact ⟨by simpa using b, c2.1, of_decide_eq_true c2.2⟩
theorem spr_le {T : Tn} (o : T.ok) {z : Nat} (hz : z < T.nl) : sprT T z ≤ 144000 := by
  have hm := o.m12
  have h1 : ∀ x, x < T.m → sumN (fun y => mz T z x y) T.m ≤ 12 * 1000 := fun x _ =>
    Nat.le_trans (sumN_le (b := 1000) T.m (fun y _ => by unfold mz; split; exact Nat.zero_le _; exact Nat.le_of_lt (mi_lt o hz))) (Nat.mul_le_mul hm (Nat.le_refl _))
  exact Nat.le_trans (sumN_le (b := 12 * 1000) T.m h1) (Nat.mul_le_mul hm (Nat.le_refl _))
/-- a search that has found -/
def bGood (fr0 : Nat) (s : bst) : Prop := ¬ s.1 < 0 ∧ ∃ p0 p1 p2, p0 < fr0 ∧ p1 < fr0 ∧ p2 < fr0 ∧ s.2 = (nI p0, nI p1, nI p2)
theorem lookI_good {v : Int32} {s : bst} {fr0 a b c : Nat} (hv : ¬ v < 0) (h : s.1 < 0 ∨ bGood fr0 s) (ha : a < fr0) (hb : b < fr0) (hc : c < fr0) : bGood fr0 (lookI v s a b c) := by
  unfold lookI
  split
  · exact ⟨hv, a, b, c, ha, hb, hc, rfl⟩
  · rename_i hn
    rcases h with h | h
    · exact absurd (Or.inl h) hn
    · exact h
theorem lk3_good {cost : Nat → Nat → Nat → Int32} {fr0 a b : Nat} (hv : ∀ a b c, a < fr0 → b < fr0 → c < fr0 → ¬ cost a b c < 0) (ha : a < fr0) (hb : b < fr0) : ∀ (r c : Nat) (s : bst), c + r ≤ fr0 → (s.1 < 0 ∨ bGood fr0 s) → (bGood fr0 s ∨ 0 < r) → bGood fr0 (lk3 cost a b r c s)
  | 0, _, s, _, _, h => by
    rcases h with h | h
    · exact h
    · exact absurd h (by omega)
  | r + 1, c, s, hc, h, _ => by
    rw [lk3]
    have g := lookI_good (hv a b c ha hb (by omega)) h ha hb (show c < fr0 by omega)
    exact lk3_good hv ha hb r (c + 1) _ (by omega) (Or.inr g) (Or.inl g)
theorem lk2_good {cost : Nat → Nat → Nat → Int32} {fr0 many a : Nat} (hv : ∀ a b c, a < fr0 → b < fr0 → c < fr0 → ¬ cost a b c < 0) (ha : a < fr0) : ∀ (r b : Nat) (s : bst), b + r ≤ fr0 → (s.1 < 0 ∨ bGood fr0 s) → (bGood fr0 s ∨ (0 < r ∧ (2 < many → b + 1 < fr0))) → bGood fr0 (lk2 cost many fr0 a r b s)
  | 0, _, s, _, _, h => by
    rcases h with h | h
    · exact h
    · exact absurd h.1 (by omega)
  | r + 1, b, s, hb, h, h2 => by
    rw [lk2]
    have g : bGood fr0 (lk3 cost a b (if 2 < many then fr0 - (b + 1) else 1) (if 2 < many then b + 1 else b) s) := by
      refine lk3_good hv ha (show b < fr0 by omega) _ _ s (by split <;> omega) h ?_
      rcases h2 with h2 | h2
      · exact Or.inl h2
      · refine Or.inr ?_
        split
        · rename_i u; have := h2.2 u; omega
        · omega
    exact lk2_good hv ha r (b + 1) _ (by omega) (Or.inr g) (Or.inl g)
theorem lk1_good {cost : Nat → Nat → Nat → Int32} {fr0 many : Nat} (hv : ∀ a b c, a < fr0 → b < fr0 → c < fr0 → ¬ cost a b c < 0) : ∀ (r a : Nat) (s : bst), a + r ≤ fr0 → (s.1 < 0 ∨ bGood fr0 s) → (bGood fr0 s ∨ (0 < r ∧ a + many ≤ fr0 ∧ many ≤ 3)) → bGood fr0 (lk1 cost many fr0 r a s)
  | 0, _, s, _, _, h => by
    rcases h with h | h
    · exact h
    · exact absurd h.1 (by omega)
  | r + 1, a, s, ha, h, h2 => by
    rw [lk1]
    have g : bGood fr0 (lk2 cost many fr0 a (if 1 < many then fr0 - (a + 1) else 1) (if 1 < many then a + 1 else a) s) := by
      refine lk2_good hv (show a < fr0 by omega) _ _ s (by split <;> omega) h ?_
      rcases h2 with h2 | h2
      · exact Or.inl h2
      · refine Or.inr ⟨?_, fun u => ?_⟩
        · split <;> omega
        · rw [if_pos (by omega)]; omega
    exact lk1_good hv r (a + 1) _ (by omega) (Or.inr g) (Or.inl g)
abbrev cmpB (s : bst) (j : Nat) : Int32 := if j = 0 then s.2.1 else if j = 1 then s.2.2.1 else s.2.2.2
/-- the gap's two seats as one number -/
abbrev gapV (wi g : Nat) : Int32 := nI (100 * (g / 2) + othN wi g)
def mBlR (T : Tn) (z k : Nat) (q v : Int32) : Prop := ∃ f0 f1 f2 : Int32, (q = -1 → v = (lk1 (cosG T z (gnF T.1)) (min k (rkP T.1 64)) (rkP T.1 64) (rkP T.1 64) 0 (-1, f0, f1, f2)).1) ∧ ∀ t, t < 3 → q = nI t → (t < min k (rkP T.1 64) → ∃ p, p < rkP T.1 64 ∧ cmpB (lk1 (cosG T z (gnF T.1)) (min k (rkP T.1 64)) (rkP T.1 64) (rkP T.1 64) 0 (-1, f0, f1, f2)) t = nI p ∧ v = gapV T.wi (gnF T.1 p)) ∧ (min k (rkP T.1 64) ≤ t → v = -9)
def mBl (T : Tn) (c k q v : Int32) : Prop := match oT T.nl c with
  | none => v = -1
  | some z => if 1 ≤ k ∧ k ≤ 3 then (if -1 ≤ q ∧ q ≤ 2 then (if rkP T.1 64 = 0 then v = -3 else mBlR T z k.toNatClampNeg q v) else v = -1) else v = -2
section MBLINDS
variable {l : Launch} {G : rG} {h : rH} {T : Tn}
theorem in13 (c : Int32) : ((1 : Int64) ≤ c.toInt64 ∧ c.toInt64 ≤ 3) ↔ (1 ≤ c ∧ c ≤ 3) := by
  rw [Int64.le_iff_toInt_le, Int64.le_iff_toInt_le, Int32.toInt_toInt64, i_le, i_le]; exact Iff.rfl
theorem inm2 (c : Int32) : ((-1 : Int64) ≤ c.toInt64 ∧ c.toInt64 ≤ 2) ↔ (-1 ≤ c ∧ c ≤ 2) := by
  rw [Int64.le_iff_toInt_le, Int64.le_iff_toInt_le, Int32.toInt_toInt64, i_le, i_le]; exact Iff.rfl
theorem gn_all {ga gb : Nat → Int32} (hgl : glI T.1 64 ga gb) : gnOk T (rkP T.1 64) (gnF T.1) ga gb := fun p hp => by
  obtain ⟨h1, h2, h3⟩ := gnF_ok hp
  have h4 := hgl _ h1 h2
  rw [h3] at h4
  exact ⟨h1, h2, h4⟩
theorem cmp_at {fr0 : Nat} {S : bst} {v : Int32} {f : Nat → Int32} (hg : bGood fr0 S) (hs : (v, f 0, f 1, f 2) = S) {t : Nat} (ht : t < 3) : ∃ p, p < fr0 ∧ f t = nI p ∧ cmpB S t = nI p := by
  subst hs
  obtain ⟨-, p0, p1, p2, h0, h1, h2, e⟩ := hg
  have e0 : f 0 = nI p0 := congrArg (fun s => s.1) e
  have e1 : f 1 = nI p1 := congrArg (fun s => s.2.1) e
  have e2 : f 2 = nI p2 := congrArg (fun s => s.2.2) e
  rcases (show t = 0 ∨ t = 1 ∨ t = 2 by omega) with u | u | u
  · subst u; exact ⟨p0, h0, e0, e0⟩
  · subst u; exact ⟨p1, h1, e1, e1⟩
  · subst u; exact ⟨p2, h2, e2, e2⟩
theorem gv_eq {wi g : Nat} : (100 : Int32) * nI (g / 2) + nI (othN wi g) = gapV wi g := by
  rw [show (100 : Int32) = nI 100 from rfl, pk_mul, nI_add]
set_option maxRecDepth 100000 in
set_option maxHeartbeats 400000 in
theorem m_blinds (q0 : mAll G h T) (o : T.ok) (c k q : Int32) : rM l G 12 mX12_blinds 0 0 [.ref (gN G + 38), .int c, .int k, .int q] h (fun h' v => ∃ a, v = some (.int a) ∧ mBl T c k q a ∧ mAll G h' T ∧ kp h h' mL) := by
  obtain ⟨i, j, q1⟩ := q0
  have hm := q1.at
  have hnl := o.nl6
  rcases oT_cases (n := T.nl) (by omega) c with ⟨e1, hc⟩ | ⟨z, hz, rfl, e1⟩
  · have ea : mBl T c k q (-1) := by unfold mBl; rw [e1]
    refine rM_start (by decide) (Nat.le_of_ble_eq_true rfl) ?_
    refine a_aload_n 1 dX12_blinds_0 rfl rfl ?_
    refine a_iload_n 2 dX12_blinds_1 rfl rfl ?_
    refine a_callV ok_X12_noLaw ln_X12_218 in_X12_noLaw rfl 5 dX12_blinds_2 rfl (m_noLaw q1 c) (by repeat (first | assumption | (refine rg_ne (by first | decide | omega) ?_) | apply rg_eq | refine rg_fr (by assumption) (by first | decide | (simp; omega)) ?_)) rfl rfl rfl ⟨(Nat.le_of_ble_eq_true rfl), (Nat.le_of_ble_eq_true rfl)⟩ (Nat.le_of_ble_eq_true rfl) ⟨(Nat.le_of_ble_eq_true rfl), (Nat.le_of_ble_eq_true rfl)⟩ ?_
    rintro _ _ ⟨rfl, rfl⟩
    refine a_if_eq 10 8 dX12_blinds_5 rfl (by decide) (fun c_5 => absurd c_5 (by rw [if_neg hc]; decide)) (fun c_5 => ?_)
    refine a_iconst (-1) 9 dX12_blinds_8 rfl (by decide) ?_
    exact a_ireturn dX12_blinds_9 rfl rfl (Nat.le_of_ble_eq_true rfl) (Nat.le_of_ble_eq_true rfl) ⟨_, rfl, ea, ⟨i, j, q1⟩, fun _ _ _ => rfl⟩
  have eB : ∀ v, mBl T (nI z) k q v = if 1 ≤ k ∧ k ≤ 3 then (if -1 ≤ q ∧ q ≤ 2 then (if rkP T.1 64 = 0 then v = -3 else mBlR T z k.toNatClampNeg q v) else v = -1) else v = -2 := fun v => by unfold mBl; rw [e1]
  by_cases hk : 1 ≤ k ∧ k ≤ 3
  · have hk1 : ¬ (if (1 : Int64) ≤ k.toInt64 ∧ k.toInt64 ≤ 3 then (1 : Int32) else 0) = 0 := fun u => b_eq0.mp u ((in13 k).mpr hk)
    by_cases hq : -1 ≤ q ∧ q ≤ 2
    · have hq1 : ¬ (if (-1 : Int64) ≤ q.toInt64 ∧ q.toInt64 ≤ 2 then (1 : Int32) else 0) = 0 := fun u => b_eq0.mp u ((inm2 q).mpr hq)
      obtain ⟨kk, hkk, ek⟩ := nI_of2 (M := 3) (n := 3) (x := k) rfl (fun u => by
        have h1 := i_le.mp hk.1; have h2 := i_lt.mp u
        have e1 : (1 : Int32).toInt = 1 := rfl
        have e0 : (0 : Int32).toInt = 0 := rfl
        omega) hk.2
      subst ek
      have hkk1 : 1 ≤ kk := by
        have u : nI 1 ≤ nI kk := hk.1
        rwa [nI_leI (by omega) (by omega)] at u
      by_cases hf0 : rkP T.1 64 = 0
      · have ea : mBl T (nI z) (nI kk) q (-3) := by rw [eB, if_pos hk, if_pos hq, if_pos hf0]
        refine rM_start (by decide) (Nat.le_of_ble_eq_true rfl) ?_
        refine a_aload_n 1 dX12_blinds_0 rfl rfl ?_
        refine a_iload_n 2 dX12_blinds_1 rfl rfl ?_
        refine a_callV ok_X12_noLaw ln_X12_218 in_X12_noLaw rfl 5 dX12_blinds_2 rfl (m_noLaw q1 (nI z)) (by repeat (first | assumption | (refine rg_ne (by first | decide | omega) ?_) | apply rg_eq | refine rg_fr (by assumption) (by first | decide | (simp; omega)) ?_)) rfl rfl rfl ⟨(Nat.le_of_ble_eq_true rfl), (Nat.le_of_ble_eq_true rfl)⟩ (Nat.le_of_ble_eq_true rfl) ⟨(Nat.le_of_ble_eq_true rfl), (Nat.le_of_ble_eq_true rfl)⟩ ?_
        rintro _ _ ⟨rfl, rfl⟩
        refine a_if_eq 10 8 dX12_blinds_5 rfl (by decide) (fun c_5 => ?_) (fun c_5 => absurd (if_pos (oT_yes hz (by omega))) c_5)
        refine a_iload_n 11 dX12_blinds_10 rfl rfl ?_
        refine a_i2l 12 dX12_blinds_11 rfl ?_
        refine a_lconst (1) 13 dX12_blinds_12 rfl (by decide) ?_
        refine a_ldc2 (3) 16 dX12_blinds_13 rfl lk_X12_297 ?_
        refine a_callS ok_X12_in ln_X12_97 is_X12_in rfl 19 dX12_blinds_16 rfl (k_X12_in _ _ _) rfl rfl ⟨(Nat.le_of_ble_eq_true rfl), (Nat.le_of_ble_eq_true rfl)⟩ (Nat.le_of_ble_eq_true rfl) ⟨(Nat.le_of_ble_eq_true rfl), (Nat.le_of_ble_eq_true rfl)⟩ ?_
        rintro _ _ ⟨rfl, rfl⟩
        refine a_if_ne 25 22 dX12_blinds_19 rfl (by decide) (fun c_19 => ?_) (fun c_19 => absurd c_19 hk1)
        refine a_iload_n 26 dX12_blinds_25 rfl rfl ?_
        refine a_i2l 27 dX12_blinds_26 rfl ?_
        refine a_ldc2 (-1) 30 dX12_blinds_27 rfl lk_X12_299 ?_
        refine a_ldc2 (2) 33 dX12_blinds_30 rfl lk_X12_95 ?_
        refine a_callS ok_X12_in ln_X12_97 is_X12_in rfl 36 dX12_blinds_33 rfl (k_X12_in _ _ _) rfl rfl ⟨(Nat.le_of_ble_eq_true rfl), (Nat.le_of_ble_eq_true rfl)⟩ (Nat.le_of_ble_eq_true rfl) ⟨(Nat.le_of_ble_eq_true rfl), (Nat.le_of_ble_eq_true rfl)⟩ ?_
        rintro _ _ ⟨rfl, rfl⟩
        refine a_if_ne 41 39 dX12_blinds_36 rfl (by decide) (fun c_36 => ?_) (fun c_36 => absurd c_36 hq1)
        refine a_aload_n 42 dX12_blinds_41 rfl rfl ?_
        refine a_callV ok_X12_layGaps ln_X12_301 in_X12_layGaps rfl 45 dX12_blinds_42 rfl (m_layGaps q1 o) (by repeat (first | assumption | (refine rg_ne (by first | decide | omega) ?_) | apply rg_eq | refine rg_fr (by assumption) (by first | decide | (simp; omega)) ?_)) rfl rfl rfl ⟨(Nat.le_of_ble_eq_true rfl), (Nat.le_of_ble_eq_true rfl)⟩ (Nat.le_of_ble_eq_true rfl) ⟨(Nat.le_of_ble_eq_true rfl), (Nat.le_of_ble_eq_true rfl)⟩ ?_
        rintro h2 v ⟨rfl, i2, ga, gb, q2, s2, g27, h54, h55, hgl, f2⟩
        have m2 := q2.at
        refine a_aload_n 46 dX12_blinds_45 rfl rfl ?_
        refine a_get fd_X12_280 rfl 49 dX12_blinds_46 rfl (by repeat (first | assumption | (refine rg_ne (by first | decide | omega) ?_) | apply rg_eq | refine rg_fr (by assumption) (by first | decide | (simp; omega)) ?_)) rfl ?_
        rw [g27, hf0]
        refine a_if_ne 55 52 dX12_blinds_49 rfl (by decide) (fun c_49 => absurd rfl c_49) (fun c_49 => ?_)
        refine a_bipush (-3) 54 dX12_blinds_52 rfl (by decide) ?_
        exact a_ireturn dX12_blinds_54 rfl rfl (Nat.le_of_ble_eq_true rfl) (Nat.le_of_ble_eq_true rfl) ⟨_, rfl, ea, ⟨i2, j, q2⟩, kpm f2 (by decide)⟩
      · have hfr := rk_52 o.1 (g := 64) (Nat.le_refl _)
        have hfne : ¬ nI (rkP T.1 64) = 0 := nI_ne0 (Nat.pos_of_ne_zero hf0) (by omega)
        obtain ⟨-, -, -, -, -, ⟨f, p56⟩, -⟩ := id q1.2.2.2.2.2.1
        have hgood : ∀ f0 f1 f2 : Int32, bGood (rkP T.1 64) (lk1 (cosG T z (gnF T.1)) (min kk (rkP T.1 64)) (rkP T.1 64) (rkP T.1 64) 0 (-1, f0, f1, f2)) := fun f0 f1 f2 => lk1_good (fun a b c ha hb hc => nI_pos (by
          have h1 := gnF_ok ha
          have h2 := gnF_ok hb
          have h3 := gnF_ok hc
          have := spr_le (ok_setB o (isB_upd (isB_upd (isB_upd o.1.2.2.2.1 (Or.inr rfl) (k := gnF T.1 a)) (Or.inr rfl) (k := gnF T.1 b)) (Or.inr rfl) (k := gnF T.1 c))) (z := z) hz
          exact Nat.lt_of_le_of_lt this (by decide))) _ _ _ (by omega) (Or.inl (show (-1 : Int32) < 0 by decide)) (Or.inr ⟨Nat.pos_of_ne_zero hf0, by omega, by omega⟩)
        have hfin : ∀ v, mBlR T z kk q v → mBl T (nI z) (nI kk) q v := fun v u => by rw [eB, if_pos hk, if_pos hq, if_neg hf0, nI_clamp (by omega)]; exact u
        by_cases hqm : q = -1
        · subst hqm
          refine rM_start (by decide) (Nat.le_of_ble_eq_true rfl) ?_
          refine a_aload_n 1 dX12_blinds_0 rfl rfl ?_
          refine a_iload_n 2 dX12_blinds_1 rfl rfl ?_
          refine a_callV ok_X12_noLaw ln_X12_218 in_X12_noLaw rfl 5 dX12_blinds_2 rfl (m_noLaw q1 (nI z)) (by repeat (first | assumption | (refine rg_ne (by first | decide | omega) ?_) | apply rg_eq | refine rg_fr (by assumption) (by first | decide | (simp; omega)) ?_)) rfl rfl rfl ⟨(Nat.le_of_ble_eq_true rfl), (Nat.le_of_ble_eq_true rfl)⟩ (Nat.le_of_ble_eq_true rfl) ⟨(Nat.le_of_ble_eq_true rfl), (Nat.le_of_ble_eq_true rfl)⟩ ?_
          rintro _ _ ⟨rfl, rfl⟩
          refine a_if_eq 10 8 dX12_blinds_5 rfl (by decide) (fun c_5 => ?_) (fun c_5 => absurd (if_pos (oT_yes hz (by omega))) c_5)
          refine a_iload_n 11 dX12_blinds_10 rfl rfl ?_
          refine a_i2l 12 dX12_blinds_11 rfl ?_
          refine a_lconst (1) 13 dX12_blinds_12 rfl (by decide) ?_
          refine a_ldc2 (3) 16 dX12_blinds_13 rfl lk_X12_297 ?_
          refine a_callS ok_X12_in ln_X12_97 is_X12_in rfl 19 dX12_blinds_16 rfl (k_X12_in _ _ _) rfl rfl ⟨(Nat.le_of_ble_eq_true rfl), (Nat.le_of_ble_eq_true rfl)⟩ (Nat.le_of_ble_eq_true rfl) ⟨(Nat.le_of_ble_eq_true rfl), (Nat.le_of_ble_eq_true rfl)⟩ ?_
          rintro _ _ ⟨rfl, rfl⟩
          refine a_if_ne 25 22 dX12_blinds_19 rfl (by decide) (fun c_19 => ?_) (fun c_19 => absurd c_19 hk1)
          refine a_iload_n 26 dX12_blinds_25 rfl rfl ?_
          refine a_i2l 27 dX12_blinds_26 rfl ?_
          refine a_ldc2 (-1) 30 dX12_blinds_27 rfl lk_X12_299 ?_
          refine a_ldc2 (2) 33 dX12_blinds_30 rfl lk_X12_95 ?_
          refine a_callS ok_X12_in ln_X12_97 is_X12_in rfl 36 dX12_blinds_33 rfl (k_X12_in _ _ _) rfl rfl ⟨(Nat.le_of_ble_eq_true rfl), (Nat.le_of_ble_eq_true rfl)⟩ (Nat.le_of_ble_eq_true rfl) ⟨(Nat.le_of_ble_eq_true rfl), (Nat.le_of_ble_eq_true rfl)⟩ ?_
          rintro _ _ ⟨rfl, rfl⟩
          refine a_if_ne 41 39 dX12_blinds_36 rfl (by decide) (fun c_36 => ?_) (fun c_36 => absurd c_36 hq1)
          refine a_aload_n 42 dX12_blinds_41 rfl rfl ?_
          refine a_callV ok_X12_layGaps ln_X12_301 in_X12_layGaps rfl 45 dX12_blinds_42 rfl (m_layGaps q1 o) (by repeat (first | assumption | (refine rg_ne (by first | decide | omega) ?_) | apply rg_eq | refine rg_fr (by assumption) (by first | decide | (simp; omega)) ?_)) rfl rfl rfl ⟨(Nat.le_of_ble_eq_true rfl), (Nat.le_of_ble_eq_true rfl)⟩ (Nat.le_of_ble_eq_true rfl) ⟨(Nat.le_of_ble_eq_true rfl), (Nat.le_of_ble_eq_true rfl)⟩ ?_
          rintro h2 v ⟨rfl, i2, ga, gb, q2, s2, g27, h54, h55, hgl, f2⟩
          have m2 := q2.at
          refine a_aload_n 46 dX12_blinds_45 rfl rfl ?_
          refine a_get fd_X12_280 rfl 49 dX12_blinds_46 rfl (by repeat (first | assumption | (refine rg_ne (by first | decide | omega) ?_) | apply rg_eq | refine rg_fr (by assumption) (by first | decide | (simp; omega)) ?_)) rfl ?_
          rw [g27]
          refine a_if_ne 55 52 dX12_blinds_49 rfl (by decide) (fun c_49 => ?_) (fun c_49 => absurd c_49 hfne)
          refine a_aload_n 56 dX12_blinds_55 rfl rfl ?_
          refine a_iload_n 57 dX12_blinds_56 rfl rfl ?_
          refine a_iload_n 58 dX12_blinds_57 rfl rfl ?_
          refine a_callV ok_X12_layBlinds ln_X12_304 in_X12_layBlinds rfl 61 dX12_blinds_58 rfl (m_layBlinds q2 o hz hfr (gn_all hgl) g27 h54 h55 (rg_fr f2 (by decide) p56) hkk) (by repeat (first | assumption | (refine rg_ne (by first | decide | omega) ?_) | apply rg_eq | refine rg_fr (by assumption) (by first | decide | (simp; omega)) ?_)) rfl rfl rfl ⟨(Nat.le_of_ble_eq_true rfl), (Nat.le_of_ble_eq_true rfl)⟩ (Nat.le_of_ble_eq_true rfl) ⟨(Nat.le_of_ble_eq_true rfl), (Nat.le_of_ble_eq_true rfl)⟩ ?_
          rintro h3 v ⟨rfl, i3, f3, q3, s3, x27, x31, x54, x55, x56, F3, hs⟩
          have m3 := q3.at
          refine a_iload_n 62 dX12_blinds_61 rfl rfl ?_
          refine a_if_ge 70 65 dX12_blinds_62 rfl (by decide) (fun c_62 => absurd c_62 (by decide)) (fun c_62 => ?_)
          refine a_aload_n 66 dX12_blinds_65 rfl rfl ?_
          refine a_get fd_X12_287 rfl 69 dX12_blinds_66 rfl (by repeat (first | assumption | (refine rg_ne (by first | decide | omega) ?_) | apply rg_eq | refine rg_fr (by assumption) (by first | decide | (simp; omega)) ?_)) rfl ?_
          exact a_ireturn dX12_blinds_69 rfl rfl (Nat.le_of_ble_eq_true rfl) (Nat.le_of_ble_eq_true rfl) ⟨_, rfl, hfin _ ⟨f 0, f 1, f 2, fun _ => congrArg (fun s => s.1) hs, fun t ht e => absurd e.symm (nI_ne_m1 ht)⟩, ⟨i3, j, q3⟩, kpm (fr_trans (fr_mono f2 (T := [38, 40, 41, 44, 54, 55, 56]) (by decide)) F3 (by decide)) (by decide)⟩
        · obtain ⟨t, ht, rfl⟩ := q_N hq hqm
          have vt : vp_in (nI t) 3 := vp_in_nI ht (by decide)
          have ct : (nI t).toNatClampNeg = t := nI_clamp (by omega)
          have hnm : ¬ nI t = -1 := nI_ne_m1 ht
          refine rM_start (by decide) (Nat.le_of_ble_eq_true rfl) ?_
          refine a_aload_n 1 dX12_blinds_0 rfl rfl ?_
          refine a_iload_n 2 dX12_blinds_1 rfl rfl ?_
          refine a_callV ok_X12_noLaw ln_X12_218 in_X12_noLaw rfl 5 dX12_blinds_2 rfl (m_noLaw q1 (nI z)) (by repeat (first | assumption | (refine rg_ne (by first | decide | omega) ?_) | apply rg_eq | refine rg_fr (by assumption) (by first | decide | (simp; omega)) ?_)) rfl rfl rfl ⟨(Nat.le_of_ble_eq_true rfl), (Nat.le_of_ble_eq_true rfl)⟩ (Nat.le_of_ble_eq_true rfl) ⟨(Nat.le_of_ble_eq_true rfl), (Nat.le_of_ble_eq_true rfl)⟩ ?_
          rintro _ _ ⟨rfl, rfl⟩
          refine a_if_eq 10 8 dX12_blinds_5 rfl (by decide) (fun c_5 => ?_) (fun c_5 => absurd (if_pos (oT_yes hz (by omega))) c_5)
          refine a_iload_n 11 dX12_blinds_10 rfl rfl ?_
          refine a_i2l 12 dX12_blinds_11 rfl ?_
          refine a_lconst (1) 13 dX12_blinds_12 rfl (by decide) ?_
          refine a_ldc2 (3) 16 dX12_blinds_13 rfl lk_X12_297 ?_
          refine a_callS ok_X12_in ln_X12_97 is_X12_in rfl 19 dX12_blinds_16 rfl (k_X12_in _ _ _) rfl rfl ⟨(Nat.le_of_ble_eq_true rfl), (Nat.le_of_ble_eq_true rfl)⟩ (Nat.le_of_ble_eq_true rfl) ⟨(Nat.le_of_ble_eq_true rfl), (Nat.le_of_ble_eq_true rfl)⟩ ?_
          rintro _ _ ⟨rfl, rfl⟩
          refine a_if_ne 25 22 dX12_blinds_19 rfl (by decide) (fun c_19 => ?_) (fun c_19 => absurd c_19 hk1)
          refine a_iload_n 26 dX12_blinds_25 rfl rfl ?_
          refine a_i2l 27 dX12_blinds_26 rfl ?_
          refine a_ldc2 (-1) 30 dX12_blinds_27 rfl lk_X12_299 ?_
          refine a_ldc2 (2) 33 dX12_blinds_30 rfl lk_X12_95 ?_
          refine a_callS ok_X12_in ln_X12_97 is_X12_in rfl 36 dX12_blinds_33 rfl (k_X12_in _ _ _) rfl rfl ⟨(Nat.le_of_ble_eq_true rfl), (Nat.le_of_ble_eq_true rfl)⟩ (Nat.le_of_ble_eq_true rfl) ⟨(Nat.le_of_ble_eq_true rfl), (Nat.le_of_ble_eq_true rfl)⟩ ?_
          rintro _ _ ⟨rfl, rfl⟩
          refine a_if_ne 41 39 dX12_blinds_36 rfl (by decide) (fun c_36 => ?_) (fun c_36 => absurd c_36 hq1)
          refine a_aload_n 42 dX12_blinds_41 rfl rfl ?_
          refine a_callV ok_X12_layGaps ln_X12_301 in_X12_layGaps rfl 45 dX12_blinds_42 rfl (m_layGaps q1 o) (by repeat (first | assumption | (refine rg_ne (by first | decide | omega) ?_) | apply rg_eq | refine rg_fr (by assumption) (by first | decide | (simp; omega)) ?_)) rfl rfl rfl ⟨(Nat.le_of_ble_eq_true rfl), (Nat.le_of_ble_eq_true rfl)⟩ (Nat.le_of_ble_eq_true rfl) ⟨(Nat.le_of_ble_eq_true rfl), (Nat.le_of_ble_eq_true rfl)⟩ ?_
          rintro h2 v ⟨rfl, i2, ga, gb, q2, s2, g27, h54, h55, hgl, f2⟩
          have m2 := q2.at
          refine a_aload_n 46 dX12_blinds_45 rfl rfl ?_
          refine a_get fd_X12_280 rfl 49 dX12_blinds_46 rfl (by repeat (first | assumption | (refine rg_ne (by first | decide | omega) ?_) | apply rg_eq | refine rg_fr (by assumption) (by first | decide | (simp; omega)) ?_)) rfl ?_
          rw [g27]
          refine a_if_ne 55 52 dX12_blinds_49 rfl (by decide) (fun c_49 => ?_) (fun c_49 => absurd c_49 hfne)
          refine a_aload_n 56 dX12_blinds_55 rfl rfl ?_
          refine a_iload_n 57 dX12_blinds_56 rfl rfl ?_
          refine a_iload_n 58 dX12_blinds_57 rfl rfl ?_
          refine a_callV ok_X12_layBlinds ln_X12_304 in_X12_layBlinds rfl 61 dX12_blinds_58 rfl (m_layBlinds q2 o hz hfr (gn_all hgl) g27 h54 h55 (rg_fr f2 (by decide) p56) hkk) (by repeat (first | assumption | (refine rg_ne (by first | decide | omega) ?_) | apply rg_eq | refine rg_fr (by assumption) (by first | decide | (simp; omega)) ?_)) rfl rfl rfl ⟨(Nat.le_of_ble_eq_true rfl), (Nat.le_of_ble_eq_true rfl)⟩ (Nat.le_of_ble_eq_true rfl) ⟨(Nat.le_of_ble_eq_true rfl), (Nat.le_of_ble_eq_true rfl)⟩ ?_
          rintro h3 v ⟨rfl, i3, f3, q3, s3, x27, x31, x54, x55, x56, F3, hs⟩
          have m3 := q3.at
          obtain ⟨p, hp, hfp, hcp⟩ := cmp_at (hgood (f 0) (f 1) (f 2)) hs ht
          obtain ⟨-, -, gp1, gp2⟩ := gn_all hgl p hp
          have vp : vp_in (nI p) 64 := vp_in_nI (by omega) (by decide)
          have cp : (nI p).toNatClampNeg = p := nI_clamp (by omega)
          refine a_iload_n 62 dX12_blinds_61 rfl rfl ?_
          refine a_if_ge 70 65 dX12_blinds_62 rfl (by decide) (fun c_62 => ?_) (fun c_62 => absurd (nI_pos' (by omega)) c_62)
          refine a_iload_n 71 dX12_blinds_70 rfl rfl ?_
          refine a_aload_n 72 dX12_blinds_71 rfl rfl ?_
          refine a_get fd_X12_290 rfl 75 dX12_blinds_72 rfl (by repeat (first | assumption | (refine rg_ne (by first | decide | omega) ?_) | apply rg_eq | refine rg_fr (by assumption) (by first | decide | (simp; omega)) ?_)) rfl ?_
          rw [x31]
          refine a_icmp_ge 107 78 dX12_blinds_75 rfl (by decide) (fun c_75 => ?_) (fun c_75 => ?_)
          · refine a_bipush (-9) 109 dX12_blinds_107 rfl (by decide) ?_
            exact a_ireturn dX12_blinds_109 rfl rfl (Nat.le_of_ble_eq_true rfl) (Nat.le_of_ble_eq_true rfl) ⟨_, rfl, hfin _ ⟨f 0, f 1, f 2, fun e => absurd e hnm, fun t2 ht2 e => by rw [(nI_eq (by omega) (by omega)).mp e.symm]; exact ⟨fun u => absurd c_75 (nI_ge u (by omega)), fun _ => rfl⟩⟩, ⟨i3, j, q3⟩, kpm (fr_trans (fr_mono f2 (T := [38, 40, 41, 44, 54, 55, 56]) (by decide)) F3 (by decide)) (by decide)⟩
          · refine a_bipush (100) 80 dX12_blinds_78 rfl (by decide) ?_
            refine a_aload_n 81 dX12_blinds_80 rfl rfl ?_
            refine a_get fd_X12_56 rfl 84 dX12_blinds_81 rfl (by repeat (first | assumption | (refine rg_ne (by first | decide | omega) ?_) | apply rg_eq | refine rg_fr (by assumption) (by first | decide | (simp; omega)) ?_)) rfl ?_
            refine a_aload_n 85 dX12_blinds_84 rfl rfl ?_
            refine a_get fd_X12_62 rfl 88 dX12_blinds_85 rfl (by repeat (first | assumption | (refine rg_ne (by first | decide | omega) ?_) | apply rg_eq | refine rg_fr (by assumption) (by first | decide | (simp; omega)) ?_)) rfl ?_
            refine a_iload_n 89 dX12_blinds_88 rfl rfl ?_
            refine a_iaload 90 dX12_blinds_89 rfl (by repeat (first | assumption | (refine rg_ne (by first | decide | omega) ?_) | apply rg_eq | refine rg_fr (by assumption) (by first | decide | (simp; omega)) ?_)) vt ?_
            rw [ct, hfp]
            refine a_iaload 91 dX12_blinds_90 rfl (by repeat (first | assumption | (refine rg_ne (by first | decide | omega) ?_) | apply rg_eq | refine rg_fr (by assumption) (by first | decide | (simp; omega)) ?_)) vp ?_
            rw [cp, gp1]
            refine a_imul 92 dX12_blinds_91 rfl ?_
            refine a_aload_n 93 dX12_blinds_92 rfl rfl ?_
            refine a_get fd_X12_59 rfl 96 dX12_blinds_93 rfl (by repeat (first | assumption | (refine rg_ne (by first | decide | omega) ?_) | apply rg_eq | refine rg_fr (by assumption) (by first | decide | (simp; omega)) ?_)) rfl ?_
            refine a_aload_n 97 dX12_blinds_96 rfl rfl ?_
            refine a_get fd_X12_62 rfl 100 dX12_blinds_97 rfl (by repeat (first | assumption | (refine rg_ne (by first | decide | omega) ?_) | apply rg_eq | refine rg_fr (by assumption) (by first | decide | (simp; omega)) ?_)) rfl ?_
            refine a_iload_n 101 dX12_blinds_100 rfl rfl ?_
            refine a_iaload 102 dX12_blinds_101 rfl (by repeat (first | assumption | (refine rg_ne (by first | decide | omega) ?_) | apply rg_eq | refine rg_fr (by assumption) (by first | decide | (simp; omega)) ?_)) vt ?_
            rw [ct, hfp]
            refine a_iaload 103 dX12_blinds_102 rfl (by repeat (first | assumption | (refine rg_ne (by first | decide | omega) ?_) | apply rg_eq | refine rg_fr (by assumption) (by first | decide | (simp; omega)) ?_)) vp ?_
            rw [cp, gp2]
            refine a_iadd 104 dX12_blinds_103 rfl ?_
            rw [gv_eq]
            refine a_goto 109 dX12_blinds_104 (by decide) ?_
            exact a_ireturn dX12_blinds_109 rfl rfl (Nat.le_of_ble_eq_true rfl) (Nat.le_of_ble_eq_true rfl) ⟨_, rfl, hfin _ ⟨f 0, f 1, f 2, fun e => absurd e hnm, fun t2 ht2 e => by rw [(nI_eq (by omega) (by omega)).mp e.symm]; exact ⟨fun _ => ⟨p, hp, hcp, rfl⟩, fun u => absurd (nI_le u (by omega)) c_75⟩⟩, ⟨i3, j, q3⟩, kpm (fr_trans (fr_mono f2 (T := [38, 40, 41, 44, 54, 55, 56]) (by decide)) F3 (by decide)) (by decide)⟩
    · have hq1 : (if (-1 : Int64) ≤ q.toInt64 ∧ q.toInt64 ≤ 2 then (1 : Int32) else 0) = 0 := if_neg (fun u => hq ((inm2 q).mp u))
      have ea : mBl T (nI z) k q (-1) := by rw [eB, if_pos hk, if_neg hq]
      refine rM_start (by decide) (Nat.le_of_ble_eq_true rfl) ?_
      refine a_aload_n 1 dX12_blinds_0 rfl rfl ?_
      refine a_iload_n 2 dX12_blinds_1 rfl rfl ?_
      refine a_callV ok_X12_noLaw ln_X12_218 in_X12_noLaw rfl 5 dX12_blinds_2 rfl (m_noLaw q1 (nI z)) (by repeat (first | assumption | (refine rg_ne (by first | decide | omega) ?_) | apply rg_eq | refine rg_fr (by assumption) (by first | decide | (simp; omega)) ?_)) rfl rfl rfl ⟨(Nat.le_of_ble_eq_true rfl), (Nat.le_of_ble_eq_true rfl)⟩ (Nat.le_of_ble_eq_true rfl) ⟨(Nat.le_of_ble_eq_true rfl), (Nat.le_of_ble_eq_true rfl)⟩ ?_
      rintro _ _ ⟨rfl, rfl⟩
      refine a_if_eq 10 8 dX12_blinds_5 rfl (by decide) (fun c_5 => ?_) (fun c_5 => absurd (if_pos (oT_yes hz (by omega))) c_5)
      refine a_iload_n 11 dX12_blinds_10 rfl rfl ?_
      refine a_i2l 12 dX12_blinds_11 rfl ?_
      refine a_lconst (1) 13 dX12_blinds_12 rfl (by decide) ?_
      refine a_ldc2 (3) 16 dX12_blinds_13 rfl lk_X12_297 ?_
      refine a_callS ok_X12_in ln_X12_97 is_X12_in rfl 19 dX12_blinds_16 rfl (k_X12_in _ _ _) rfl rfl ⟨(Nat.le_of_ble_eq_true rfl), (Nat.le_of_ble_eq_true rfl)⟩ (Nat.le_of_ble_eq_true rfl) ⟨(Nat.le_of_ble_eq_true rfl), (Nat.le_of_ble_eq_true rfl)⟩ ?_
      rintro _ _ ⟨rfl, rfl⟩
      refine a_if_ne 25 22 dX12_blinds_19 rfl (by decide) (fun c_19 => ?_) (fun c_19 => absurd c_19 hk1)
      refine a_iload_n 26 dX12_blinds_25 rfl rfl ?_
      refine a_i2l 27 dX12_blinds_26 rfl ?_
      refine a_ldc2 (-1) 30 dX12_blinds_27 rfl lk_X12_299 ?_
      refine a_ldc2 (2) 33 dX12_blinds_30 rfl lk_X12_95 ?_
      refine a_callS ok_X12_in ln_X12_97 is_X12_in rfl 36 dX12_blinds_33 rfl (k_X12_in _ _ _) rfl rfl ⟨(Nat.le_of_ble_eq_true rfl), (Nat.le_of_ble_eq_true rfl)⟩ (Nat.le_of_ble_eq_true rfl) ⟨(Nat.le_of_ble_eq_true rfl), (Nat.le_of_ble_eq_true rfl)⟩ ?_
      rintro _ _ ⟨rfl, rfl⟩
      refine a_if_ne 41 39 dX12_blinds_36 rfl (by decide) (fun c_36 => absurd hq1 c_36) (fun c_36 => ?_)
      refine a_iconst (-1) 40 dX12_blinds_39 rfl (by decide) ?_
      exact a_ireturn dX12_blinds_40 rfl rfl (Nat.le_of_ble_eq_true rfl) (Nat.le_of_ble_eq_true rfl) ⟨_, rfl, ea, ⟨i, j, q1⟩, fun _ _ _ => rfl⟩
  · have hk1 : (if (1 : Int64) ≤ k.toInt64 ∧ k.toInt64 ≤ 3 then (1 : Int32) else 0) = 0 := if_neg (fun u => hk ((in13 k).mp u))
    have ea : mBl T (nI z) k q (-2) := by rw [eB, if_neg hk]
    refine rM_start (by decide) (Nat.le_of_ble_eq_true rfl) ?_
    refine a_aload_n 1 dX12_blinds_0 rfl rfl ?_
    refine a_iload_n 2 dX12_blinds_1 rfl rfl ?_
    refine a_callV ok_X12_noLaw ln_X12_218 in_X12_noLaw rfl 5 dX12_blinds_2 rfl (m_noLaw q1 (nI z)) (by repeat (first | assumption | (refine rg_ne (by first | decide | omega) ?_) | apply rg_eq | refine rg_fr (by assumption) (by first | decide | (simp; omega)) ?_)) rfl rfl rfl ⟨(Nat.le_of_ble_eq_true rfl), (Nat.le_of_ble_eq_true rfl)⟩ (Nat.le_of_ble_eq_true rfl) ⟨(Nat.le_of_ble_eq_true rfl), (Nat.le_of_ble_eq_true rfl)⟩ ?_
    rintro _ _ ⟨rfl, rfl⟩
    refine a_if_eq 10 8 dX12_blinds_5 rfl (by decide) (fun c_5 => ?_) (fun c_5 => absurd (if_pos (oT_yes hz (by omega))) c_5)
    refine a_iload_n 11 dX12_blinds_10 rfl rfl ?_
    refine a_i2l 12 dX12_blinds_11 rfl ?_
    refine a_lconst (1) 13 dX12_blinds_12 rfl (by decide) ?_
    refine a_ldc2 (3) 16 dX12_blinds_13 rfl lk_X12_297 ?_
    refine a_callS ok_X12_in ln_X12_97 is_X12_in rfl 19 dX12_blinds_16 rfl (k_X12_in _ _ _) rfl rfl ⟨(Nat.le_of_ble_eq_true rfl), (Nat.le_of_ble_eq_true rfl)⟩ (Nat.le_of_ble_eq_true rfl) ⟨(Nat.le_of_ble_eq_true rfl), (Nat.le_of_ble_eq_true rfl)⟩ ?_
    rintro _ _ ⟨rfl, rfl⟩
    refine a_if_ne 25 22 dX12_blinds_19 rfl (by decide) (fun c_19 => absurd hk1 c_19) (fun c_19 => ?_)
    refine a_bipush (-2) 24 dX12_blinds_22 rfl (by decide) ?_
    exact a_ireturn dX12_blinds_24 rfl rfl (Nat.le_of_ble_eq_true rfl) (Nat.le_of_ble_eq_true rfl) ⟨_, rfl, ea, ⟨i, j, q1⟩, fun _ _ _ => rfl⟩
end MBLINDS
