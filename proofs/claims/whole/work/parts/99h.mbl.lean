/-! THE MODEL: the gaps without a blind; blinds hung and taken away -/
abbrev othN (wi g : Nat) : Nat := g / 2 + (if g % 2 = 0 then 1 else wi)
def posN (wi c d : Nat) : Nat := if d ≤ c + 1 then 2 * c else if d ≤ c + wi then 2 * c + 1 else 2 * c + 2
def layB (wi le c d : Nat) : Bool :=
  if hearD wi le c d then decide (posN wi c d ≤ gpN wi c d) && decide (gpN wi c d < posN wi c (d + 1)) && gapOk wi (le * wi) (gpN wi c d) && decide (gpN wi c d / 2 = c) && decide (othN wi (gpN wi c d) = d) && [2 * c, 2 * c + 1].all (fun g => decide (g = gpN wi c d) || !gapOk wi (le * wi) g || decide (g < posN wi c d) || decide (posN wi c (d + 1) ≤ g))
  else [2 * c, 2 * c + 1].all (fun g => !gapOk wi (le * wi) g || decide (g < posN wi c d) || decide (posN wi c (d + 1) ≤ g))
theorem layB_D : ∀ wi, wi < 5 → ∀ le, le < 9 → ∀ c, c < le * wi → ∀ d, d < le * wi → (decide (d ≤ c) || layB wi le c d) = true := by decide +kernel
theorem layN_D : ∀ wi, wi < 5 → ∀ le, le < 9 → ∀ c, c < le * wi → [2 * c, 2 * c + 1].all (fun g => !gapOk wi (le * wi) g || decide (g < posN wi c (le * wi))) = true := by decide +kernel
theorem gp_D : ∀ wi, wi < 5 → ∀ le, le < 9 → ∀ g, g < 64 → (!gapOk wi (le * wi) g || (decide (gpN wi (g / 2) (othN wi g) = g) && decide (othN wi g < le * wi) && decide (g / 2 < le * wi))) = true := by decide +kernel
theorem cnt_skip {P : Nat → Bool} {a : Nat} : ∀ {b : Nat}, a ≤ b → (∀ g, a ≤ g → g < b → P g = false) → cntB P b = cntB P a
  | 0, h, _ => by rw [show a = 0 by omega]
  | b + 1, h, hP => by
    by_cases e : a = b + 1
    · rw [e]
    · rw [cntB, hP b (by omega) (by omega), cnt_skip (a := a) (b := b) (by omega) (fun g h1 h2 => hP g h1 (by omega))]
      rfl
theorem cnt_one {P : Nat → Bool} {a b g0 : Nat} (h1 : a ≤ g0) (h2 : g0 < b) (hP : ∀ g, a ≤ g → g < b → g ≠ g0 → P g = false) : cntB P g0 = cntB P a ∧ cntB P b = cntB P a + if P g0 then 1 else 0 := by
  have e1 : cntB P g0 = cntB P a := cnt_skip h1 (fun g u v => hP g u (by omega) (by omega))
  have e2 : cntB P b = cntB P (g0 + 1) := cnt_skip (by omega) (fun g u v => hP g (by omega) v (by omega))
  exact ⟨e1, by rw [e2, cntB, e1]⟩
def glI (C : CarT) (k : Nat) (ga gb : Nat → Int32) : Prop := ∀ g, g < k → frP C g = true → ga (rkP C g) = nI (g / 2) ∧ gb (rkP C g) = nI (othN C.2.2.1 g)
theorem pos_le {wi c d : Nat} : 2 * c ≤ posN wi c d ∧ posN wi c d ≤ 2 * c + 2 := by unfold posN; split <;> (try split) <;> omega
theorem pos_0 {wi c : Nat} : posN wi c (c + 1) = 2 * c := by unfold posN; rw [if_pos (Nat.le_refl _)]
theorem pos_m {wi c d : Nat} : posN wi c d ≤ posN wi c (d + 1) := by unfold posN; (repeat' split) <;> omega
theorem fr_gok {C : CarT} {g : Nat} (h : gapOk C.2.2.1 (C.2.2.2.1 * C.2.2.1) g = false) : frP C g = false := by show (_ && _) = false; rw [h]; rfl
theorem two_c {c g a b : Nat} (h1 : 2 * c ≤ a) (h2 : b ≤ 2 * c + 2) (h3 : a ≤ g) (h4 : g < b) : g ∈ [2 * c, 2 * c + 1] := by
  simp only [List.mem_cons, List.not_mem_nil, or_false]; omega
/-- a step of the search that finds no gap -/
theorem lay_no {C : CarT} (o : okC C) {c d : Nat} (hd : d < C.2.2.2.1 * C.2.2.1) (hcd : c < d) (hh : hearD C.2.2.1 C.2.2.2.1 c d = false) : rkP C (posN C.2.2.1 c (d + 1)) = rkP C (posN C.2.2.1 c d) ∧ ∀ {ga gb : Nat → Int32}, glI C (posN C.2.2.1 c d) ga gb → glI C (posN C.2.2.1 c (d + 1)) ga gb := by
  have h := layB_D C.2.2.1 o.1 C.2.2.2.1 o.2.1 c (by omega) d hd
  rw [decide_eq_false (by omega), Bool.false_or] at h
  unfold layB at h
  rw [hh, if_neg (by decide)] at h
  have h2 : ∀ g, posN C.2.2.1 c d ≤ g → g < posN C.2.2.1 c (d + 1) → frP C g = false := by
    intro g u v
    have h3 := (List.all_eq_true.mp h) g (two_c pos_le.1 pos_le.2 u v)
    rw [decide_eq_false (by omega), decide_eq_false (by omega), Bool.or_false, Bool.or_false] at h3
    exact fr_gok (by simpa using h3)
  refine ⟨cnt_skip pos_m h2, fun {ga gb} q g hg hf => q g ?_ hf⟩
  rcases Nat.lt_or_ge g (posN C.2.2.1 c d) with u | u
  · exact u
  · rw [h2 g u hg] at hf; cases hf
theorem lay_end {C : CarT} (o : okC C) {c : Nat} (hc : c < C.2.2.2.1 * C.2.2.1) : rkP C (2 * (c + 1)) = rkP C (posN C.2.2.1 c (C.2.2.2.1 * C.2.2.1)) ∧ ∀ {ga gb : Nat → Int32}, glI C (posN C.2.2.1 c (C.2.2.2.1 * C.2.2.1)) ga gb → glI C (2 * (c + 1)) ga gb := by
  have h := layN_D C.2.2.1 o.1 C.2.2.2.1 o.2.1 c hc
  have h2 : ∀ g, posN C.2.2.1 c (C.2.2.2.1 * C.2.2.1) ≤ g → g < 2 * (c + 1) → frP C g = false := by
    intro g u v
    have h3 := (List.all_eq_true.mp h) g (two_c (a := posN C.2.2.1 c (C.2.2.2.1 * C.2.2.1)) (b := 2 * (c + 1)) pos_le.1 (by omega) u v)
    rw [decide_eq_false (by omega), Bool.or_false] at h3
    exact fr_gok (by simpa using h3)
  refine ⟨cnt_skip (by have := (pos_le (wi := C.2.2.1) (c := c) (d := C.2.2.2.1 * C.2.2.1)).2; omega) h2, fun {ga gb} q g hg hf => q g ?_ hf⟩
  rcases Nat.lt_or_ge g (posN C.2.2.1 c (C.2.2.2.1 * C.2.2.1)) with u | u
  · exact u
  · rw [h2 g u hg] at hf; cases hf
/-- a step that finds one -/
theorem lay_yes {C : CarT} (o : okC C) {c d : Nat} (hd : d < C.2.2.2.1 * C.2.2.1) (hcd : c < d) (hh : hearD C.2.2.1 C.2.2.2.1 c d = true) : gapOk C.2.2.1 (C.2.2.2.1 * C.2.2.1) (gpN C.2.2.1 c d) = true ∧ rkP C (gpN C.2.2.1 c d) = rkP C (posN C.2.2.1 c d) ∧ rkP C (posN C.2.2.1 c (d + 1)) = rkP C (posN C.2.2.1 c d) + (if frP C (gpN C.2.2.1 c d) then 1 else 0) ∧ gpN C.2.2.1 c d / 2 = c ∧ othN C.2.2.1 (gpN C.2.2.1 c d) = d ∧ ∀ g, g < posN C.2.2.1 c (d + 1) → frP C g = true → g < posN C.2.2.1 c d ∨ g = gpN C.2.2.1 c d := by
  have h := layB_D C.2.2.1 o.1 C.2.2.2.1 o.2.1 c (by omega) d hd
  rw [decide_eq_false (by omega), Bool.false_or] at h
  unfold layB at h
  rw [hh, if_pos rfl] at h
  simp only [Bool.and_eq_true, decide_eq_true_eq] at h
  obtain ⟨⟨⟨⟨⟨h1, h2⟩, h3⟩, h4⟩, h5⟩, h6⟩ := h
  have h7 : ∀ g, posN C.2.2.1 c d ≤ g → g < posN C.2.2.1 c (d + 1) → g ≠ gpN C.2.2.1 c d → frP C g = false := by
    intro g u v z
    have h3 := (List.all_eq_true.mp h6) g (two_c pos_le.1 pos_le.2 u v)
    rw [decide_eq_false z, decide_eq_false (by omega), decide_eq_false (by omega), Bool.or_false, Bool.or_false, Bool.false_or] at h3
    exact fr_gok (by simpa using h3)
  have h8 := cnt_one (P := frP C) h1 h2 h7
  refine ⟨h3, h8.1, h8.2, h4, h5, fun g hg hf => ?_⟩
  rcases Nat.lt_or_ge g (posN C.2.2.1 c d) with u | u
  · exact Or.inl u
  · by_cases z : g = gpN C.2.2.1 c d
    · exact Or.inr z
    · rw [h7 g u hg z] at hf; cases hf
section MBL
variable {l : Launch} {G : rG} {h : rH} {T : Tn} {i : Nat → Int32} {j : Nat → Int64}
abbrev lgQ (G : rG) (h : rH) (i : Nat → Int32) (j : Nat → Int64) (T : Tn) : rH → Option Value → Prop := fun h' v => v = none ∧ ∃ i' ga gb, mX G h' T i' j ∧ sameI i i' ∧ i' 27 = nI (rkP T.1 64) ∧ h'[54]? = some (.inl (gA G 0, 64, .inl ga)) ∧ h'[55]? = some (.inl (gA G 0, 64, .inl gb)) ∧ glI T.1 64 ga gb ∧ fr h h' [38, 54, 55]
theorem mk_54 {h' : rH} {S : List Nat} {ga gb : Nat → Int32} (q : mkAt G h) (e54 : h'[54]? = some (.inl (gA G 0, 64, .inl ga))) (e55 : h'[55]? = some (.inl (gA G 0, 64, .inl gb))) (hf : fr h h' S) (hS : ∀ k ∈ S, k ≠ 42 ∧ k ≠ 50 ∧ k ≠ 53 ∧ k ≠ 56 ∧ k ≠ 60) : mkAt G h' := by
  obtain ⟨p42, p50, p53, -, -, p56, p60⟩ := q
  have hp := kp_fr hf
  exact ⟨ex_kp p42 hp (fun u => (hS _ u).1 rfl), ex_kp p50 hp (fun u => (hS _ u).2.1 rfl), ex_kp p53 hp (fun u => (hS _ u).2.2.1 rfl), ⟨_, e54⟩, ⟨_, e55⟩, ex_kp p56 hp (fun u => (hS _ u).2.2.2.1 rfl), ex_kp p60 hp (fun u => (hS _ u).2.2.2.2 rfl)⟩
theorem lay_gl {C : CarT} {g0 k k2 : Nat} {ga gb : Nat → Int32} (q : glI C k ga gb) (h : ∀ g, g < k2 → frP C g = true → g < k ∨ g = g0) (hr : rkP C g0 = rkP C k) (hk : k ≤ g0) : glI C k2 (upd ga (rkP C k) (nI (g0 / 2))) (upd gb (rkP C k) (nI (othN C.2.2.1 g0))) := by
  intro g hg hf
  rcases h g hg hf with u | u
  · have : rkP C g < rkP C k := cntB_lt u hf
    rw [pk_un (by omega), pk_un (by omega)]
    exact q g u hf
  · subst u
    rw [hr, pk_us, pk_us]
    exact ⟨rfl, rfl⟩
set_option maxRecDepth 100000 in
set_option maxHeartbeats 400000 in
theorem m_layGaps (q : mX G h T i j) (o : T.ok) : rM l G 3 mX12_layGaps 0 0 [.ref (gN G + 38)] h (lgQ G h i j T) := by
  have hn32 := o.n32
  obtain ⟨⟨⟨fn, a1, a2, a3, a4, a5, a6, a7, a8, a9⟩, -, b2, -⟩, -⟩ := id q
  obtain ⟨p42, p50, p53, ⟨g54, p54⟩, ⟨g55, p55⟩, p56, p60⟩ := id q.2.2.2.2.2.1
  have OUT : ∀ (r c : Nat) (y : Int32) (i1 ga gb : Nat → Int32) (h1 : rH) (o2 : Option Value), c + r = T.n → y = nI c → h1[38]? = some (mo G i1 j) → sameI i i1 → i1 27 = nI (rkP T.1 (2 * c)) → h1[54]? = some (.inl (gA G 0, 64, .inl ga)) → h1[55]? = some (.inl (gA G 0, 64, .inl gb)) → glI T.1 (2 * c) ga gb → fr h h1 [38, 54, 55] → rW l G (rRm 3 0 0) mX12_layGaps (rZ G (lgQ G h i j T) 0 0) 0 0 7 [some (.ref (gN G + 38)), some (.int y), o2] [] h1 := by
    intro r
    induction r with
    | zero =>
      intro c y i1 ga gb h1 o2 hc hy e38 hs g27 e54 e55 hgl hf
      subst hy
      have ec : c = T.n := by omega
      subst ec
      have e8 : i1 1 * i1 2 = nI T.n := by rw [hs.2.1, hs.2.2.1]; exact b2
      have q1 : mX G h1 T i1 j := mX_w q e38 (mk_54 q.2.2.2.2.2.1 e54 e55 hf (by decide)) hf (by decide) hs
      have h64 : ∀ g, 2 * T.n ≤ g → g < 64 → frP T.1 g = false := fun g u v => fr_gok (by
        unfold gapOk
        rw [decide_eq_false (show ¬ g / 2 < T.lo * T.wi by have : 2 * (T.lo * T.wi) ≤ g := u; omega)]; rfl)
      have e64 : rkP T.1 64 = rkP T.1 (2 * T.n) := cnt_skip (by omega) h64
      refine a_iload_n 8 dX12_layGaps_7 rfl rfl ?_
      refine a_aload_n 9 dX12_layGaps_8 rfl rfl ?_
      refine a_callV ok_X12_seats ln_X12_114 in_X12_seats rfl 12 dX12_layGaps_9 rfl (k_X12_seats e38) (by repeat (first | assumption | (refine rg_ne (by first | decide | omega) ?_) | apply rg_eq | refine rg_fr (by assumption) (by first | decide | (simp; omega)) ?_)) rfl rfl rfl ⟨(Nat.le_of_ble_eq_true rfl), (Nat.le_of_ble_eq_true rfl)⟩ (Nat.le_of_ble_eq_true rfl) ⟨(Nat.le_of_ble_eq_true rfl), (Nat.le_of_ble_eq_true rfl)⟩ ?_
      rintro _ _ ⟨rfl, rfl⟩
      rw [e8]
      refine a_icmp_ge 87 15 dX12_layGaps_12 rfl (by decide) (fun c_12 => ?_) (fun c_12 => absurd (Int32.le_refl _) c_12)
      exact a_return dX12_layGaps_87 rfl (Nat.le_of_ble_eq_true rfl) (Nat.le_of_ble_eq_true rfl) ⟨rfl, i1, ga, gb, q1, hs, by rw [e64]; exact g27, e54, e55, fun g hg hf2 => hgl g (by rcases Nat.lt_or_ge g (2 * T.n) with u | u; exact u; rw [h64 g u hg] at hf2; cases hf2) hf2, hf⟩
    | succ r ih =>
      intro c y i1 ga gb h1 o2 hc hy e38 hs g27 e54 e55 hgl hf
      subst hy
      have hcn : c < T.n := by omega
      have e8 : i1 1 * i1 2 = nI T.n := by rw [hs.2.1, hs.2.2.1]; exact b2
      have IN : ∀ (r2 d : Nat) (y2 : Int32) (i2 ga gb : Nat → Int32) (h2 : rH), d + r2 = T.n → y2 = nI d → c < d → h2[38]? = some (mo G i2 j) → sameI i i2 → i2 27 = nI (rkP T.1 (posN T.wi c d)) → h2[54]? = some (.inl (gA G 0, 64, .inl ga)) → h2[55]? = some (.inl (gA G 0, 64, .inl gb)) → glI T.1 (posN T.wi c d) ga gb → fr h h2 [38, 54, 55] → rW l G (rRm 3 0 0) mX12_layGaps (rZ G (lgQ G h i j T) 0 0) 0 0 19 [some (.ref (gN G + 38)), some (.int (nI c)), some (.int y2)] [] h2 := by
        intro r2
        induction r2 with
        | zero =>
          intro d y2 i2 ga gb h2 hd hy hcd e38 hs g27 e54 e55 hgl hf
          subst hy
          have ed : d = T.n := by omega
          subst ed
          have e8 : i2 1 * i2 2 = nI T.n := by rw [hs.2.1, hs.2.2.1]; exact b2
          have le := lay_end o.1 (c := c) hcn
          refine a_iload_n 20 dX12_layGaps_19 rfl rfl ?_
          refine a_aload_n 21 dX12_layGaps_20 rfl rfl ?_
          refine a_callV ok_X12_seats ln_X12_114 in_X12_seats rfl 24 dX12_layGaps_21 rfl (k_X12_seats e38) (by repeat (first | assumption | (refine rg_ne (by first | decide | omega) ?_) | apply rg_eq | refine rg_fr (by assumption) (by first | decide | (simp; omega)) ?_)) rfl rfl rfl ⟨(Nat.le_of_ble_eq_true rfl), (Nat.le_of_ble_eq_true rfl)⟩ (Nat.le_of_ble_eq_true rfl) ⟨(Nat.le_of_ble_eq_true rfl), (Nat.le_of_ble_eq_true rfl)⟩ ?_
          rintro _ _ ⟨rfl, rfl⟩
          rw [e8]
          refine a_icmp_ge 81 27 dX12_layGaps_24 rfl (by decide) (fun c_24 => ?_) (fun c_24 => absurd (Int32.le_refl _) c_24)
          refine a_iinc _ 84 dX12_layGaps_81 rfl rfl (by decide) rfl ?_
          refine a_goto 7 dX12_layGaps_84 (by decide) ?_
          exact ih (c + 1) _ i2 ga gb _ _ (by omega) (nI_1 c) e38 hs (g27.trans (congrArg nI le.1.symm)) e54 e55 (le.2 hgl) hf
        | succ r2 ih2 =>
          intro d y2 i2 ga gb h2 hd hy hcd e38 hs g27 e54 e55 hgl hf
          subst hy
          have hdn : d < T.n := by omega
          have hc32 : c < 32 := Nat.lt_of_lt_of_le hcn hn32
          have hd32 : d < 32 := Nat.lt_of_lt_of_le hdn hn32
          have e8 : i2 1 * i2 2 = nI T.n := by rw [hs.2.1, hs.2.2.1]; exact b2
          have g2 : i2 2 = nI T.wi := hs.2.2.1.trans a2
          have ehd : gapB T.nb c d 4 = hearD T.wi T.lo c d := hear_D o hcn
          have rk := rk_52 o.1 (g := posN T.wi c d) (by have := (pos_le (wi := T.wi) (c := c) (d := d)).2; omega)
          have vk : vp_in (nI (rkP T.1 (posN T.wi c d))) 64 := vp_in_nI (by omega) (by decide)
          have ck : (nI (rkP T.1 (posN T.wi c d))).toNatClampNeg = rkP T.1 (posN T.wi c d) := nI_clamp (by omega)
          have f43 := rg_fr hf (by decide) a4
          have f40 := rg_fr hf (by decide) a6
          have f41 := rg_fr hf (by decide) a7
          cases hh : hearD T.wi T.lo c d with
          | false =>
            have ln := lay_no o.1 (c := c) (d := d) hdn hcd hh
            rw [hh] at ehd
            refine a_iload_n 20 dX12_layGaps_19 rfl rfl ?_
            refine a_aload_n 21 dX12_layGaps_20 rfl rfl ?_
            refine a_callV ok_X12_seats ln_X12_114 in_X12_seats rfl 24 dX12_layGaps_21 rfl (k_X12_seats e38) (by repeat (first | assumption | (refine rg_ne (by first | decide | omega) ?_) | apply rg_eq | refine rg_fr (by assumption) (by first | decide | (simp; omega)) ?_)) rfl rfl rfl ⟨(Nat.le_of_ble_eq_true rfl), (Nat.le_of_ble_eq_true rfl)⟩ (Nat.le_of_ble_eq_true rfl) ⟨(Nat.le_of_ble_eq_true rfl), (Nat.le_of_ble_eq_true rfl)⟩ ?_
            rintro _ _ ⟨rfl, rfl⟩
            rw [e8]
            refine a_icmp_ge 81 27 dX12_layGaps_24 rfl (by decide) (fun c_24 => absurd c_24 (nI_ge (a := d) (b := T.n) (by omega) (by omega))) (fun c_24 => ?_)
            refine a_aload_n 28 dX12_layGaps_27 rfl rfl ?_
            refine a_iload_n 29 dX12_layGaps_28 rfl rfl ?_
            refine a_iload_n 30 dX12_layGaps_29 rfl rfl ?_
            refine a_callV ok_X12_isGap ln_X12_185 in_X12_isGap rfl 33 dX12_layGaps_30 rfl (k_X12_isGap e38 f43 a5 hc32 hd32) (by repeat (first | assumption | (refine rg_ne (by first | decide | omega) ?_) | apply rg_eq | refine rg_fr (by assumption) (by first | decide | (simp; omega)) ?_)) rfl rfl rfl ⟨(Nat.le_of_ble_eq_true rfl), (Nat.le_of_ble_eq_true rfl)⟩ (Nat.le_of_ble_eq_true rfl) ⟨(Nat.le_of_ble_eq_true rfl), (Nat.le_of_ble_eq_true rfl)⟩ ?_
            rintro _ _ ⟨rfl, rfl⟩
            refine a_if_eq 75 36 dX12_layGaps_33 rfl (by decide) (fun c_33 => ?_) (fun c_33 => absurd (if_neg (by rw [ehd]; decide)) c_33)
            refine a_iinc _ 78 dX12_layGaps_75 rfl rfl (by decide) rfl ?_
            refine a_goto 19 dX12_layGaps_78 (by decide) ?_
            exact ih2 (d + 1) _ i2 ga gb _ (by omega) (nI_1 d) (by omega) e38 hs (g27.trans (congrArg nI ln.1.symm)) e54 e55 (ln.2 hgl) hf
          | true =>
            have ly := lay_yes o.1 (c := c) (d := d) hdn hcd hh
            rw [hh] at ehd
            have eb : blM T.bR T.bB T.wi c d = T.B (gpN T.wi c d) := bl_gp
            by_cases hB : T.B (gpN T.wi c d) = 0
            · have hfp : frP T.1 (gpN T.wi c d) = true := by show (_ && decide _) = true; rw [ly.1]; exact decide_eq_true hB
              have er : rkP T.1 (posN T.wi c (d + 1)) = rkP T.1 (posN T.wi c d) + 1 := by rw [ly.2.2.1, hfp]; rfl
              have hgl2 := lay_gl (g0 := gpN T.wi c d) (k2 := posN T.wi c (d + 1)) hgl ly.2.2.2.2.2 ly.2.1 (by
                have := layB_D T.wi o.1.1 T.lo o.1.2.1 c hcn d hdn
                rw [decide_eq_false (by omega), Bool.false_or] at this
                unfold layB at this
                rw [hh, if_pos rfl] at this
                simp only [Bool.and_eq_true, decide_eq_true_eq] at this
                exact this.1.1.1.1.1)
              rw [ly.2.2.2.1, ly.2.2.2.2.1] at hgl2
              refine a_iload_n 20 dX12_layGaps_19 rfl rfl ?_
              refine a_aload_n 21 dX12_layGaps_20 rfl rfl ?_
              refine a_callV ok_X12_seats ln_X12_114 in_X12_seats rfl 24 dX12_layGaps_21 rfl (k_X12_seats e38) (by repeat (first | assumption | (refine rg_ne (by first | decide | omega) ?_) | apply rg_eq | refine rg_fr (by assumption) (by first | decide | (simp; omega)) ?_)) rfl rfl rfl ⟨(Nat.le_of_ble_eq_true rfl), (Nat.le_of_ble_eq_true rfl)⟩ (Nat.le_of_ble_eq_true rfl) ⟨(Nat.le_of_ble_eq_true rfl), (Nat.le_of_ble_eq_true rfl)⟩ ?_
              rintro _ _ ⟨rfl, rfl⟩
              rw [e8]
              refine a_icmp_ge 81 27 dX12_layGaps_24 rfl (by decide) (fun c_24 => absurd c_24 (nI_ge (a := d) (b := T.n) (by omega) (by omega))) (fun c_24 => ?_)
              refine a_aload_n 28 dX12_layGaps_27 rfl rfl ?_
              refine a_iload_n 29 dX12_layGaps_28 rfl rfl ?_
              refine a_iload_n 30 dX12_layGaps_29 rfl rfl ?_
              refine a_callV ok_X12_isGap ln_X12_185 in_X12_isGap rfl 33 dX12_layGaps_30 rfl (k_X12_isGap e38 f43 a5 hc32 hd32) (by repeat (first | assumption | (refine rg_ne (by first | decide | omega) ?_) | apply rg_eq | refine rg_fr (by assumption) (by first | decide | (simp; omega)) ?_)) rfl rfl rfl ⟨(Nat.le_of_ble_eq_true rfl), (Nat.le_of_ble_eq_true rfl)⟩ (Nat.le_of_ble_eq_true rfl) ⟨(Nat.le_of_ble_eq_true rfl), (Nat.le_of_ble_eq_true rfl)⟩ ?_
              rintro _ _ ⟨rfl, rfl⟩
              refine a_if_eq 75 36 dX12_layGaps_33 rfl (by decide) (fun c_33 => absurd c_33 (by rw [if_pos ehd]; decide)) (fun c_33 => ?_)
              refine a_aload_n 37 dX12_layGaps_36 rfl rfl ?_
              refine a_iload_n 38 dX12_layGaps_37 rfl rfl ?_
              refine a_iload_n 39 dX12_layGaps_38 rfl rfl ?_
              refine a_callV ok_X12_isBlind ln_X12_169 in_X12_isBlind rfl 42 dX12_layGaps_39 rfl (k_X12_isBlind e38 g2 a3 f40 f41 a8 a9 hc32 hd32) (by repeat (first | assumption | (refine rg_ne (by first | decide | omega) ?_) | apply rg_eq | refine rg_fr (by assumption) (by first | decide | (simp; omega)) ?_)) rfl rfl rfl ⟨(Nat.le_of_ble_eq_true rfl), (Nat.le_of_ble_eq_true rfl)⟩ (Nat.le_of_ble_eq_true rfl) ⟨(Nat.le_of_ble_eq_true rfl), (Nat.le_of_ble_eq_true rfl)⟩ ?_
              rintro _ _ ⟨rfl, rfl⟩
              rw [eb, hB]
              refine a_if_ne 75 45 dX12_layGaps_42 rfl (by decide) (fun c_42 => absurd rfl c_42) (fun c_42 => ?_)
              refine a_aload_n 46 dX12_layGaps_45 rfl rfl ?_
              refine a_get fd_X12_56 rfl 49 dX12_layGaps_46 rfl (by repeat (first | assumption | (refine rg_ne (by first | decide | omega) ?_) | apply rg_eq | refine rg_fr (by assumption) (by first | decide | (simp; omega)) ?_)) rfl ?_
              refine a_aload_n 50 dX12_layGaps_49 rfl rfl ?_
              refine a_get fd_X12_280 rfl 53 dX12_layGaps_50 rfl (by repeat (first | assumption | (refine rg_ne (by first | decide | omega) ?_) | apply rg_eq | refine rg_fr (by assumption) (by first | decide | (simp; omega)) ?_)) rfl ?_
              refine a_iload_n 54 dX12_layGaps_53 rfl rfl ?_
              rw [g27]
              refine a_iastore 55 dX12_layGaps_54 rfl (by repeat (first | assumption | (refine rg_ne (by first | decide | omega) ?_) | apply rg_eq | refine rg_fr (by assumption) (by first | decide | (simp; omega)) ?_)) vk ?_
              refine a_aload_n 56 dX12_layGaps_55 rfl rfl ?_
              refine a_get fd_X12_59 rfl 59 dX12_layGaps_56 rfl (by repeat (first | assumption | (refine rg_ne (by first | decide | omega) ?_) | apply rg_eq | refine rg_fr (by assumption) (by first | decide | (simp; omega)) ?_)) rfl ?_
              refine a_aload_n 60 dX12_layGaps_59 rfl rfl ?_
              refine a_get fd_X12_280 rfl 63 dX12_layGaps_60 rfl (by repeat (first | assumption | (refine rg_ne (by first | decide | omega) ?_) | apply rg_eq | refine rg_fr (by assumption) (by first | decide | (simp; omega)) ?_)) rfl ?_
              refine a_iload_n 64 dX12_layGaps_63 rfl rfl ?_
              rw [g27]
              refine a_iastore 65 dX12_layGaps_64 rfl (by repeat (first | assumption | (refine rg_ne (by first | decide | omega) ?_) | apply rg_eq | refine rg_fr (by assumption) (by first | decide | (simp; omega)) ?_)) vk ?_
              refine a_aload_n 66 dX12_layGaps_65 rfl rfl ?_
              refine a_dup 67 dX12_layGaps_66 rfl rfl ?_
              refine a_get fd_X12_280 rfl 70 dX12_layGaps_67 rfl (by repeat (first | assumption | (refine rg_ne (by first | decide | omega) ?_) | apply rg_eq | refine rg_fr (by assumption) (by first | decide | (simp; omega)) ?_)) rfl ?_
              refine a_iconst (1) 71 dX12_layGaps_70 rfl (by decide) ?_
              rw [g27]
              refine a_iadd 72 dX12_layGaps_71 rfl ?_
              rw [nI_1]
              refine a_put fd_X12_280 cl_X12 rfl 75 dX12_layGaps_72 rfl (by repeat (first | assumption | (refine rg_ne (by first | decide | omega) ?_) | apply rg_eq | refine rg_fr (by assumption) (by first | decide | (simp; omega)) ?_)) (Nat.le_of_ble_eq_true rfl) rfl rfl rfl ?_
              refine a_iinc _ 78 dX12_layGaps_75 rfl rfl (by decide) rfl ?_
              refine a_goto 19 dX12_layGaps_78 (by decide) ?_
              exact ih2 (d + 1) _ (upd i2 27 (nI (rkP T.1 (posN T.wi c d) + 1))) _ _ _ (by omega) (nI_1 d) (by omega) (rg_eq (rg_ne (by decide) (rg_ne (by decide) e38))) hs (congrArg nI er.symm) (rg_ne (by decide) (rg_ne (by decide) (rg_eq e54))) (rg_ne (by decide) (rg_eq (rg_ne (by decide) e55))) (by rw [ck]; exact hgl2) (fr_set (fr_set (fr_set hf (by decide)) (by decide)) (by decide))
            · have hfp : frP T.1 (gpN T.wi c d) = false := by show (_ && decide _) = false; rw [decide_eq_false hB, Bool.and_false]
              have er : rkP T.1 (posN T.wi c (d + 1)) = rkP T.1 (posN T.wi c d) := by rw [ly.2.2.1, hfp]; rfl
              refine a_iload_n 20 dX12_layGaps_19 rfl rfl ?_
              refine a_aload_n 21 dX12_layGaps_20 rfl rfl ?_
              refine a_callV ok_X12_seats ln_X12_114 in_X12_seats rfl 24 dX12_layGaps_21 rfl (k_X12_seats e38) (by repeat (first | assumption | (refine rg_ne (by first | decide | omega) ?_) | apply rg_eq | refine rg_fr (by assumption) (by first | decide | (simp; omega)) ?_)) rfl rfl rfl ⟨(Nat.le_of_ble_eq_true rfl), (Nat.le_of_ble_eq_true rfl)⟩ (Nat.le_of_ble_eq_true rfl) ⟨(Nat.le_of_ble_eq_true rfl), (Nat.le_of_ble_eq_true rfl)⟩ ?_
              rintro _ _ ⟨rfl, rfl⟩
              rw [e8]
              refine a_icmp_ge 81 27 dX12_layGaps_24 rfl (by decide) (fun c_24 => absurd c_24 (nI_ge (a := d) (b := T.n) (by omega) (by omega))) (fun c_24 => ?_)
              refine a_aload_n 28 dX12_layGaps_27 rfl rfl ?_
              refine a_iload_n 29 dX12_layGaps_28 rfl rfl ?_
              refine a_iload_n 30 dX12_layGaps_29 rfl rfl ?_
              refine a_callV ok_X12_isGap ln_X12_185 in_X12_isGap rfl 33 dX12_layGaps_30 rfl (k_X12_isGap e38 f43 a5 hc32 hd32) (by repeat (first | assumption | (refine rg_ne (by first | decide | omega) ?_) | apply rg_eq | refine rg_fr (by assumption) (by first | decide | (simp; omega)) ?_)) rfl rfl rfl ⟨(Nat.le_of_ble_eq_true rfl), (Nat.le_of_ble_eq_true rfl)⟩ (Nat.le_of_ble_eq_true rfl) ⟨(Nat.le_of_ble_eq_true rfl), (Nat.le_of_ble_eq_true rfl)⟩ ?_
              rintro _ _ ⟨rfl, rfl⟩
              refine a_if_eq 75 36 dX12_layGaps_33 rfl (by decide) (fun c_33 => absurd c_33 (by rw [if_pos ehd]; decide)) (fun c_33 => ?_)
              refine a_aload_n 37 dX12_layGaps_36 rfl rfl ?_
              refine a_iload_n 38 dX12_layGaps_37 rfl rfl ?_
              refine a_iload_n 39 dX12_layGaps_38 rfl rfl ?_
              refine a_callV ok_X12_isBlind ln_X12_169 in_X12_isBlind rfl 42 dX12_layGaps_39 rfl (k_X12_isBlind e38 g2 a3 f40 f41 a8 a9 hc32 hd32) (by repeat (first | assumption | (refine rg_ne (by first | decide | omega) ?_) | apply rg_eq | refine rg_fr (by assumption) (by first | decide | (simp; omega)) ?_)) rfl rfl rfl ⟨(Nat.le_of_ble_eq_true rfl), (Nat.le_of_ble_eq_true rfl)⟩ (Nat.le_of_ble_eq_true rfl) ⟨(Nat.le_of_ble_eq_true rfl), (Nat.le_of_ble_eq_true rfl)⟩ ?_
              rintro _ _ ⟨rfl, rfl⟩
              rw [eb]
              refine a_if_ne 75 45 dX12_layGaps_42 rfl (by decide) (fun c_42 => ?_) (fun c_42 => absurd c_42 hB)
              refine a_iinc _ 78 dX12_layGaps_75 rfl rfl (by decide) rfl ?_
              refine a_goto 19 dX12_layGaps_78 (by decide) ?_
              exact ih2 (d + 1) _ i2 ga gb _ (by omega) (nI_1 d) (by omega) e38 hs (g27.trans (congrArg nI er.symm)) e54 e55 (fun g hg hf2 => hgl g (by rcases ly.2.2.2.2.2 g hg hf2 with u | u; exact u; rw [u, hfp] at hf2; cases hf2) hf2) hf
      refine a_iload_n 8 dX12_layGaps_7 rfl rfl ?_
      refine a_aload_n 9 dX12_layGaps_8 rfl rfl ?_
      refine a_callV ok_X12_seats ln_X12_114 in_X12_seats rfl 12 dX12_layGaps_9 rfl (k_X12_seats e38) (by repeat (first | assumption | (refine rg_ne (by first | decide | omega) ?_) | apply rg_eq | refine rg_fr (by assumption) (by first | decide | (simp; omega)) ?_)) rfl rfl rfl ⟨(Nat.le_of_ble_eq_true rfl), (Nat.le_of_ble_eq_true rfl)⟩ (Nat.le_of_ble_eq_true rfl) ⟨(Nat.le_of_ble_eq_true rfl), (Nat.le_of_ble_eq_true rfl)⟩ ?_
      rintro _ _ ⟨rfl, rfl⟩
      rw [e8]
      refine a_icmp_ge 87 15 dX12_layGaps_12 rfl (by decide) (fun c_12 => absurd c_12 (nI_ge (a := c) (b := T.n) (by omega) (by omega))) (fun c_12 => ?_)
      refine a_iload_n 16 dX12_layGaps_15 rfl rfl ?_
      refine a_iconst (1) 17 dX12_layGaps_16 rfl (by decide) ?_
      refine a_iadd 18 dX12_layGaps_17 rfl ?_
      refine a_istore_n 19 dX12_layGaps_18 rfl (by decide) ?_
      exact IN (T.n - (c + 1)) (c + 1) _ i1 ga gb _ (by omega) (nI_1 c) (by omega) e38 hs (by rw [pos_0]; exact g27) e54 e55 (by rw [pos_0]; exact hgl) hf
  refine rM_start (by decide) (Nat.le_of_ble_eq_true rfl) ?_
  refine a_aload_n 1 dX12_layGaps_0 rfl rfl ?_
  refine a_iconst (0) 2 dX12_layGaps_1 rfl (by decide) ?_
  refine a_put fd_X12_280 cl_X12 rfl 5 dX12_layGaps_2 rfl (by repeat (first | assumption | (refine rg_ne (by first | decide | omega) ?_) | apply rg_eq | refine rg_fr (by assumption) (by first | decide | (simp; omega)) ?_)) (Nat.le_of_ble_eq_true rfl) rfl rfl rfl ?_
  refine a_iconst (0) 6 dX12_layGaps_5 rfl (by decide) ?_
  refine a_istore_n 7 dX12_layGaps_6 rfl (by decide) ?_
  exact OUT T.n 0 _ (upd i 27 0) g54 g55 _ _ (by omega) rfl (rg_eq a1) ⟨rfl, rfl, rfl, rfl, rfl, rfl, rfl, rfl⟩ rfl (rg_ne (by decide) p54) (rg_ne (by decide) p55) (fun g hg => absurd hg (by omega)) (fr_set (fr_refl _ _) (by decide))
end MBL
