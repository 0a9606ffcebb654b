/-! THE MODEL's cells hold the state -/
def msAt (G : rG) (h : rH) (S : SheT) : Prop := ∃ f g e, h[57]? = some (.inl (gA G 0, 4, .inl f)) ∧ h[58]? = some (.inl (gA G 0, 4, .inl g)) ∧ h[59]? = some (.inl (gA G 0, 240, .inl e)) ∧ ∀ q, q < 4 → f q = (if S.1 q then nI (S.2.2.1 q) else -1) ∧ g q = S.2.1 q ∧ ∀ c, c < S.2.2.1 q → e (60 * q + c) = S.2.2.2 q c
def mkAt (G : rG) (h : rH) : Prop := (∃ f, h[42]? = some (.inl (gA G 0, 32, .inl f))) ∧ (∃ f, h[50]? = some (.inl (gA G 0, 7, .inl f))) ∧ (∃ f, h[53]? = some (.inl (gA G 0, 24, .inl f))) ∧ (∃ f, h[54]? = some (.inl (gA G 0, 64, .inl f))) ∧ (∃ f, h[55]? = some (.inl (gA G 0, 64, .inl f))) ∧ (∃ f, h[56]? = some (.inl (gA G 0, 3, .inl f))) ∧ (∃ f, h[60]? = some (.inl (gA G 0, 60, .inl f)))
def mX (G : rG) (h : rH) (T : Tn) (i : Nat → Int32) (j : Nat → Int64) : Prop := mcAt G h i j T.nb T.bR T.bB T.wi T.n T.mir T.face ∧ moAt G h i j T.n T.m T.kd T.se T.sl T.ki ∧ mlAt G h i j T.nl T.nu ∧ mwAt G h i j T.m T.ny T.ym T.yw ∧ msAt G h T.2.2.2.2.1 ∧ mkAt G h ∧ i 0 = T.fa ∧ i 39 = T.tr ∧ i 1 = nI T.lo
def mAll (G : rG) (h : rH) (T : Tn) : Prop := ∃ i j, mX G h T i j
abbrev mL : List Nat := [38, 39, 40, 41, 42, 43, 44, 45, 46, 47, 48, 49, 50, 51, 52, 53, 54, 55, 56, 57, 58, 59, 60]
theorem msAt.kp {G : rG} {h h' : rH} {S : SheT} {X : List Nat} (q : msAt G h S) (hf : kp h h' X) (hX : ∀ k ∈ X, k < 57 ∨ 59 < k) : msAt G h' S := by
  obtain ⟨f, g, e, a, b, c, d⟩ := q
  have n : ∀ k, 57 ≤ k → k ≤ 59 → k ∉ X := fun k a b hk => by have := hX k hk; omega
  exact ⟨f, g, e, kp_get hf (n _ (by decide) (by decide)) a, kp_get hf (n _ (by decide) (by decide)) b, kp_get hf (n _ (by decide) (by decide)) c, d⟩
theorem mkAt.kp {G : rG} {h h' : rH} {X : List Nat} (q : mkAt G h) (hf : kp h h' X) (hX : ∀ k ∈ X, k ≠ 42 ∧ k ≠ 50 ∧ k ≠ 53 ∧ k ≠ 54 ∧ k ≠ 55 ∧ k ≠ 56 ∧ k ≠ 60) : mkAt G h' := by
  obtain ⟨a, b, c, d, e, f, g⟩ := q
  exact ⟨ex_kp a hf (fun hk => (hX _ hk).1 rfl), ex_kp b hf (fun hk => (hX _ hk).2.1 rfl), ex_kp c hf (fun hk => (hX _ hk).2.2.1 rfl), ex_kp d hf (fun hk => (hX _ hk).2.2.2.1 rfl), ex_kp e hf (fun hk => (hX _ hk).2.2.2.2.1 rfl), ex_kp f hf (fun hk => (hX _ hk).2.2.2.2.2.1 rfl), ex_kp g hf (fun hk => (hX _ hk).2.2.2.2.2.2 rfl)⟩
theorem mX.line {G : rG} {h h' : rH} {T : Tn} {i : Nat → Int32} {j : Nat → Int64} (q : mX G h T i j) (hc : mcAt G h' i j T.nb T.bR T.bB T.wi T.n T.mir T.face) (hf : fr h h' [44]) : mX G h' T i j := by
  obtain ⟨-, q2, q3, q4, q5, q6, q7⟩ := q
  exact ⟨hc, q2.fr hf (by decide) (by decide) (by decide) (by decide) (by decide), q3.fr hf (by decide) (by decide), q4.fr hf (by decide) (by decide) (by decide), q5.kp (kp_fr hf) (by decide), q6.kp (kp_fr hf) (by decide), q7⟩
theorem mX.at {G : rG} {h : rH} {T : Tn} {i : Nat → Int32} {j : Nat → Int64} (q : mX G h T i j) : h[38]? = some (mo G i j) := q.2.2.2.1.1
section MALL
variable {l : Launch} {G : rG} {h : rH} {T : Tn} {i : Nat → Int32} {j : Nat → Int64}
theorem m_noLaw (q : mX G h T i j) (c : Int32) : rM l G 1 mX12_noLaw 0 0 [.ref (gN G + 38), .int c] h (rV h (some (.int (if 0 ≤ c ∧ c < nI T.nl then 0 else 1)))) := by
  have e := k_X12_noLaw (l := l) q.at c
  rw [q.2.2.1.2.1] at e
  exact e
theorem m_noOne (q : mX G h T i j) (c : Int32) : rM l G 1 mX12_noOne 0 0 [.ref (gN G + 38), .int c] h (rV h (some (.int (if 0 ≤ c ∧ c < nI T.m then 0 else 1)))) := by
  have e := k_X12_noOne (l := l) q.at c
  rw [q.2.1.2.1] at e
  exact e
theorem m_noYawn (q : mX G h T i j) (c : Int32) : rM l G 1 mX12_noYawn 0 0 [.ref (gN G + 38), .int c] h (rV h (some (.int (if 0 ≤ c ∧ c < nI T.ny then 0 else 1)))) := by
  have e := k_X12_noYawn (l := l) q.at c
  rw [q.2.2.2.1.2.1] at e
  exact e
theorem m_src (q : mX G h T i j) {z x p : Nat} (hz : z < T.nl) (hx : x < T.ny) (hp : p < T.ny) : rM l G 7 mX12_source 0 0 [.ref (gN G + 38), .int (nI z), .int (nI x), .int (nI p)] h (fun h' v => v = some (.int (nI (T.src z x p))) ∧ mcAt G h' i j T.nb T.bR T.bB T.wi T.n T.mir T.face ∧ fr h h' [44]) := k_X12_sourceS q.1 q.2.1 q.2.2.1 q.2.2.2.1 hz hx hp
theorem m_own (q : mX G h T i j) {z x : Nat} (hz : z < T.nl) (hx : x < T.ny) : rM l G 6 mX12_source 0 0 [.ref (gN G + 38), .int (nI z), .int (nI x), .int (-9)] h (rV h (some (.int (nI (T.own z (T.yw x)))))) := k_X12_sourceO q.2.1 q.2.2.1 q.2.2.2.1 hz hx
theorem m_all (q : mX G h T i j) {z x : Nat} (hz : z < T.nl) (hx : x < T.ny) : rM l G 8 mX12_allSources 0 0 [.ref (gN G + 38), .int (nI z), .int (nI x)] h (fun h' v => v = some (.int (nI (T.all z x))) ∧ mcAt G h' i j T.nb T.bR T.bB T.wi T.n T.mir T.face ∧ fr h h' [44]) := k_X12_allSources q.1 q.2.1 q.2.2.1 q.2.2.2.1 hz hx
theorem m_bar (q : mX G h T i j) {z : Nat} (hz : z < T.nl) : rM l G 9 mX12_firstBarred 0 0 [.ref (gN G + 38), .int (nI z)] h (fun h' v => v = some (.int (noI (barT T z))) ∧ mcAt G h' i j T.nb T.bR T.bB T.wi T.n T.mir T.face ∧ fr h h' [44]) := k_X12_firstBarred q.1 q.2.1 q.2.2.1 q.2.2.2.1 hz
theorem m_sum (q : mX G h T i j) {z a x : Nat} (hz : z < T.nl) (hx : x < T.m) (ha : a < 2 ^ 30) : rM l G 7 mX12_sumAt 0 0 [.ref (gN G + 38), .int (nI z), .int (nI a), .int (nI x)] h (fun h' v => v = some (.int (nI (sumT T z a x))) ∧ mcAt G h' i j T.nb T.bR T.bB T.wi T.n T.mir T.face ∧ fr h h' [44]) := k_X12_sumAt q.1 q.2.1 q.2.2.1 q.2.2.2.1 hz hx ha
set_option maxRecDepth 100000 in
set_option maxHeartbeats 400000 in
theorem m_could (q : mAll G h T) (o : T.ok) (c d : Int32) : rM l G 12 mX12_could 0 0 [.ref (gN G + 38), .int c, .int d] h (fun h' v => v = some (.int (aCould T c d)) ∧ mAll G h' T ∧ kp h h' mL) := by
  obtain ⟨i, j, q⟩ := q
  have hnl := o.nl6
  have hny := o.ny24
  have hm := q.at
  rcases oT_cases (n := T.nl) (by omega) c with ⟨e, hc⟩ | ⟨z, hz, rfl, e⟩
  · have ea : aCould T c d = -1 := by unfold aCould; rw [e]
    refine rM_start (by decide) (Nat.le_of_ble_eq_true rfl) ?_
    refine a_aload_n 1 dX12_could_0 rfl rfl ?_
    refine a_iload_n 2 dX12_could_1 rfl rfl ?_
    refine a_callV ok_X12_noLaw ln_X12_218 in_X12_noLaw rfl 5 dX12_could_2 rfl (m_noLaw q c) (by repeat (first | assumption | (refine rg_ne (by first | decide | omega) ?_) | apply rg_eq | refine rg_fr (by assumption) (by first | decide | (simp; omega)) ?_)) rfl rfl rfl ⟨(Nat.le_of_ble_eq_true rfl), (Nat.le_of_ble_eq_true rfl)⟩ (Nat.le_of_ble_eq_true rfl) ⟨(Nat.le_of_ble_eq_true rfl), (Nat.le_of_ble_eq_true rfl)⟩ ?_
    rintro _ _ ⟨rfl, rfl⟩
    refine a_if_ne 16 8 dX12_could_5 rfl (by decide) (fun c_5 => ?_) (fun c_5 => absurd c_5 (by rw [if_neg hc]; decide))
    refine a_iconst (-1) 17 dX12_could_16 rfl (by decide) ?_
    exact a_ireturn dX12_could_17 rfl rfl (Nat.le_of_ble_eq_true rfl) (Nat.le_of_ble_eq_true rfl) ⟨by rw [ea], ⟨i, j, q⟩, fun _ _ _ => rfl⟩
  · rcases oT_cases (n := T.ny) (by omega) d with ⟨e2, hd⟩ | ⟨x, hx, rfl, e2⟩
    · have ea : aCould T (nI z) d = -1 := by unfold aCould; rw [e, e2]
      refine rM_start (by decide) (Nat.le_of_ble_eq_true rfl) ?_
      refine a_aload_n 1 dX12_could_0 rfl rfl ?_
      refine a_iload_n 2 dX12_could_1 rfl rfl ?_
      refine a_callV ok_X12_noLaw ln_X12_218 in_X12_noLaw rfl 5 dX12_could_2 rfl (m_noLaw q (nI z)) (by repeat (first | assumption | (refine rg_ne (by first | decide | omega) ?_) | apply rg_eq | refine rg_fr (by assumption) (by first | decide | (simp; omega)) ?_)) rfl rfl rfl ⟨(Nat.le_of_ble_eq_true rfl), (Nat.le_of_ble_eq_true rfl)⟩ (Nat.le_of_ble_eq_true rfl) ⟨(Nat.le_of_ble_eq_true rfl), (Nat.le_of_ble_eq_true rfl)⟩ ?_
      rintro _ _ ⟨rfl, rfl⟩
      refine a_if_ne 16 8 dX12_could_5 rfl (by decide) (fun c_5 => absurd (if_pos (oT_yes hz (by omega))) c_5) (fun c_5 => ?_)
      refine a_aload_n 9 dX12_could_8 rfl rfl ?_
      refine a_iload_n 10 dX12_could_9 rfl rfl ?_
      refine a_callV ok_X12_noYawn ln_X12_243 in_X12_noYawn rfl 13 dX12_could_10 rfl (m_noYawn q d) (by repeat (first | assumption | (refine rg_ne (by first | decide | omega) ?_) | apply rg_eq | refine rg_fr (by assumption) (by first | decide | (simp; omega)) ?_)) rfl rfl rfl ⟨(Nat.le_of_ble_eq_true rfl), (Nat.le_of_ble_eq_true rfl)⟩ (Nat.le_of_ble_eq_true rfl) ⟨(Nat.le_of_ble_eq_true rfl), (Nat.le_of_ble_eq_true rfl)⟩ ?_
      rintro _ _ ⟨rfl, rfl⟩
      refine a_if_eq 18 16 dX12_could_13 rfl (by decide) (fun c_13 => absurd c_13 (by rw [if_neg hd]; decide)) (fun c_13 => ?_)
      refine a_iconst (-1) 17 dX12_could_16 rfl (by decide) ?_
      exact a_ireturn dX12_could_17 rfl rfl (Nat.le_of_ble_eq_true rfl) (Nat.le_of_ble_eq_true rfl) ⟨by rw [ea], ⟨i, j, q⟩, fun _ _ _ => rfl⟩
    · have ea : aCould T (nI z) (nI x) = bsN (fun p => decide (0 < T.src z x p)) x := by unfold aCould; rw [e, e2]
      have L : ∀ (r p : Nat) (s y : Int32) (h1 : rH), p + r = x → s = bsN (fun p => decide (0 < T.src z x p)) p → y = nI p → mX G h1 T i j → fr h h1 [44] → rW l G (rRm 12 0 0) mX12_could (rZ G (fun h' v => v = some (.int (aCould T (nI z) (nI x))) ∧ mAll G h' T ∧ kp h h' mL) 0 0) 0 0 23 [some (.ref (gN G + 38)), some (.int (nI z)), some (.int (nI x)), some (.int s), some (.int y)] [] h1 := by
        intro r
        induction r with
        | zero =>
          intro p s y h1 hp hs hy q1 hf1
          subst hs; subst hy
          have e : p = x := by omega
          subst e
          refine a_iload 25 dX12_could_23 rfl rfl ?_
          refine a_iload_n 26 dX12_could_25 rfl rfl ?_
          refine a_icmp_ge 57 29 dX12_could_26 rfl (by decide) (fun c_26 => ?_) (fun c_26 => absurd (Int32.le_refl _) c_26)
          refine a_iload_n 58 dX12_could_57 rfl rfl ?_
          exact a_ireturn dX12_could_58 rfl rfl (Nat.le_of_ble_eq_true rfl) (Nat.le_of_ble_eq_true rfl) ⟨by rw [ea], ⟨i, j, q1⟩, kp_mono (kp_fr hf1) (by decide)⟩
        | succ r ih =>
          intro p s y h1 hp hs hy q1 hf1
          subst hs; subst hy
          have hm1 := q1.at
          have hle := nI_le0 (k := T.src z x p) (by have := src_lt o (j := x) (i := p) hz; omega)
          refine a_iload 25 dX12_could_23 rfl rfl ?_
          refine a_iload_n 26 dX12_could_25 rfl rfl ?_
          refine a_icmp_ge 57 29 dX12_could_26 rfl (by decide) (fun c_26 => absurd c_26 (nI_ge (a := p) (b := x) (by omega) (by omega))) (fun c_26 => ?_)
          refine a_iload_n 30 dX12_could_29 rfl rfl ?_
          refine a_aload_n 31 dX12_could_30 rfl rfl ?_
          refine a_iload_n 32 dX12_could_31 rfl rfl ?_
          refine a_iload_n 33 dX12_could_32 rfl rfl ?_
          refine a_iload 35 dX12_could_33 rfl rfl ?_
          refine a_callV ok_X12_source ln_X12_250 in_X12_source rfl 38 dX12_could_35 rfl (m_src q1 hz hx (by omega)) (by repeat (first | assumption | (refine rg_ne (by first | decide | omega) ?_) | apply rg_eq | refine rg_fr (by assumption) (by first | decide | (simp; omega)) ?_)) rfl rfl rfl ⟨(Nat.le_of_ble_eq_true rfl), (Nat.le_of_ble_eq_true rfl)⟩ (Nat.le_of_ble_eq_true rfl) ⟨(Nat.le_of_ble_eq_true rfl), (Nat.le_of_ble_eq_true rfl)⟩ ?_
          rintro h2 v ⟨rfl, hc2, hf2⟩
          refine a_if_le 48 41 dX12_could_38 rfl (by decide) (fun c_38 => ?_) (fun c_38 => ?_)
          · refine a_iconst (0) 49 dX12_could_48 rfl (by decide) ?_
            refine a_ior 50 dX12_could_49 rfl ?_
            refine a_istore_n 51 dX12_could_50 rfl (by decide) ?_
            refine a_iinc _ 54 dX12_could_51 rfl rfl (by decide) rfl ?_
            refine a_goto 23 dX12_could_54 (by decide) ?_
            exact ih (p + 1) _ _ _ (by omega) (bsN_f (P := fun p => decide (0 < T.src z x p)) (decide_eq_false (by rw [hle.mp c_38]; decide))) (nI_1 p) (q1.line hc2 hf2) (fr_trans hf1 hf2 (fun _ q => q))
          · refine a_iconst (1) 42 dX12_could_41 rfl (by decide) ?_
            refine a_iload 44 dX12_could_42 rfl rfl ?_
            refine a_ishl 45 dX12_could_44 rfl ?_
            refine a_goto 49 dX12_could_45 (by decide) ?_
            refine a_ior 50 dX12_could_49 rfl ?_
            refine a_istore_n 51 dX12_could_50 rfl (by decide) ?_
            refine a_iinc _ 54 dX12_could_51 rfl rfl (by decide) rfl ?_
            refine a_goto 23 dX12_could_54 (by decide) ?_
            exact ih (p + 1) _ _ _ (by omega) (bsN_t (P := fun p => decide (0 < T.src z x p)) (decide_eq_true (Nat.pos_of_ne_zero (fun q => c_38 (hle.mpr q))))) (nI_1 p) (q1.line hc2 hf2) (fr_trans hf1 hf2 (fun _ q => q))
      refine rM_start (by decide) (Nat.le_of_ble_eq_true rfl) ?_
      refine a_aload_n 1 dX12_could_0 rfl rfl ?_
      refine a_iload_n 2 dX12_could_1 rfl rfl ?_
      refine a_callV ok_X12_noLaw ln_X12_218 in_X12_noLaw rfl 5 dX12_could_2 rfl (m_noLaw q (nI z)) (by repeat (first | assumption | (refine rg_ne (by first | decide | omega) ?_) | apply rg_eq | refine rg_fr (by assumption) (by first | decide | (simp; omega)) ?_)) rfl rfl rfl ⟨(Nat.le_of_ble_eq_true rfl), (Nat.le_of_ble_eq_true rfl)⟩ (Nat.le_of_ble_eq_true rfl) ⟨(Nat.le_of_ble_eq_true rfl), (Nat.le_of_ble_eq_true rfl)⟩ ?_
      rintro _ _ ⟨rfl, rfl⟩
      refine a_if_ne 16 8 dX12_could_5 rfl (by decide) (fun c_5 => absurd (if_pos (oT_yes hz (by omega))) c_5) (fun c_5 => ?_)
      refine a_aload_n 9 dX12_could_8 rfl rfl ?_
      refine a_iload_n 10 dX12_could_9 rfl rfl ?_
      refine a_callV ok_X12_noYawn ln_X12_243 in_X12_noYawn rfl 13 dX12_could_10 rfl (m_noYawn q (nI x)) (by repeat (first | assumption | (refine rg_ne (by first | decide | omega) ?_) | apply rg_eq | refine rg_fr (by assumption) (by first | decide | (simp; omega)) ?_)) rfl rfl rfl ⟨(Nat.le_of_ble_eq_true rfl), (Nat.le_of_ble_eq_true rfl)⟩ (Nat.le_of_ble_eq_true rfl) ⟨(Nat.le_of_ble_eq_true rfl), (Nat.le_of_ble_eq_true rfl)⟩ ?_
      rintro _ _ ⟨rfl, rfl⟩
      refine a_if_eq 18 16 dX12_could_13 rfl (by decide) (fun c_13 => ?_) (fun c_13 => absurd (if_pos (oT_yes hx (by omega))) c_13)
      refine a_iconst (0) 19 dX12_could_18 rfl (by decide) ?_
      refine a_istore_n 20 dX12_could_19 rfl (by decide) ?_
      refine a_iconst (0) 21 dX12_could_20 rfl (by decide) ?_
      refine a_istore 23 dX12_could_21 rfl (by decide) ?_
      exact L x 0 _ _ _ (by omega) rfl rfl q (fr_refl _ _)
end MALL
