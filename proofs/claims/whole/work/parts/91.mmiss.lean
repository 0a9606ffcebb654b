/-! THE MODEL: the yawn missed -/
theorem andN_ff {P : Nat → Bool} {p n : Nat} (h : ¬ andN P p = true) (hn : p ≤ n) : andN P n = false := by
  induction n with
  | zero =>
    have e : p = 0 := by omega
    subst e
    exact absurd rfl h
  | succ n ih =>
    by_cases e : p = n + 1
    · subst e; exact Bool.eq_false_iff.mpr h
    · rw [andN, ih (by omega)]; rfl
section MMISS
variable {l : Launch} {G : rG} {h : rH} {T : Tn} {i : Nat → Int32} {j : Nat → Int64}
set_option maxRecDepth 100000 in
set_option maxHeartbeats 400000 in
theorem k_X12_doesMend (q : mX G h T i j) (o : T.ok) {z t y : Nat} (hz : z < T.nl) (ht : t < 2 ^ 30) (hym : y < T.m) : rM l G 10 mX12_doesMend 0 0 [.ref (gN G + 38), .int (nI z), .int (nI t), .int (nI y)] h (fun h' v => v = some (.int (if menT T z t y then 1 else 0)) ∧ mX G h' T i j ∧ fr h h' [44]) := by
  have hny := o.ny24
  have L : ∀ (r p : Nat) (s y5 : Int32) (h1 : rH), p + r = T.ny → s = (if andN (fun j => decide (0 < fromN T.nu (T.mi z) z (T.ym j) (T.yw j) t y) || decide (0 < T.all z j)) p then 1 else 0) → y5 = nI p → mX G h1 T i j → fr h h1 [44] → rW l G (rRm 10 0 0) mX12_doesMend (rZ G (fun h' v => v = some (.int (if menT T z t y then 1 else 0)) ∧ mX G h' T i j ∧ fr h h' [44]) 0 0) 0 0 6 [some (.ref (gN G + 38)), some (.int (nI z)), some (.int (nI t)), some (.int (nI y)), some (.int s), some (.int y5)] [] h1 := by
    intro r
    induction r with
    | zero =>
      intro p s y5 h1 hp hs hy5 q1 hf1
      subst hs; subst hy5
      have e : p = T.ny := by omega
      subst e
      have hm1 := q1.at
      have hny1 := q1.2.2.2.1.2.1
      refine a_iload 8 dX12_doesMend_6 rfl rfl ?_
      refine a_aload_n 9 dX12_doesMend_8 rfl rfl ?_
      refine a_get fd_X12_163 rfl 12 dX12_doesMend_9 rfl (by repeat (first | assumption | (refine rg_ne (by first | decide | omega) ?_) | apply rg_eq | refine rg_fr (by assumption) (by first | decide | (simp; omega)) ?_)) rfl ?_
      refine a_icmp_ge 67 15 dX12_doesMend_12 rfl (by decide) (fun c_12 => ?_) (fun c_12 => absurd (by rw [hny1]; exact Int32.le_refl _) c_12)
      refine a_iload 69 dX12_doesMend_67 rfl rfl ?_
      exact a_ireturn dX12_doesMend_69 rfl (nb01 (by split; exact Or.inr rfl; exact Or.inl rfl)) (Nat.le_of_ble_eq_true rfl) (Nat.le_of_ble_eq_true rfl) ⟨rfl, q1, hf1⟩
    | succ r ih =>
      intro p s y5 h1 hp hs hy5 q1 hf1
      subst hy5
      have hm1 := q1.at
      have hny1 := q1.2.2.2.1.2.1
      by_cases ha : andN (fun j => decide (0 < fromN T.nu (T.mi z) z (T.ym j) (T.yw j) t y) || decide (0 < T.all z j)) p = true
      · rw [if_pos ha] at hs
        subst hs
        obtain ⟨g6, e4, e5⟩ := q1.2.2.2.1.2.2.2.1
        obtain ⟨g7, e6, e7⟩ := q1.2.2.2.1.2.2.2.2
        have vp : vp_in (nI p) 24 := vp_in_nI (by omega) (by decide)
        have ep : (nI p).toNatClampNeg = p := nI_clamp (by omega)
        have h5 := e5 p (by omega)
        have h7 := e7 p (by omega)
        have hal := all_lt o (q := p) hz (by omega)
        have hmz := mi_lt o (x := T.yw p) (y := y) hz
        have hfl : fromN T.nu (T.mi z) z (T.ym p) (T.yw p) t y ≤ T.mi z (T.yw p) y := by unfold fromN; split <;> omega
        have hle1 := nI_le0 (k := fromN T.nu (T.mi z) z (T.ym p) (T.yw p) t y) (by omega)
        have hle2 := nI_le0 (k := T.all z p) (by omega)
        have st : ∀ b : Bool, b = (decide (0 < fromN T.nu (T.mi z) z (T.ym p) (T.yw p) t y) || decide (0 < T.all z p)) → (if b = true then (1 : Int32) else 0) = if andN (fun j => decide (0 < fromN T.nu (T.mi z) z (T.ym j) (T.yw j) t y) || decide (0 < T.all z j)) (p + 1) then 1 else 0 := by
          intro b hb
          rw [andN, ha, Bool.true_and, hb]
        refine a_iload 8 dX12_doesMend_6 rfl rfl ?_
        refine a_aload_n 9 dX12_doesMend_8 rfl rfl ?_
        refine a_get fd_X12_163 rfl 12 dX12_doesMend_9 rfl (by repeat (first | assumption | (refine rg_ne (by first | decide | omega) ?_) | apply rg_eq | refine rg_fr (by assumption) (by first | decide | (simp; omega)) ?_)) rfl ?_
        refine a_icmp_ge 67 15 dX12_doesMend_12 rfl (by decide) (fun c_12 => absurd c_12 (by rw [hny1]; exact nI_ge (a := p) (b := T.ny) (by omega) (by omega))) (fun c_12 => ?_)
        refine a_iload 17 dX12_doesMend_15 rfl rfl ?_
        refine a_if_eq 67 20 dX12_doesMend_17 rfl (by decide) (fun c_17 => absurd c_17 (by decide)) (fun c_17 => ?_)
        refine a_aload_n 21 dX12_doesMend_20 rfl rfl ?_
        refine a_iload_n 22 dX12_doesMend_21 rfl rfl ?_
        refine a_aload_n 23 dX12_doesMend_22 rfl rfl ?_
        refine a_get fd_X12_47 rfl 26 dX12_doesMend_23 rfl (by repeat (first | assumption | (refine rg_ne (by first | decide | omega) ?_) | apply rg_eq | refine rg_fr (by assumption) (by first | decide | (simp; omega)) ?_)) rfl ?_
        refine a_iload 28 dX12_doesMend_26 rfl rfl ?_
        refine a_iaload 29 dX12_doesMend_28 rfl (by repeat (first | assumption | (refine rg_ne (by first | decide | omega) ?_) | apply rg_eq | refine rg_fr (by assumption) (by first | decide | (simp; omega)) ?_)) vp ?_
        rw [ep, h5.1]
        refine a_aload_n 30 dX12_doesMend_29 rfl rfl ?_
        refine a_get fd_X12_50 rfl 33 dX12_doesMend_30 rfl (by repeat (first | assumption | (refine rg_ne (by first | decide | omega) ?_) | apply rg_eq | refine rg_fr (by assumption) (by first | decide | (simp; omega)) ?_)) rfl ?_
        refine a_iload 35 dX12_doesMend_33 rfl rfl ?_
        refine a_iaload 36 dX12_doesMend_35 rfl (by repeat (first | assumption | (refine rg_ne (by first | decide | omega) ?_) | apply rg_eq | refine rg_fr (by assumption) (by first | decide | (simp; omega)) ?_)) vp ?_
        rw [ep, h7.1]
        refine a_iload_n 37 dX12_doesMend_36 rfl rfl ?_
        refine a_iload_n 38 dX12_doesMend_37 rfl rfl ?_
        refine a_callV ok_X12_mightFrom ln_X12_246 in_X12_mightFrom rfl 41 dX12_doesMend_38 rfl (k_X12_mightFrom q1.1 q1.2.1 q1.2.2.1 hz h7.2 hym (by omega) (by omega)) (by repeat (first | assumption | (refine rg_ne (by first | decide | omega) ?_) | apply rg_eq | refine rg_fr (by assumption) (by first | decide | (simp; omega)) ?_)) rfl rfl rfl ⟨(Nat.le_of_ble_eq_true rfl), (Nat.le_of_ble_eq_true rfl)⟩ (Nat.le_of_ble_eq_true rfl) ⟨(Nat.le_of_ble_eq_true rfl), (Nat.le_of_ble_eq_true rfl)⟩ ?_
        rintro h2 v ⟨rfl, hc2, hf2⟩
        have q2 := q1.line hc2 hf2
        have hf3 := fr_trans hf1 hf2 (fun _ q => q)
        have hm2 := q2.at
        refine a_if_gt 54 44 dX12_doesMend_41 rfl (by decide) (fun c_41 => ?_) (fun c_41 => ?_)
        · refine a_iconst (1) 55 dX12_doesMend_54 rfl (by decide) ?_
          refine a_goto 59 dX12_doesMend_55 (by decide) ?_
          refine a_istore 61 dX12_doesMend_59 rfl (by decide) ?_
          refine a_iinc _ 64 dX12_doesMend_61 rfl rfl (by decide) rfl ?_
          refine a_goto 6 dX12_doesMend_64 (by decide) ?_
          exact ih (p + 1) _ _ _ (by omega) (st true (by rw [decide_eq_true (Nat.pos_of_ne_zero (fun e => (Int32.not_le.mpr c_41) (hle1.mpr e)))]; rfl)) (nI_1 p) q2 hf3
        · refine a_aload_n 45 dX12_doesMend_44 rfl rfl ?_
          refine a_iload_n 46 dX12_doesMend_45 rfl rfl ?_
          refine a_iload 48 dX12_doesMend_46 rfl rfl ?_
          refine a_callV ok_X12_allSources ln_X12_253 in_X12_allSources rfl 51 dX12_doesMend_48 rfl (m_all q2 hz (by omega)) (by repeat (first | assumption | (refine rg_ne (by first | decide | omega) ?_) | apply rg_eq | refine rg_fr (by assumption) (by first | decide | (simp; omega)) ?_)) rfl rfl rfl ⟨(Nat.le_of_ble_eq_true rfl), (Nat.le_of_ble_eq_true rfl)⟩ (Nat.le_of_ble_eq_true rfl) ⟨(Nat.le_of_ble_eq_true rfl), (Nat.le_of_ble_eq_true rfl)⟩ ?_
          rintro h3 v ⟨rfl, hc3, hf4⟩
          have q3 := q2.line hc3 hf4
          have hf5 := fr_trans hf3 hf4 (fun _ q => q)
          have hm3 := q3.at
          refine a_if_le 58 54 dX12_doesMend_51 rfl (by decide) (fun c_51 => ?_) (fun c_51 => ?_)
          · refine a_iconst (0) 59 dX12_doesMend_58 rfl (by decide) ?_
            refine a_istore 61 dX12_doesMend_59 rfl (by decide) ?_
            refine a_iinc _ 64 dX12_doesMend_61 rfl rfl (by decide) rfl ?_
            refine a_goto 6 dX12_doesMend_64 (by decide) ?_
            exact ih (p + 1) _ _ _ (by omega) (st false (by rw [hle1.mp (Int32.not_lt.mp c_41), hle2.mp c_51]; rfl)) (nI_1 p) q3 hf5
          · refine a_iconst (1) 55 dX12_doesMend_54 rfl (by decide) ?_
            refine a_goto 59 dX12_doesMend_55 (by decide) ?_
            refine a_istore 61 dX12_doesMend_59 rfl (by decide) ?_
            refine a_iinc _ 64 dX12_doesMend_61 rfl rfl (by decide) rfl ?_
            refine a_goto 6 dX12_doesMend_64 (by decide) ?_
            exact ih (p + 1) _ _ _ (by omega) (st true (by rw [decide_eq_true (Nat.pos_of_ne_zero (fun e => c_51 (hle2.mpr e))), Bool.or_true])) (nI_1 p) q3 hf5
      · rw [if_neg ha] at hs
        subst hs
        have hno : menT T z t y = false := andN_ff ha (by omega)
        refine a_iload 8 dX12_doesMend_6 rfl rfl ?_
        refine a_aload_n 9 dX12_doesMend_8 rfl rfl ?_
        refine a_get fd_X12_163 rfl 12 dX12_doesMend_9 rfl (by repeat (first | assumption | (refine rg_ne (by first | decide | omega) ?_) | apply rg_eq | refine rg_fr (by assumption) (by first | decide | (simp; omega)) ?_)) rfl ?_
        refine a_icmp_ge 67 15 dX12_doesMend_12 rfl (by decide) (fun c_12 => absurd c_12 (by rw [hny1]; exact nI_ge (a := p) (b := T.ny) (by omega) (by omega))) (fun c_12 => ?_)
        refine a_iload 17 dX12_doesMend_15 rfl rfl ?_
        refine a_if_eq 67 20 dX12_doesMend_17 rfl (by decide) (fun c_17 => ?_) (fun c_17 => absurd rfl c_17)
        refine a_iload 69 dX12_doesMend_67 rfl rfl ?_
        exact a_ireturn dX12_doesMend_69 rfl rfl (Nat.le_of_ble_eq_true rfl) (Nat.le_of_ble_eq_true rfl) ⟨by rw [hno]; rfl, q1, hf1⟩
  refine rM_start (by decide) (Nat.le_of_ble_eq_true rfl) ?_
  refine a_iconst (1) 1 dX12_doesMend_0 rfl (by decide) ?_
  refine a_istore 3 dX12_doesMend_1 rfl (by decide) ?_
  refine a_iconst (0) 4 dX12_doesMend_3 rfl (by decide) ?_
  refine a_istore 6 dX12_doesMend_4 rfl (by decide) ?_
  exact L T.ny 0 _ _ _ (by omega) rfl rfl q (fr_refl _ _)
end MMISS
