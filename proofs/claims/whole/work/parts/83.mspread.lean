/-! THE MODEL: spread -/
section MSPREAD
variable {l : Launch} {G : rG} {h : rH} {T : Tn} {i : Nat → Int32} {j : Nat → Int64}
set_option maxRecDepth 100000 in
set_option maxHeartbeats 400000 in
theorem m_spreadOf (q : mX G h T i j) (o : T.ok) {z : Nat} (hz : z < T.nl) : rM l G 5 mX12_spreadOf 0 0 [.ref (gN G + 38), .int (nI z)] h (fun h' v => v = some (.int (nI (sprT T z))) ∧ mX G h' T i j ∧ fr h h' [44]) := by
  have hm12 := o.m12
  have hn32 := o.n32
  have L : ∀ (r x : Nat) (s y : Int32) (o4 : Option Value) (h1 : rH), x + r = T.m → s = nI (sumN (fun x => sumN (fun y => mz T z x y) T.m) x) → y = nI x → mX G h1 T i j → fr h h1 [44] → rW l G (rRm 5 0 0) mX12_spreadOf (rZ G (fun h' v => v = some (.int (nI (sprT T z))) ∧ mX G h' T i j ∧ fr h h' [44]) 0 0) 0 0 4 [some (.ref (gN G + 38)), some (.int (nI z)), some (.int s), some (.int y), o4] [] h1 := by
    intro r
    induction r with
    | zero =>
      intro x s y o4 h1 hx hs hy q1 hf1
      subst hs; subst hy
      have e : x = T.m := by omega
      subst e
      have hm1 := q1.at
      have ho1 := q1.2.1.2.1
      refine a_iload_n 5 dX12_spreadOf_4 rfl rfl ?_
      refine a_aload_n 6 dX12_spreadOf_5 rfl rfl ?_
      refine a_get fd_X12_160 rfl 9 dX12_spreadOf_6 rfl (by repeat (first | assumption | (refine rg_ne (by first | decide | omega) ?_) | apply rg_eq | refine rg_fr (by assumption) (by first | decide | (simp; omega)) ?_)) rfl ?_
      refine a_icmp_ge 79 12 dX12_spreadOf_9 rfl (by decide) (fun c_9 => ?_) (fun c_9 => absurd (by rw [ho1]; exact Int32.le_refl _) c_9)
      refine a_iload_n 80 dX12_spreadOf_79 rfl rfl ?_
      exact a_ireturn dX12_spreadOf_80 rfl rfl (Nat.le_of_ble_eq_true rfl) (Nat.le_of_ble_eq_true rfl) ⟨rfl, q1, hf1⟩
    | succ r ih =>
      intro x s y o4 h1 hx hs hy q1 hf1
      subst hs; subst hy
      have hxm : x < T.m := by omega
      have hm1 := q1.at
      have ho1 := q1.2.1.2.1
      obtain ⟨-, -, -, -, ⟨f5, q5, q5'⟩, -⟩ := id q1.2.1
      have vx : vp_in (nI x) 12 := vp_in_nI (by omega) (by decide)
      have ex : (nI x).toNatClampNeg = x := nI_clamp (by omega)
      have e5 := (q5' x hxm).1
      have hsx : T.se x < T.n := o.sen hxm
      obtain ⟨⟨f, hg⟩, hn, hsn, hmi, hfa, hface, ⟨s0, hs0, hs00⟩, hL⟩ := id q1.1
      obtain ⟨s', hL', hB', hs0'⟩ := hL (T.se x) hsx
      have hseen : seenM T.nb T.bl T.mir T.face (T.se x) = s' := by
        unfold seenM
        rw [show lineM T.nb T.bl T.mir (T.face (T.se x)) (T.se x) = some s' from hL']
        rfl
      have hlay := k_X12_layLine (l := l) hg hn hsn hmi hfa (Nat.lt_of_lt_of_le hsx hn32) (hface (T.se x)) rfl hs0 hs00 hL'
      have L2 : ∀ (r2 y : Nat) (s y4 : Int32) (h1 : rH), y + r2 = T.m → s = nI (sumN (fun x => sumN (fun y => mz T z x y) T.m) x + sumN (fun y => mz T z x y) y) → y4 = nI y → mX G h1 T i j → fr h h1 [44] → h1[44]? = some (.inl (gA G 1, 32, .inl s')) → rW l G (rRm 5 0 0) mX12_spreadOf (rZ G (fun h' v => v = some (.int (nI (sprT T z))) ∧ mX G h' T i j ∧ fr h h' [44]) 0 0) 0 0 25 [some (.ref (gN G + 38)), some (.int (nI z)), some (.int s), some (.int (nI x)), some (.int y4)] [] h1 := by
        intro r2
        induction r2 with
        | zero =>
          intro y s y4 h1 hy hs h4 q1 hf1 h44
          subst hs; subst h4
          have e : y = T.m := by omega
          subst e
          have hm1 := q1.at
          have ho1 := q1.2.1.2.1
          refine a_iload 27 dX12_spreadOf_25 rfl rfl ?_
          refine a_aload_n 28 dX12_spreadOf_27 rfl rfl ?_
          refine a_get fd_X12_160 rfl 31 dX12_spreadOf_28 rfl (by repeat (first | assumption | (refine rg_ne (by first | decide | omega) ?_) | apply rg_eq | refine rg_fr (by assumption) (by first | decide | (simp; omega)) ?_)) rfl ?_
          refine a_icmp_ge 73 34 dX12_spreadOf_31 rfl (by decide) (fun c_31 => ?_) (fun c_31 => absurd (by rw [ho1]; exact Int32.le_refl _) c_31)
          refine a_iinc _ 76 dX12_spreadOf_73 rfl rfl (by decide) rfl ?_
          refine a_goto 4 dX12_spreadOf_76 (by decide) ?_
          exact ih (x + 1) _ _ _ _ (by omega) rfl (nI_1 x) q1 hf1
        | succ r2 ih2 =>
          intro y s y4 h1 hy hs h4 q1 hf1 h44
          subst hs; subst h4
          have hym : y < T.m := by omega
          have hm1 := q1.at
          have ho1 := q1.2.1.2.1
          obtain ⟨-, -, -, -, ⟨f5, q5, q5'⟩, -⟩ := id q1.2.1
          have vy : vp_in (nI y) 12 := vp_in_nI (by omega) (by decide)
          have ey : (nI y).toNatClampNeg = y := nI_clamp (by omega)
          have e5 := (q5' y hym).1
          have hsy : T.se y < 32 := Nat.lt_of_lt_of_le (o.sen hym) hn32
          have vs : vp_in (nI (T.se y)) 32 := vp_in_nI hsy (by decide)
          have es : (nI (T.se y)).toNatClampNeg = T.se y := nI_clamp (by omega)
          have hxy : nI x = nI y ↔ x = y := nI_eq (by omega) (by omega)
          have hb : s' (T.se y) = if decide (¬ s' (T.se y) = 0) then 1 else 0 := by
            rcases hB' (T.se y) with e | e
            · rw [e]; rfl
            · rw [e]; rfl
          have hmz : ¬ x = y → caughtN T.nb T.kd T.se T.ki T.nu z x y (decide (¬ s' (T.se y) = 0)) = mz T z x y := by
            intro hne
            unfold mz
            rw [if_neg hne]
            show _ = caughtN T.nb T.kd T.se T.ki T.nu z x y (decide (x ≠ y ∧ ¬ seenM T.nb T.bl T.mir T.face (T.se x) (T.se y) = 0))
            congr 1
            rw [hseen]
            exact decide_eq_decide.mpr ⟨fun v => ⟨hne, v⟩, fun v => v.2⟩
          refine a_iload 27 dX12_spreadOf_25 rfl rfl ?_
          refine a_aload_n 28 dX12_spreadOf_27 rfl rfl ?_
          refine a_get fd_X12_160 rfl 31 dX12_spreadOf_28 rfl (by repeat (first | assumption | (refine rg_ne (by first | decide | omega) ?_) | apply rg_eq | refine rg_fr (by assumption) (by first | decide | (simp; omega)) ?_)) rfl ?_
          refine a_icmp_ge 73 34 dX12_spreadOf_31 rfl (by decide) (fun c_31 => absurd c_31 (by rw [ho1]; exact nI_ge (a := y) (b := T.m) (by omega) (by omega))) (fun c_31 => ?_)
          refine a_iload_n 35 dX12_spreadOf_34 rfl rfl ?_
          refine a_iload_n 36 dX12_spreadOf_35 rfl rfl ?_
          refine a_iload 38 dX12_spreadOf_36 rfl rfl ?_
          refine a_icmp_ne 45 41 dX12_spreadOf_38 rfl (by decide) (fun c_38 => ?_) (fun c_38 => ?_)
          · refine a_aload_n 46 dX12_spreadOf_45 rfl rfl ?_
            refine a_iload_n 47 dX12_spreadOf_46 rfl rfl ?_
            refine a_iload_n 48 dX12_spreadOf_47 rfl rfl ?_
            refine a_iload 50 dX12_spreadOf_48 rfl rfl ?_
            refine a_aload_n 51 dX12_spreadOf_50 rfl rfl ?_
            refine a_get fd_X12_26 rfl 54 dX12_spreadOf_51 rfl (by repeat (first | assumption | (refine rg_ne (by first | decide | omega) ?_) | apply rg_eq | refine rg_fr (by assumption) (by first | decide | (simp; omega)) ?_)) rfl ?_
            refine a_aload_n 55 dX12_spreadOf_54 rfl rfl ?_
            refine a_get fd_X12_32 rfl 58 dX12_spreadOf_55 rfl (by repeat (first | assumption | (refine rg_ne (by first | decide | omega) ?_) | apply rg_eq | refine rg_fr (by assumption) (by first | decide | (simp; omega)) ?_)) rfl ?_
            refine a_iload 60 dX12_spreadOf_58 rfl rfl ?_
            refine a_iaload 61 dX12_spreadOf_60 rfl (by repeat (first | assumption | (refine rg_ne (by first | decide | omega) ?_) | apply rg_eq | refine rg_fr (by assumption) (by first | decide | (simp; omega)) ?_)) vy ?_
            rw [ey, e5]
            refine a_baload 62 dX12_spreadOf_61 rfl (by repeat (first | assumption | (refine rg_ne (by first | decide | omega) ?_) | apply rg_eq | refine rg_fr (by assumption) (by first | decide | (simp; omega)) ?_)) vs ?_
            rw [es, hb]
            refine a_callV ok_X12_caughtBy ln_X12_223 in_X12_caughtBy rfl 65 dX12_spreadOf_62 rfl (k_X12_caughtBy q1.1 q1.2.1 q1.2.2.1 hz hxm hym _) (by repeat (first | assumption | (refine rg_ne (by first | decide | omega) ?_) | apply rg_eq | refine rg_fr (by assumption) (by first | decide | (simp; omega)) ?_)) rfl rfl rfl ⟨(Nat.le_of_ble_eq_true rfl), (Nat.le_of_ble_eq_true rfl)⟩ (Nat.le_of_ble_eq_true rfl) ⟨(Nat.le_of_ble_eq_true rfl), (Nat.le_of_ble_eq_true rfl)⟩ ?_
            rintro _ _ ⟨rfl, rfl⟩
            refine a_iadd 66 dX12_spreadOf_65 rfl ?_
            refine a_istore_n 67 dX12_spreadOf_66 rfl (by decide) ?_
            refine a_iinc _ 70 dX12_spreadOf_67 rfl rfl (by decide) rfl ?_
            refine a_goto 25 dX12_spreadOf_70 (by decide) ?_
            exact ih2 (y + 1) _ _ _ (by omega) (by rw [sumN, hmz (fun v => c_38 (hxy.mpr v)), ← Nat.add_assoc, nI_add]) (nI_1 y) q1 hf1 h44
          · refine a_iconst (0) 42 dX12_spreadOf_41 rfl (by decide) ?_
            refine a_goto 65 dX12_spreadOf_42 (by decide) ?_
            refine a_iadd 66 dX12_spreadOf_65 rfl ?_
            refine a_istore_n 67 dX12_spreadOf_66 rfl (by decide) ?_
            refine a_iinc _ 70 dX12_spreadOf_67 rfl rfl (by decide) rfl ?_
            refine a_goto 25 dX12_spreadOf_70 (by decide) ?_
            exact ih2 (y + 1) _ _ _ (by omega) (by rw [sumN, show mz T z x y = 0 from if_pos (hxy.mp c_38)]; exact Int32.add_zero _) (nI_1 y) q1 hf1 h44
      refine a_iload_n 5 dX12_spreadOf_4 rfl rfl ?_
      refine a_aload_n 6 dX12_spreadOf_5 rfl rfl ?_
      refine a_get fd_X12_160 rfl 9 dX12_spreadOf_6 rfl (by repeat (first | assumption | (refine rg_ne (by first | decide | omega) ?_) | apply rg_eq | refine rg_fr (by assumption) (by first | decide | (simp; omega)) ?_)) rfl ?_
      refine a_icmp_ge 79 12 dX12_spreadOf_9 rfl (by decide) (fun c_9 => absurd c_9 (by rw [ho1]; exact nI_ge (a := x) (b := T.m) (by omega) (by omega))) (fun c_9 => ?_)
      refine a_aload_n 13 dX12_spreadOf_12 rfl rfl ?_
      refine a_aload_n 14 dX12_spreadOf_13 rfl rfl ?_
      refine a_get fd_X12_32 rfl 17 dX12_spreadOf_14 rfl (by repeat (first | assumption | (refine rg_ne (by first | decide | omega) ?_) | apply rg_eq | refine rg_fr (by assumption) (by first | decide | (simp; omega)) ?_)) rfl ?_
      refine a_iload_n 18 dX12_spreadOf_17 rfl rfl ?_
      refine a_iaload 19 dX12_spreadOf_18 rfl (by repeat (first | assumption | (refine rg_ne (by first | decide | omega) ?_) | apply rg_eq | refine rg_fr (by assumption) (by first | decide | (simp; omega)) ?_)) vx ?_
      rw [ex, e5]
      refine a_callV ok_X12_layLine ln_X12_178 in_X12_layLine rfl 22 dX12_spreadOf_19 rfl (hlay) (by repeat (first | assumption | (refine rg_ne (by first | decide | omega) ?_) | apply rg_eq | refine rg_fr (by assumption) (by first | decide | (simp; omega)) ?_)) rfl rfl rfl ⟨(Nat.le_of_ble_eq_true rfl), (Nat.le_of_ble_eq_true rfl)⟩ (Nat.le_of_ble_eq_true rfl) ⟨(Nat.le_of_ble_eq_true rfl), (Nat.le_of_ble_eq_true rfl)⟩ ?_
      rintro h2 v ⟨rfl, hs2, hf2⟩
      refine a_iconst (0) 23 dX12_spreadOf_22 rfl (by decide) ?_
      refine a_istore 25 dX12_spreadOf_23 rfl (by decide) ?_
      exact L2 T.m 0 _ _ _ (by omega) rfl rfl (q1.line (q1.1.line hs2 hs0' hf2 (by decide) (by decide) (by decide) (by decide) (by decide)) hf2) (fr_trans hf1 hf2 (fun _ q => q)) hs2
  refine rM_start (by decide) (Nat.le_of_ble_eq_true rfl) ?_
  refine a_iconst (0) 1 dX12_spreadOf_0 rfl (by decide) ?_
  refine a_istore_n 2 dX12_spreadOf_1 rfl (by decide) ?_
  refine a_iconst (0) 3 dX12_spreadOf_2 rfl (by decide) ?_
  refine a_istore_n 4 dX12_spreadOf_3 rfl (by decide) ?_
  exact L T.m 0 _ _ _ _ (by omega) rfl rfl q (fr_refl _ _)
set_option maxRecDepth 100000 in
set_option maxHeartbeats 400000 in
theorem m_spread (q : mAll G h T) (o : T.ok) (c : Int32) : rM l G 12 mX12_spread 0 0 [.ref (gN G + 38), .int c] h (fun h' v => v = some (.int (aSpread T c)) ∧ mAll G h' T ∧ kp h h' mL) := by
  obtain ⟨i, j, q⟩ := q
  have hnl := o.nl6
  have hm := q.at
  rcases oT_cases (n := T.nl) (by omega) c with ⟨e, hc⟩ | ⟨z, hz, rfl, e⟩
  · have ea : aSpread T c = -1 := by unfold aSpread; rw [e]
    refine rM_start (by decide) (Nat.le_of_ble_eq_true rfl) ?_
    refine a_aload_n 1 dX12_spread_0 rfl rfl ?_
    refine a_iload_n 2 dX12_spread_1 rfl rfl ?_
    refine a_callV ok_X12_noLaw ln_X12_218 in_X12_noLaw rfl 5 dX12_spread_2 rfl (m_noLaw q c) (by repeat (first | assumption | (refine rg_ne (by first | decide | omega) ?_) | apply rg_eq | refine rg_fr (by assumption) (by first | decide | (simp; omega)) ?_)) rfl rfl rfl ⟨(Nat.le_of_ble_eq_true rfl), (Nat.le_of_ble_eq_true rfl)⟩ (Nat.le_of_ble_eq_true rfl) ⟨(Nat.le_of_ble_eq_true rfl), (Nat.le_of_ble_eq_true rfl)⟩ ?_
    rintro _ _ ⟨rfl, rfl⟩
    refine a_if_eq 12 8 dX12_spread_5 rfl (by decide) (fun c_5 => absurd c_5 (by rw [if_neg hc]; decide)) (fun c_5 => ?_)
    refine a_iconst (-1) 9 dX12_spread_8 rfl (by decide) ?_
    refine a_goto 17 dX12_spread_9 (by decide) ?_
    exact a_ireturn dX12_spread_17 rfl rfl (Nat.le_of_ble_eq_true rfl) (Nat.le_of_ble_eq_true rfl) ⟨by rw [ea], ⟨i, j, q⟩, fun _ _ _ => rfl⟩
  · have ea : aSpread T (nI z) = nI (sprT T z) := by unfold aSpread; rw [e]
    refine rM_start (by decide) (Nat.le_of_ble_eq_true rfl) ?_
    refine a_aload_n 1 dX12_spread_0 rfl rfl ?_
    refine a_iload_n 2 dX12_spread_1 rfl rfl ?_
    refine a_callV ok_X12_noLaw ln_X12_218 in_X12_noLaw rfl 5 dX12_spread_2 rfl (m_noLaw q (nI z)) (by repeat (first | assumption | (refine rg_ne (by first | decide | omega) ?_) | apply rg_eq | refine rg_fr (by assumption) (by first | decide | (simp; omega)) ?_)) rfl rfl rfl ⟨(Nat.le_of_ble_eq_true rfl), (Nat.le_of_ble_eq_true rfl)⟩ (Nat.le_of_ble_eq_true rfl) ⟨(Nat.le_of_ble_eq_true rfl), (Nat.le_of_ble_eq_true rfl)⟩ ?_
    rintro _ _ ⟨rfl, rfl⟩
    refine a_if_eq 12 8 dX12_spread_5 rfl (by decide) (fun c_5 => ?_) (fun c_5 => absurd (if_pos (oT_yes hz (by omega))) c_5)
    refine a_aload_n 13 dX12_spread_12 rfl rfl ?_
    refine a_iload_n 14 dX12_spread_13 rfl rfl ?_
    refine a_callV ok_X12_spreadOf ln_X12_277 in_X12_spreadOf rfl 17 dX12_spread_14 rfl (m_spreadOf q o hz) (by repeat (first | assumption | (refine rg_ne (by first | decide | omega) ?_) | apply rg_eq | refine rg_fr (by assumption) (by first | decide | (simp; omega)) ?_)) rfl rfl rfl ⟨(Nat.le_of_ble_eq_true rfl), (Nat.le_of_ble_eq_true rfl)⟩ (Nat.le_of_ble_eq_true rfl) ⟨(Nat.le_of_ble_eq_true rfl), (Nat.le_of_ble_eq_true rfl)⟩ ?_
    rintro h2 v ⟨rfl, q2, hf2⟩
    exact a_ireturn dX12_spread_17 rfl rfl (Nat.le_of_ble_eq_true rfl) (Nat.le_of_ble_eq_true rfl) ⟨by rw [ea], ⟨i, j, q2⟩, kp_mono (kp_fr hf2) (by decide)⟩
end MSPREAD
