/-! THE MODEL's calls over a law's mights, on -/
theorem goes_e {b : Bool} {v : Int32} (h : ((if b then (0 : Int32) else 1) = 0 ∧ v = 0) ∨ (¬ (if b then (0 : Int32) else 1) = 0 ∧ v = 1)) : some (Value.int v) = some (.int (if b then 0 else 1)) := by
  cases b
  · rcases h with ⟨h, -⟩ | ⟨-, h⟩
    · exact absurd h (by decide)
    · rw [h]; rfl
  · rcases h with ⟨-, h⟩ | ⟨h, -⟩
    · rw [h]; rfl
    · exact absurd rfl h
theorem goes_1 {P : Nat → Bool} {x : Nat} {s : Int32} (hs : s = if andN P x then 0 else 1) (h : ¬ s = 0) : (1 : Int32) = if andN P (x + 1) then 0 else 1 := by
  rw [andN]
  cases hP : andN P x
  · rfl
  · rw [hP] at hs; exact absurd hs h
theorem goes_2 {Q : Nat → Prop} {x : Nat} {s : Int32} {d : ∀ x, Decidable (Q x)} (hs : s = if andN (fun x => @decide (Q x) (d x)) x then 0 else 1) (h : s = 0) (hq : Q x) : (0 : Int32) = if andN (fun x => @decide (Q x) (d x)) (x + 1) then 0 else 1 := by
  rw [andN]
  cases hP : andN (fun x => @decide (Q x) (d x)) x
  · rw [hP, h] at hs; exact absurd hs (by decide)
  · rw [decide_eq_true hq]; rfl
theorem goes_3 {Q : Nat → Prop} {x : Nat} {s : Int32} {d : ∀ x, Decidable (Q x)} (hs : s = if andN (fun x => @decide (Q x) (d x)) x then 0 else 1) (h : s = 0) (hq : ¬ Q x) : (1 : Int32) = if andN (fun x => @decide (Q x) (d x)) (x + 1) then 0 else 1 := by
  rw [andN, decide_eq_false hq, Bool.and_false]
  rfl
section MPUB2
variable {l : Launch} {G : rG} {h : rH} {T : Tn}
set_option maxRecDepth 100000 in
set_option maxHeartbeats 400000 in
theorem m_most (q : mAll G h T) (o : T.ok) (c : Int32) : rM l G 12 mX12_most 0 0 [.ref (gN G + 38), .int c] h (fun h' v => v = some (.int (aMost T c)) ∧ mAll G h' T ∧ kp h h' mL) := by
  obtain ⟨i, j, q⟩ := q
  have hnl := o.nl6
  have hny := o.ny24
  have hm12 := o.m12
  have hm := q.at
  rcases oT_cases (n := T.nl) (by omega) c with ⟨e, hc⟩ | ⟨z, hz, rfl, e⟩
  · have ea : aMost T c = -1 := by unfold aMost; rw [e]
    refine rM_start (by decide) (Nat.le_of_ble_eq_true rfl) ?_
    refine a_aload_n 1 dX12_most_0 rfl rfl ?_
    refine a_iload_n 2 dX12_most_1 rfl rfl ?_
    refine a_callV ok_X12_noLaw ln_X12_218 in_X12_noLaw rfl 5 dX12_most_2 rfl (m_noLaw q c) (by repeat (first | assumption | (refine rg_ne (by first | decide | omega) ?_) | apply rg_eq | refine rg_fr (by assumption) (by first | decide | (simp; omega)) ?_)) rfl rfl rfl ⟨(Nat.le_of_ble_eq_true rfl), (Nat.le_of_ble_eq_true rfl)⟩ (Nat.le_of_ble_eq_true rfl) ⟨(Nat.le_of_ble_eq_true rfl), (Nat.le_of_ble_eq_true rfl)⟩ ?_
    rintro _ _ ⟨rfl, rfl⟩
    refine a_if_eq 10 8 dX12_most_5 rfl (by decide) (fun c_5 => absurd c_5 (by rw [if_neg hc]; decide)) (fun c_5 => ?_)
    refine a_iconst (-1) 9 dX12_most_8 rfl (by decide) ?_
    exact a_ireturn dX12_most_9 rfl rfl (Nat.le_of_ble_eq_true rfl) (Nat.le_of_ble_eq_true rfl) ⟨by rw [ea], ⟨i, j, q⟩, fun _ _ _ => rfl⟩
  · have ea : aMost T (nI z) = if barT T z = none then noI (mosT T z T.m) else -3 := by unfold aMost; rw [e]
    have hb0 := bar_lt0 o (z := z)
    by_cases hb : barT T z = none
    · rw [if_pos hb] at ea
      have hbs := fun p (hp : p < T.ny) => Nat.pos_of_ne_zero (of_decide_eq_false (firstN_no hb p (Nat.zero_le _) (by omega)))
      have hlt := fun x => cauT_lt o (z := z) (x := x) hbs
      have L : ∀ (r x : Nat) (s g y : Int32) (o5 : Option Value) (h1 : rH), x + r = T.m → s = noI (mosT T z x) → g = (match mosT T z x with | none => -1 | some b => nI (cauT T z b)) → y = nI x → mX G h1 T i j → fr h h1 [44] → rW l G (rRm 12 0 0) mX12_most (rZ G (fun h' v => v = some (.int (aMost T (nI z))) ∧ mAll G h' T ∧ kp h h' mL) 0 0) 0 0 29 [some (.ref (gN G + 38)), some (.int (nI z)), some (.int s), some (.int g), some (.int y), o5] [] h1 := by
        intro r
        induction r with
        | zero =>
          intro x s g y o5 h1 hx hs hg hy q1 hf1
          subst hs; subst hg; subst hy
          have e : x = T.m := by omega
          subst e
          have hm1 := q1.at
          have ho1 := q1.2.1.2.1
          refine a_iload 31 dX12_most_29 rfl rfl ?_
          refine a_aload_n 32 dX12_most_31 rfl rfl ?_
          refine a_get fd_X12_160 rfl 35 dX12_most_32 rfl (by repeat (first | assumption | (refine rg_ne (by first | decide | omega) ?_) | apply rg_eq | refine rg_fr (by assumption) (by first | decide | (simp; omega)) ?_)) rfl ?_
          refine a_icmp_ge 79 38 dX12_most_35 rfl (by decide) (fun c_35 => ?_) (fun c_35 => absurd (by rw [ho1]; exact Int32.le_refl _) c_35)
          refine a_iload_n 80 dX12_most_79 rfl rfl ?_
          exact a_ireturn dX12_most_80 rfl rfl (Nat.le_of_ble_eq_true rfl) (Nat.le_of_ble_eq_true rfl) ⟨by rw [ea], ⟨i, j, q1⟩, kp_mono (kp_fr hf1) (by decide)⟩
        | succ r ih =>
          intro x s g y o5 h1 hx hs hg hy q1 hf1
          subst hy
          have hm1 := q1.at
          have ho1 := q1.2.1.2.1
          have hl := hlt x
          cases hmo : mosT T z x with
          | none =>
            rw [hmo] at hs hg
            have hs2 : s = -9 := hs
            have hg2 : g = -1 := hg
            subst hs2; subst hg2
            have h0 : ¬ nI (cauT T z x) ≤ -1 := by
              intro w
              rw [i_le, nI_toInt (by omega)] at w
              have : (-1 : Int32).toInt = -1 := rfl
              omega
            refine a_iload 31 dX12_most_29 rfl rfl ?_
            refine a_aload_n 32 dX12_most_31 rfl rfl ?_
            refine a_get fd_X12_160 rfl 35 dX12_most_32 rfl (by repeat (first | assumption | (refine rg_ne (by first | decide | omega) ?_) | apply rg_eq | refine rg_fr (by assumption) (by first | decide | (simp; omega)) ?_)) rfl ?_
            refine a_icmp_ge 79 38 dX12_most_35 rfl (by decide) (fun c_35 => absurd c_35 (by rw [ho1]; exact nI_ge (a := x) (b := T.m) (by omega) (by omega))) (fun c_35 => ?_)
            refine a_aload_n 39 dX12_most_38 rfl rfl ?_
            refine a_iload_n 40 dX12_most_39 rfl rfl ?_
            refine a_iload 42 dX12_most_40 rfl rfl ?_
            refine a_callV ok_X12_causesOf ln_X12_266 in_X12_causesOf rfl 45 dX12_most_42 rfl (k_X12_causesOf q1 o hz (by omega) hb) (by repeat (first | assumption | (refine rg_ne (by first | decide | omega) ?_) | apply rg_eq | refine rg_fr (by assumption) (by first | decide | (simp; omega)) ?_)) rfl rfl rfl ⟨(Nat.le_of_ble_eq_true rfl), (Nat.le_of_ble_eq_true rfl)⟩ (Nat.le_of_ble_eq_true rfl) ⟨(Nat.le_of_ble_eq_true rfl), (Nat.le_of_ble_eq_true rfl)⟩ ?_
            rintro h2 v ⟨rfl, q2, hf2⟩
            refine a_istore 47 dX12_most_45 rfl (by decide) ?_
            refine a_iload 49 dX12_most_47 rfl rfl ?_
            refine a_iload_n 50 dX12_most_49 rfl rfl ?_
            refine a_icmp_le 58 53 dX12_most_50 rfl (by decide) (fun c_50 => absurd c_50 h0) (fun c_50 => ?_)
            refine a_iload 55 dX12_most_53 rfl rfl ?_
            refine a_goto 59 dX12_most_55 (by decide) ?_
            refine a_istore_n 60 dX12_most_59 rfl (by decide) ?_
            refine a_iload 62 dX12_most_60 rfl rfl ?_
            refine a_iload_n 63 dX12_most_62 rfl rfl ?_
            refine a_icmp_le 71 66 dX12_most_63 rfl (by decide) (fun c_63 => absurd c_63 h0) (fun c_63 => ?_)
            refine a_iload 68 dX12_most_66 rfl rfl ?_
            refine a_goto 72 dX12_most_68 (by decide) ?_
            refine a_istore_n 73 dX12_most_72 rfl (by decide) ?_
            refine a_iinc _ 76 dX12_most_73 rfl rfl (by decide) rfl ?_
            refine a_goto 29 dX12_most_76 (by decide) ?_
            exact ih (x + 1) _ _ _ _ _ (by omega) (by rw [mosT, hmo]) (by rw [mosT, hmo]) (nI_1 x) q2 (fr_trans hf1 hf2 (fun _ q => q))
          | some b =>
            rw [hmo] at hs hg
            have hs2 : s = nI b := hs
            have hg2 : g = nI (cauT T z b) := hg
            subst hs2; subst hg2
            have hlb := hlt b
            by_cases hlt2 : cauT T z b < cauT T z x
            · have h0 : ¬ nI (cauT T z x) ≤ nI (cauT T z b) := nI_ge hlt2 (by omega)
              refine a_iload 31 dX12_most_29 rfl rfl ?_
              refine a_aload_n 32 dX12_most_31 rfl rfl ?_
              refine a_get fd_X12_160 rfl 35 dX12_most_32 rfl (by repeat (first | assumption | (refine rg_ne (by first | decide | omega) ?_) | apply rg_eq | refine rg_fr (by assumption) (by first | decide | (simp; omega)) ?_)) rfl ?_
              refine a_icmp_ge 79 38 dX12_most_35 rfl (by decide) (fun c_35 => absurd c_35 (by rw [ho1]; exact nI_ge (a := x) (b := T.m) (by omega) (by omega))) (fun c_35 => ?_)
              refine a_aload_n 39 dX12_most_38 rfl rfl ?_
              refine a_iload_n 40 dX12_most_39 rfl rfl ?_
              refine a_iload 42 dX12_most_40 rfl rfl ?_
              refine a_callV ok_X12_causesOf ln_X12_266 in_X12_causesOf rfl 45 dX12_most_42 rfl (k_X12_causesOf q1 o hz (by omega) hb) (by repeat (first | assumption | (refine rg_ne (by first | decide | omega) ?_) | apply rg_eq | refine rg_fr (by assumption) (by first | decide | (simp; omega)) ?_)) rfl rfl rfl ⟨(Nat.le_of_ble_eq_true rfl), (Nat.le_of_ble_eq_true rfl)⟩ (Nat.le_of_ble_eq_true rfl) ⟨(Nat.le_of_ble_eq_true rfl), (Nat.le_of_ble_eq_true rfl)⟩ ?_
              rintro h2 v ⟨rfl, q2, hf2⟩
              refine a_istore 47 dX12_most_45 rfl (by decide) ?_
              refine a_iload 49 dX12_most_47 rfl rfl ?_
              refine a_iload_n 50 dX12_most_49 rfl rfl ?_
              refine a_icmp_le 58 53 dX12_most_50 rfl (by decide) (fun c_50 => absurd c_50 h0) (fun c_50 => ?_)
              refine a_iload 55 dX12_most_53 rfl rfl ?_
              refine a_goto 59 dX12_most_55 (by decide) ?_
              refine a_istore_n 60 dX12_most_59 rfl (by decide) ?_
              refine a_iload 62 dX12_most_60 rfl rfl ?_
              refine a_iload_n 63 dX12_most_62 rfl rfl ?_
              refine a_icmp_le 71 66 dX12_most_63 rfl (by decide) (fun c_63 => absurd c_63 h0) (fun c_63 => ?_)
              refine a_iload 68 dX12_most_66 rfl rfl ?_
              refine a_goto 72 dX12_most_68 (by decide) ?_
              refine a_istore_n 73 dX12_most_72 rfl (by decide) ?_
              refine a_iinc _ 76 dX12_most_73 rfl rfl (by decide) rfl ?_
              refine a_goto 29 dX12_most_76 (by decide) ?_
              exact ih (x + 1) _ _ _ _ _ (by omega) (by rw [mosT, hmo]; dsimp only; rw [if_pos hlt2]) (by rw [mosT, hmo]; dsimp only; rw [if_pos hlt2]) (nI_1 x) q2 (fr_trans hf1 hf2 (fun _ q => q))
            · have h0 : nI (cauT T z x) ≤ nI (cauT T z b) := nI_le (by omega) (by omega)
              refine a_iload 31 dX12_most_29 rfl rfl ?_
              refine a_aload_n 32 dX12_most_31 rfl rfl ?_
              refine a_get fd_X12_160 rfl 35 dX12_most_32 rfl (by repeat (first | assumption | (refine rg_ne (by first | decide | omega) ?_) | apply rg_eq | refine rg_fr (by assumption) (by first | decide | (simp; omega)) ?_)) rfl ?_
              refine a_icmp_ge 79 38 dX12_most_35 rfl (by decide) (fun c_35 => absurd c_35 (by rw [ho1]; exact nI_ge (a := x) (b := T.m) (by omega) (by omega))) (fun c_35 => ?_)
              refine a_aload_n 39 dX12_most_38 rfl rfl ?_
              refine a_iload_n 40 dX12_most_39 rfl rfl ?_
              refine a_iload 42 dX12_most_40 rfl rfl ?_
              refine a_callV ok_X12_causesOf ln_X12_266 in_X12_causesOf rfl 45 dX12_most_42 rfl (k_X12_causesOf q1 o hz (by omega) hb) (by repeat (first | assumption | (refine rg_ne (by first | decide | omega) ?_) | apply rg_eq | refine rg_fr (by assumption) (by first | decide | (simp; omega)) ?_)) rfl rfl rfl ⟨(Nat.le_of_ble_eq_true rfl), (Nat.le_of_ble_eq_true rfl)⟩ (Nat.le_of_ble_eq_true rfl) ⟨(Nat.le_of_ble_eq_true rfl), (Nat.le_of_ble_eq_true rfl)⟩ ?_
              rintro h2 v ⟨rfl, q2, hf2⟩
              refine a_istore 47 dX12_most_45 rfl (by decide) ?_
              refine a_iload 49 dX12_most_47 rfl rfl ?_
              refine a_iload_n 50 dX12_most_49 rfl rfl ?_
              refine a_icmp_le 58 53 dX12_most_50 rfl (by decide) (fun c_50 => ?_) (fun c_50 => absurd h0 c_50)
              refine a_iload_n 59 dX12_most_58 rfl rfl ?_
              refine a_istore_n 60 dX12_most_59 rfl (by decide) ?_
              refine a_iload 62 dX12_most_60 rfl rfl ?_
              refine a_iload_n 63 dX12_most_62 rfl rfl ?_
              refine a_icmp_le 71 66 dX12_most_63 rfl (by decide) (fun c_63 => ?_) (fun c_63 => absurd h0 c_63)
              refine a_iload_n 72 dX12_most_71 rfl rfl ?_
              refine a_istore_n 73 dX12_most_72 rfl (by decide) ?_
              refine a_iinc _ 76 dX12_most_73 rfl rfl (by decide) rfl ?_
              refine a_goto 29 dX12_most_76 (by decide) ?_
              exact ih (x + 1) _ _ _ _ _ (by omega) (by rw [mosT, hmo]; dsimp only; rw [if_neg hlt2]) (by rw [mosT, hmo]; dsimp only; rw [if_neg hlt2]) (nI_1 x) q2 (fr_trans hf1 hf2 (fun _ q => q))
      refine rM_start (by decide) (Nat.le_of_ble_eq_true rfl) ?_
      refine a_aload_n 1 dX12_most_0 rfl rfl ?_
      refine a_iload_n 2 dX12_most_1 rfl rfl ?_
      refine a_callV ok_X12_noLaw ln_X12_218 in_X12_noLaw rfl 5 dX12_most_2 rfl (m_noLaw q (nI z)) (by repeat (first | assumption | (refine rg_ne (by first | decide | omega) ?_) | apply rg_eq | refine rg_fr (by assumption) (by first | decide | (simp; omega)) ?_)) rfl rfl rfl ⟨(Nat.le_of_ble_eq_true rfl), (Nat.le_of_ble_eq_true rfl)⟩ (Nat.le_of_ble_eq_true rfl) ⟨(Nat.le_of_ble_eq_true rfl), (Nat.le_of_ble_eq_true rfl)⟩ ?_
      rintro _ _ ⟨rfl, rfl⟩
      refine a_if_eq 10 8 dX12_most_5 rfl (by decide) (fun c_5 => ?_) (fun c_5 => absurd (if_pos (oT_yes hz (by omega))) c_5)
      refine a_aload_n 11 dX12_most_10 rfl rfl ?_
      refine a_iload_n 12 dX12_most_11 rfl rfl ?_
      refine a_callV ok_X12_firstBarred ln_X12_260 in_X12_firstBarred rfl 15 dX12_most_12 rfl (m_bar q hz) (by repeat (first | assumption | (refine rg_ne (by first | decide | omega) ?_) | apply rg_eq | refine rg_fr (by assumption) (by first | decide | (simp; omega)) ?_)) rfl rfl rfl ⟨(Nat.le_of_ble_eq_true rfl), (Nat.le_of_ble_eq_true rfl)⟩ (Nat.le_of_ble_eq_true rfl) ⟨(Nat.le_of_ble_eq_true rfl), (Nat.le_of_ble_eq_true rfl)⟩ ?_
      rintro h2 v ⟨rfl, hc2, hf2⟩
      have q2 := q.line hc2 hf2
      have hm2 := q2.at
      refine a_if_lt 21 18 dX12_most_15 rfl (by decide) (fun c_15 => ?_) (fun c_15 => absurd (hb0.mpr hb) c_15)
      refine a_bipush (-9) 23 dX12_most_21 rfl (by decide) ?_
      refine a_istore_n 24 dX12_most_23 rfl (by decide) ?_
      refine a_iconst (-1) 25 dX12_most_24 rfl (by decide) ?_
      refine a_istore_n 26 dX12_most_25 rfl (by decide) ?_
      refine a_iconst (0) 27 dX12_most_26 rfl (by decide) ?_
      refine a_istore 29 dX12_most_27 rfl (by decide) ?_
      exact L T.m 0 _ _ _ _ _ (by omega) rfl rfl rfl q2 hf2
    · rw [if_neg hb] at ea
      refine rM_start (by decide) (Nat.le_of_ble_eq_true rfl) ?_
      refine a_aload_n 1 dX12_most_0 rfl rfl ?_
      refine a_iload_n 2 dX12_most_1 rfl rfl ?_
      refine a_callV ok_X12_noLaw ln_X12_218 in_X12_noLaw rfl 5 dX12_most_2 rfl (m_noLaw q (nI z)) (by repeat (first | assumption | (refine rg_ne (by first | decide | omega) ?_) | apply rg_eq | refine rg_fr (by assumption) (by first | decide | (simp; omega)) ?_)) rfl rfl rfl ⟨(Nat.le_of_ble_eq_true rfl), (Nat.le_of_ble_eq_true rfl)⟩ (Nat.le_of_ble_eq_true rfl) ⟨(Nat.le_of_ble_eq_true rfl), (Nat.le_of_ble_eq_true rfl)⟩ ?_
      rintro _ _ ⟨rfl, rfl⟩
      refine a_if_eq 10 8 dX12_most_5 rfl (by decide) (fun c_5 => ?_) (fun c_5 => absurd (if_pos (oT_yes hz (by omega))) c_5)
      refine a_aload_n 11 dX12_most_10 rfl rfl ?_
      refine a_iload_n 12 dX12_most_11 rfl rfl ?_
      refine a_callV ok_X12_firstBarred ln_X12_260 in_X12_firstBarred rfl 15 dX12_most_12 rfl (m_bar q hz) (by repeat (first | assumption | (refine rg_ne (by first | decide | omega) ?_) | apply rg_eq | refine rg_fr (by assumption) (by first | decide | (simp; omega)) ?_)) rfl rfl rfl ⟨(Nat.le_of_ble_eq_true rfl), (Nat.le_of_ble_eq_true rfl)⟩ (Nat.le_of_ble_eq_true rfl) ⟨(Nat.le_of_ble_eq_true rfl), (Nat.le_of_ble_eq_true rfl)⟩ ?_
      rintro h2 v ⟨rfl, hc2, hf2⟩
      have q2 := q.line hc2 hf2
      refine a_if_lt 21 18 dX12_most_15 rfl (by decide) (fun c_15 => absurd c_15 (fun v => hb (hb0.mp v))) (fun c_15 => ?_)
      refine a_bipush (-3) 20 dX12_most_18 rfl (by decide) ?_
      exact a_ireturn dX12_most_20 rfl rfl (Nat.le_of_ble_eq_true rfl) (Nat.le_of_ble_eq_true rfl) ⟨by rw [ea], ⟨i, j, q2⟩, kp_mono (kp_fr hf2) (by decide)⟩
set_option maxRecDepth 100000 in
set_option maxHeartbeats 400000 in
theorem m_goesOn (q : mAll G h T) (o : T.ok) (c : Int32) : rM l G 12 mX12_goesOn 0 0 [.ref (gN G + 38), .int c] h (fun h' v => v = some (.int (aGoes T c)) ∧ mAll G h' T ∧ kp h h' mL) := by
  obtain ⟨i, j, q⟩ := q
  have hnl := o.nl6
  have hny := o.ny24
  have hm12 := o.m12
  have hm := q.at
  rcases oT_cases (n := T.nl) (by omega) c with ⟨e, hc⟩ | ⟨z, hz, rfl, e⟩
  · have ea : aGoes T c = -1 := by unfold aGoes; rw [e]
    refine rM_start (by decide) (Nat.le_of_ble_eq_true rfl) ?_
    refine a_aload_n 1 dX12_goesOn_0 rfl rfl ?_
    refine a_iload_n 2 dX12_goesOn_1 rfl rfl ?_
    refine a_callV ok_X12_noLaw ln_X12_218 in_X12_noLaw rfl 5 dX12_goesOn_2 rfl (m_noLaw q c) (by repeat (first | assumption | (refine rg_ne (by first | decide | omega) ?_) | apply rg_eq | refine rg_fr (by assumption) (by first | decide | (simp; omega)) ?_)) rfl rfl rfl ⟨(Nat.le_of_ble_eq_true rfl), (Nat.le_of_ble_eq_true rfl)⟩ (Nat.le_of_ble_eq_true rfl) ⟨(Nat.le_of_ble_eq_true rfl), (Nat.le_of_ble_eq_true rfl)⟩ ?_
    rintro _ _ ⟨rfl, rfl⟩
    refine a_if_eq 10 8 dX12_goesOn_5 rfl (by decide) (fun c_5 => absurd c_5 (by rw [if_neg hc]; decide)) (fun c_5 => ?_)
    refine a_iconst (-1) 9 dX12_goesOn_8 rfl (by decide) ?_
    exact a_ireturn dX12_goesOn_9 rfl rfl (Nat.le_of_ble_eq_true rfl) (Nat.le_of_ble_eq_true rfl) ⟨by rw [ea], ⟨i, j, q⟩, fun _ _ _ => rfl⟩
  · have ea : aGoes T (nI z) = if barT T z = none then (if andN (fun x => decide (cauT T z x ≤ 1000000 * cntW T x)) T.m then 0 else 1) else -3 := by unfold aGoes; rw [e]
    have hb0 := bar_lt0 o (z := z)
    by_cases hb : barT T z = none
    · rw [if_pos hb] at ea
      have hbs := fun p (hp : p < T.ny) => Nat.pos_of_ne_zero (of_decide_eq_false (firstN_no hb p (Nat.zero_le _) (by omega)))
      have hlt := fun x => cauT_lt o (z := z) (x := x) hbs
      have L : ∀ (r x : Nat) (s y : Int32) (o4 o5 : Option Value) (h1 : rH), x + r = T.m → s = (if andN (fun x => decide (cauT T z x ≤ 1000000 * cntW T x)) x then 0 else 1) → y = nI x → mX G h1 T i j → fr h h1 [44] → rW l G (rRm 12 0 0) mX12_goesOn (rZ G (fun h' v => v = some (.int (aGoes T (nI z))) ∧ mAll G h' T ∧ kp h h' mL) 0 0) 0 0 25 [some (.ref (gN G + 38)), some (.int (nI z)), some (.int s), some (.int y), o4, o5] [] h1 := by
        intro r
        induction r with
        | zero =>
          intro x s y o4 o5 h1 hx hs hy q1 hf1
          subst hs; subst hy
          have e : x = T.m := by omega
          subst e
          have hm1 := q1.at
          have ho1 := q1.2.1.2.1
          refine a_iload_n 26 dX12_goesOn_25 rfl rfl ?_
          refine a_aload_n 27 dX12_goesOn_26 rfl rfl ?_
          refine a_get fd_X12_160 rfl 30 dX12_goesOn_27 rfl (by repeat (first | assumption | (refine rg_ne (by first | decide | omega) ?_) | apply rg_eq | refine rg_fr (by assumption) (by first | decide | (simp; omega)) ?_)) rfl ?_
          refine a_icmp_ge 106 33 dX12_goesOn_30 rfl (by decide) (fun c_30 => ?_) (fun c_30 => absurd (by rw [ho1]; exact Int32.le_refl _) c_30)
          refine a_iload_n 107 dX12_goesOn_106 rfl rfl ?_
          refine a_if_eq 114 110 dX12_goesOn_107 rfl (by decide) (fun c_107 => ?_) (fun c_107 => ?_)
          · refine a_iconst (0) 115 dX12_goesOn_114 rfl (by decide) ?_
            exact a_ireturn dX12_goesOn_115 rfl rfl (Nat.le_of_ble_eq_true rfl) (Nat.le_of_ble_eq_true rfl) ⟨by rw [ea]; exact goes_e (Or.inl ⟨c_107, rfl⟩), ⟨i, j, q1⟩, kp_mono (kp_fr hf1) (by decide)⟩
          · refine a_iconst (1) 111 dX12_goesOn_110 rfl (by decide) ?_
            refine a_goto 115 dX12_goesOn_111 (by decide) ?_
            exact a_ireturn dX12_goesOn_115 rfl rfl (Nat.le_of_ble_eq_true rfl) (Nat.le_of_ble_eq_true rfl) ⟨by rw [ea]; exact goes_e (Or.inr ⟨c_107, rfl⟩), ⟨i, j, q1⟩, kp_mono (kp_fr hf1) (by decide)⟩
        | succ r ih =>
          intro x s y o4 o5 h1 hx hs hy q1 hf1
          subst hy
          have hl := hlt x
          have hc24 : cntW T x ≤ T.ny * 1 := sumN_le T.ny (fun j _ => by split <;> omega)
          have L2 : ∀ (r2 t : Nat) (g y : Int32), t + r2 = T.ny → g = nI (sumN (fun j => if T.yw j = x then 1 else 0) t) → y = nI t → rW l G (rRm 12 0 0) mX12_goesOn (rZ G (fun h' v => v = some (.int (aGoes T (nI z))) ∧ mAll G h' T ∧ kp h h' mL) 0 0) 0 0 39 [some (.ref (gN G + 38)), some (.int (nI z)), some (.int s), some (.int (nI x)), some (.int g), some (.int y)] [] h1 := by
            have hm1 := q1.at
            have hny1 := q1.2.2.2.1.2.1
            intro r2
            induction r2 with
            | zero =>
              intro t g y ht hg hy
              subst hg; subst hy
              have e : t = T.ny := by omega
              subst e
              have em : (1000000 : Int32) * nI (cntW T x) = nI (1000000 * cntW T x) := by rw [show (1000000 : Int32) = nI 1000000 from rfl, pk_mul]
              have hle : nI (cauT T z x) ≤ nI (1000000 * cntW T x) ↔ cauT T z x ≤ 1000000 * cntW T x := nI_leI (by omega) (by omega)
              refine a_iload 41 dX12_goesOn_39 rfl rfl ?_
              refine a_aload_n 42 dX12_goesOn_41 rfl rfl ?_
              refine a_get fd_X12_163 rfl 45 dX12_goesOn_42 rfl (by repeat (first | assumption | (refine rg_ne (by first | decide | omega) ?_) | apply rg_eq | refine rg_fr (by assumption) (by first | decide | (simp; omega)) ?_)) rfl ?_
              refine a_icmp_ge 75 48 dX12_goesOn_45 rfl (by decide) (fun c_45 => ?_) (fun c_45 => absurd (by rw [hny1]; exact Int32.le_refl _) c_45)
              refine a_iload_n 76 dX12_goesOn_75 rfl rfl ?_
              refine a_if_ne 94 79 dX12_goesOn_76 rfl (by decide) (fun c_76 => ?_) (fun c_76 => ?_)
              · refine a_iconst (1) 95 dX12_goesOn_94 rfl (by decide) ?_
                refine a_goto 99 dX12_goesOn_95 (by decide) ?_
                refine a_istore_n 100 dX12_goesOn_99 rfl (by decide) ?_
                refine a_iinc _ 103 dX12_goesOn_100 rfl rfl (by decide) rfl ?_
                refine a_goto 25 dX12_goesOn_103 (by decide) ?_
                exact ih (x + 1) _ _ _ _ _ (by omega) (goes_1 hs c_76) (nI_1 x) q1 hf1
              · refine a_aload_n 80 dX12_goesOn_79 rfl rfl ?_
                refine a_iload_n 81 dX12_goesOn_80 rfl rfl ?_
                refine a_iload_n 82 dX12_goesOn_81 rfl rfl ?_
                refine a_callV ok_X12_causesOf ln_X12_266 in_X12_causesOf rfl 85 dX12_goesOn_82 rfl (k_X12_causesOf q1 o hz (by omega) hb) (by repeat (first | assumption | (refine rg_ne (by first | decide | omega) ?_) | apply rg_eq | refine rg_fr (by assumption) (by first | decide | (simp; omega)) ?_)) rfl rfl rfl ⟨(Nat.le_of_ble_eq_true rfl), (Nat.le_of_ble_eq_true rfl)⟩ (Nat.le_of_ble_eq_true rfl) ⟨(Nat.le_of_ble_eq_true rfl), (Nat.le_of_ble_eq_true rfl)⟩ ?_
                rintro h2 v ⟨rfl, q2, hf2⟩
                refine a_ldcw (1000000) 88 dX12_goesOn_85 rfl lk_X12_265 ?_
                refine a_iload 90 dX12_goesOn_88 rfl rfl ?_
                refine a_imul 91 dX12_goesOn_90 rfl ?_
                rw [em]
                refine a_icmp_le 98 94 dX12_goesOn_91 rfl (by decide) (fun c_91 => ?_) (fun c_91 => ?_)
                · refine a_iconst (0) 99 dX12_goesOn_98 rfl (by decide) ?_
                  refine a_istore_n 100 dX12_goesOn_99 rfl (by decide) ?_
                  refine a_iinc _ 103 dX12_goesOn_100 rfl rfl (by decide) rfl ?_
                  refine a_goto 25 dX12_goesOn_103 (by decide) ?_
                  exact ih (x + 1) _ _ _ _ _ (by omega) (goes_2 hs c_76 (hle.mp c_91)) (nI_1 x) q2 (fr_trans hf1 hf2 (fun _ q => q))
                · refine a_iconst (1) 95 dX12_goesOn_94 rfl (by decide) ?_
                  refine a_goto 99 dX12_goesOn_95 (by decide) ?_
                  refine a_istore_n 100 dX12_goesOn_99 rfl (by decide) ?_
                  refine a_iinc _ 103 dX12_goesOn_100 rfl rfl (by decide) rfl ?_
                  refine a_goto 25 dX12_goesOn_103 (by decide) ?_
                  exact ih (x + 1) _ _ _ _ _ (by omega) (goes_3 hs c_76 (fun v => c_91 (hle.mpr v))) (nI_1 x) q2 (fr_trans hf1 hf2 (fun _ q => q))
            | succ r2 ih2 =>
              intro t g y ht hg hy
              subst hg; subst hy
              obtain ⟨-, -, -, -, ⟨f5, q5, q5'⟩⟩ := id q1.2.2.2.1
              have vt : vp_in (nI t) 24 := vp_in_nI (by omega) (by decide)
              have e5 := q5' t (by omega)
              have e0 : (nI t).toNatClampNeg = t := nI_clamp (by omega)
              have hyx : nI (T.yw t) = nI x ↔ T.yw t = x := nI_eq (by have := o.yw (q := t) (by omega); omega) (by omega)
              refine a_iload 41 dX12_goesOn_39 rfl rfl ?_
              refine a_aload_n 42 dX12_goesOn_41 rfl rfl ?_
              refine a_get fd_X12_163 rfl 45 dX12_goesOn_42 rfl (by repeat (first | assumption | (refine rg_ne (by first | decide | omega) ?_) | apply rg_eq | refine rg_fr (by assumption) (by first | decide | (simp; omega)) ?_)) rfl ?_
              refine a_icmp_ge 75 48 dX12_goesOn_45 rfl (by decide) (fun c_45 => absurd c_45 (by rw [hny1]; exact nI_ge (a := t) (b := T.ny) (by omega) (by omega))) (fun c_45 => ?_)
              refine a_iload 50 dX12_goesOn_48 rfl rfl ?_
              refine a_aload_n 51 dX12_goesOn_50 rfl rfl ?_
              refine a_get fd_X12_50 rfl 54 dX12_goesOn_51 rfl (by repeat (first | assumption | (refine rg_ne (by first | decide | omega) ?_) | apply rg_eq | refine rg_fr (by assumption) (by first | decide | (simp; omega)) ?_)) rfl ?_
              refine a_iload 56 dX12_goesOn_54 rfl rfl ?_
              refine a_iaload 57 dX12_goesOn_56 rfl (by repeat (first | assumption | (refine rg_ne (by first | decide | omega) ?_) | apply rg_eq | refine rg_fr (by assumption) (by first | decide | (simp; omega)) ?_)) vt ?_
              rw [e0, e5.1]
              refine a_iload_n 58 dX12_goesOn_57 rfl rfl ?_
              refine a_icmp_ne 65 61 dX12_goesOn_58 rfl (by decide) (fun c_58 => ?_) (fun c_58 => ?_)
              · refine a_iconst (0) 66 dX12_goesOn_65 rfl (by decide) ?_
                refine a_iadd 67 dX12_goesOn_66 rfl ?_
                refine a_istore 69 dX12_goesOn_67 rfl (by decide) ?_
                refine a_iinc _ 72 dX12_goesOn_69 rfl rfl (by decide) rfl ?_
                refine a_goto 39 dX12_goesOn_72 (by decide) ?_
                exact ih2 (t + 1) _ _ (by omega) (by rw [sumN, if_neg (fun v => c_58 (hyx.mpr v))]; exact Int32.add_zero _) (nI_1 t)
              · refine a_iconst (1) 62 dX12_goesOn_61 rfl (by decide) ?_
                refine a_goto 66 dX12_goesOn_62 (by decide) ?_
                refine a_iadd 67 dX12_goesOn_66 rfl ?_
                refine a_istore 69 dX12_goesOn_67 rfl (by decide) ?_
                refine a_iinc _ 72 dX12_goesOn_69 rfl rfl (by decide) rfl ?_
                refine a_goto 39 dX12_goesOn_72 (by decide) ?_
                exact ih2 (t + 1) _ _ (by omega) (by rw [sumN, if_pos (hyx.mp c_58)]; exact nI_1 _) (nI_1 t)
          have hm1 := q1.at
          have ho1 := q1.2.1.2.1
          refine a_iload_n 26 dX12_goesOn_25 rfl rfl ?_
          refine a_aload_n 27 dX12_goesOn_26 rfl rfl ?_
          refine a_get fd_X12_160 rfl 30 dX12_goesOn_27 rfl (by repeat (first | assumption | (refine rg_ne (by first | decide | omega) ?_) | apply rg_eq | refine rg_fr (by assumption) (by first | decide | (simp; omega)) ?_)) rfl ?_
          refine a_icmp_ge 106 33 dX12_goesOn_30 rfl (by decide) (fun c_30 => absurd c_30 (by rw [ho1]; exact nI_ge (a := x) (b := T.m) (by omega) (by omega))) (fun c_30 => ?_)
          refine a_iconst (0) 34 dX12_goesOn_33 rfl (by decide) ?_
          refine a_istore 36 dX12_goesOn_34 rfl (by decide) ?_
          refine a_iconst (0) 37 dX12_goesOn_36 rfl (by decide) ?_
          refine a_istore 39 dX12_goesOn_37 rfl (by decide) ?_
          exact L2 T.ny 0 _ _ (by omega) rfl rfl
      refine rM_start (by decide) (Nat.le_of_ble_eq_true rfl) ?_
      refine a_aload_n 1 dX12_goesOn_0 rfl rfl ?_
      refine a_iload_n 2 dX12_goesOn_1 rfl rfl ?_
      refine a_callV ok_X12_noLaw ln_X12_218 in_X12_noLaw rfl 5 dX12_goesOn_2 rfl (m_noLaw q (nI z)) (by repeat (first | assumption | (refine rg_ne (by first | decide | omega) ?_) | apply rg_eq | refine rg_fr (by assumption) (by first | decide | (simp; omega)) ?_)) rfl rfl rfl ⟨(Nat.le_of_ble_eq_true rfl), (Nat.le_of_ble_eq_true rfl)⟩ (Nat.le_of_ble_eq_true rfl) ⟨(Nat.le_of_ble_eq_true rfl), (Nat.le_of_ble_eq_true rfl)⟩ ?_
      rintro _ _ ⟨rfl, rfl⟩
      refine a_if_eq 10 8 dX12_goesOn_5 rfl (by decide) (fun c_5 => ?_) (fun c_5 => absurd (if_pos (oT_yes hz (by omega))) c_5)
      refine a_aload_n 11 dX12_goesOn_10 rfl rfl ?_
      refine a_iload_n 12 dX12_goesOn_11 rfl rfl ?_
      refine a_callV ok_X12_firstBarred ln_X12_260 in_X12_firstBarred rfl 15 dX12_goesOn_12 rfl (m_bar q hz) (by repeat (first | assumption | (refine rg_ne (by first | decide | omega) ?_) | apply rg_eq | refine rg_fr (by assumption) (by first | decide | (simp; omega)) ?_)) rfl rfl rfl ⟨(Nat.le_of_ble_eq_true rfl), (Nat.le_of_ble_eq_true rfl)⟩ (Nat.le_of_ble_eq_true rfl) ⟨(Nat.le_of_ble_eq_true rfl), (Nat.le_of_ble_eq_true rfl)⟩ ?_
      rintro h2 v ⟨rfl, hc2, hf2⟩
      have q2 := q.line hc2 hf2
      have hm2 := q2.at
      refine a_if_lt 21 18 dX12_goesOn_15 rfl (by decide) (fun c_15 => ?_) (fun c_15 => absurd (hb0.mpr hb) c_15)
      refine a_iconst (0) 22 dX12_goesOn_21 rfl (by decide) ?_
      refine a_istore_n 23 dX12_goesOn_22 rfl (by decide) ?_
      refine a_iconst (0) 24 dX12_goesOn_23 rfl (by decide) ?_
      refine a_istore_n 25 dX12_goesOn_24 rfl (by decide) ?_
      exact L T.m 0 _ _ _ _ _ (by omega) rfl rfl q2 hf2
    · rw [if_neg hb] at ea
      refine rM_start (by decide) (Nat.le_of_ble_eq_true rfl) ?_
      refine a_aload_n 1 dX12_goesOn_0 rfl rfl ?_
      refine a_iload_n 2 dX12_goesOn_1 rfl rfl ?_
      refine a_callV ok_X12_noLaw ln_X12_218 in_X12_noLaw rfl 5 dX12_goesOn_2 rfl (m_noLaw q (nI z)) (by repeat (first | assumption | (refine rg_ne (by first | decide | omega) ?_) | apply rg_eq | refine rg_fr (by assumption) (by first | decide | (simp; omega)) ?_)) rfl rfl rfl ⟨(Nat.le_of_ble_eq_true rfl), (Nat.le_of_ble_eq_true rfl)⟩ (Nat.le_of_ble_eq_true rfl) ⟨(Nat.le_of_ble_eq_true rfl), (Nat.le_of_ble_eq_true rfl)⟩ ?_
      rintro _ _ ⟨rfl, rfl⟩
      refine a_if_eq 10 8 dX12_goesOn_5 rfl (by decide) (fun c_5 => ?_) (fun c_5 => absurd (if_pos (oT_yes hz (by omega))) c_5)
      refine a_aload_n 11 dX12_goesOn_10 rfl rfl ?_
      refine a_iload_n 12 dX12_goesOn_11 rfl rfl ?_
      refine a_callV ok_X12_firstBarred ln_X12_260 in_X12_firstBarred rfl 15 dX12_goesOn_12 rfl (m_bar q hz) (by repeat (first | assumption | (refine rg_ne (by first | decide | omega) ?_) | apply rg_eq | refine rg_fr (by assumption) (by first | decide | (simp; omega)) ?_)) rfl rfl rfl ⟨(Nat.le_of_ble_eq_true rfl), (Nat.le_of_ble_eq_true rfl)⟩ (Nat.le_of_ble_eq_true rfl) ⟨(Nat.le_of_ble_eq_true rfl), (Nat.le_of_ble_eq_true rfl)⟩ ?_
      rintro h2 v ⟨rfl, hc2, hf2⟩
      have q2 := q.line hc2 hf2
      refine a_if_lt 21 18 dX12_goesOn_15 rfl (by decide) (fun c_15 => absurd c_15 (fun v => hb (hb0.mp v))) (fun c_15 => ?_)
      refine a_bipush (-3) 20 dX12_goesOn_18 rfl (by decide) ?_
      exact a_ireturn dX12_goesOn_20 rfl rfl (Nat.le_of_ble_eq_true rfl) (Nat.le_of_ble_eq_true rfl) ⟨by rw [ea], ⟨i, j, q2⟩, kp_mono (kp_fr hf2) (by decide)⟩
end MPUB2
