/-! THE CLASS's plan: the search -/
abbrev v2P (al bo : Nat → Int32) (a b : Nat) : Int32 := al a + al b - bo (a * 52 + b)
abbrev v3P (al bo li : Nat → Int32) (a b c : Nat) : Int32 := v2P al bo a b + (al c - bo (b * 52 + c) - (if li a = li b then 0 else bo (a * 52 + c)))
def sr3 (al bo li : Nat → Int32) (a b : Nat) : Nat → Nat → offS → offS
  | 0, _, s => s
  | r + 1, c, s => sr3 al bo li a b r (c + 1) (offF s (v3P al bo li a b c) (nI a) (nI b) (nI c))
def sr2 (al bo li : Nat → Int32) (fr num a : Nat) : Nat → Nat → offS → offS
  | 0, _, s => s
  | r + 1, b, s => sr2 al bo li fr num a r (b + 1) (if num = 2 then offF s (v2P al bo a b) (nI a) (nI b) (-9) else sr3 al bo li a b (fr - (b + 1)) (b + 1) s)
def sr1 (al bo li : Nat → Int32) (fr num : Nat) : Nat → Nat → offS → offS
  | 0, _, s => s
  | r + 1, a, s => sr1 al bo li fr num r (a + 1) (if num = 1 then offF s (al a) (nI a) (-9) (-9) else sr2 al bo li fr num a (fr - (a + 1)) (a + 1) s)
section PLAN2
variable {l : Launch} {G : rG} {h : rH} {fr1 : Nat} {ga pl li al bo pa : Nat → Int32}
set_option maxRecDepth 100000 in
set_option maxHeartbeats 400000 in
theorem k_X0_searchThird {s0 : offS} (hp : plAt G h (nI fr1) s0.2.1 s0.1 ga pl li al bo pa s0.2.2) (hf : fr1 ≤ 52) {a b : Nat} (ha : a < fr1) (hb : b < fr1) : rM l G 3 mX0_searchThird 0 0 [.ref (gN G + 17), .int (v2P al bo a b), .int (nI a), .int (nI b)] h (fun h' v => v = none ∧ plAt G h' (nI fr1) (sr3 al bo li a b (fr1 - (b + 1)) (b + 1) s0).2.1 (sr3 al bo li a b (fr1 - (b + 1)) (b + 1) s0).1 ga pl li al bo pa (sr3 al bo li a b (fr1 - (b + 1)) (b + 1) s0).2.2 ∧ fr h h' [17, 24]) := by
  have A : ∀ (X : offS) (y4 : Int32), (y4 = if li a = li b then 1 else 0) → ∀ (r c : Nat) (s : offS) (h1 : rH) (y : Int32) (o6 : Option Value), c + r = fr1 → sr3 al bo li a b r c s = X → y = nI c → plAt G h1 (nI fr1) s.2.1 s.1 ga pl li al bo pa s.2.2 → fr h h1 [17, 24] → rW l G (rRm 3 0 0) mX0_searchThird (rZ G (fun h' v => v = none ∧ plAt G h' (nI fr1) X.2.1 X.1 ga pl li al bo pa X.2.2 ∧ fr h h' [17, 24]) 0 0) 0 0 13 [some (.ref (gN G + 17)), some (.int (v2P al bo a b)), some (.int (nI a)), some (.int (nI b)), some (.int y4), some (.int y), o6] [] h1 := by
    intro X y4 h4 r
    induction r with
    | zero =>
      intro c s h1 y o6 hc hX hy hp1 hfr
      subst hy; subst hX
      have e : c = fr1 := by omega
      subst e
      have g17 := hp1.1
      refine a_iload 15 dX0_searchThird_13 rfl rfl ?_
      refine a_aload_n 16 dX0_searchThird_15 rfl rfl ?_
      refine a_get fd_X0_33 rfl 19 dX0_searchThird_16 rfl (by repeat (first | assumption | (refine rg_ne (by first | decide | omega) ?_) | apply rg_eq | refine rg_fr (by assumption) (by first | decide | (simp; omega)) ?_)) rfl ?_
      refine a_icmp_ge 91 22 dX0_searchThird_19 rfl (by decide) (fun c_19 => ?_) (fun c_19 => absurd (Int32.le_refl _) c_19)
      exact a_return dX0_searchThird_91 rfl (Nat.le_of_ble_eq_true rfl) (Nat.le_of_ble_eq_true rfl) ⟨rfl, hp1, hfr⟩
    | succ r ih =>
      intro c s h1 y o6 hc hX hy hp1 hfr
      subst hy
      have g17 := hp1.1
      have hX2 : sr3 al bo li a b r (c + 1) (offF s (v3P al bo li a b c) (nI a) (nI b) (nI c)) = X := hX
      have v3t : li a = li b → v2P al bo a b + (al c - bo (b * 52 + c) - 0) = v3P al bo li a b c := fun e => by unfold v3P; rw [if_pos e]
      have v3f : ¬ li a = li b → v2P al bo a b + (al c - bo (b * 52 + c) - bo (a * 52 + c)) = v3P al bo li a b c := fun e => by unfold v3P; rw [if_neg e]
      by_cases hl : li a = li b
      · have y1 : ¬ y4 = 0 := by rw [h4, if_pos hl]; decide
        refine a_iload 15 dX0_searchThird_13 rfl rfl ?_
        refine a_aload_n 16 dX0_searchThird_15 rfl rfl ?_
        refine a_get fd_X0_33 rfl 19 dX0_searchThird_16 rfl (by repeat (first | assumption | (refine rg_ne (by first | decide | omega) ?_) | apply rg_eq | refine rg_fr (by assumption) (by first | decide | (simp; omega)) ?_)) rfl ?_
        refine a_icmp_ge 91 22 dX0_searchThird_19 rfl (by decide) (fun c_19 => absurd c_19 (nI_ge (a := c) (b := fr1) (by omega) (by omega))) (fun c_19 => ?_)
        refine a_aload_n 23 dX0_searchThird_22 rfl rfl ?_
        refine a_iload 25 dX0_searchThird_23 rfl rfl ?_
        refine a_callV ok_X0_savedAlone ln_X0_87 in_X0_savedAlone rfl 28 dX0_searchThird_25 rfl (k_X0_savedAlone hp1 (by omega)) (by repeat (first | assumption | (refine rg_ne (by first | decide | omega) ?_) | apply rg_eq | refine rg_fr (by assumption) (by first | decide | (simp; omega)) ?_)) rfl rfl rfl ⟨(Nat.le_of_ble_eq_true rfl), (Nat.le_of_ble_eq_true rfl)⟩ (Nat.le_of_ble_eq_true rfl) ⟨(Nat.le_of_ble_eq_true rfl), (Nat.le_of_ble_eq_true rfl)⟩ ?_
        rintro _ _ ⟨rfl, rfl⟩
        refine a_aload_n 29 dX0_searchThird_28 rfl rfl ?_
        refine a_iload_n 30 dX0_searchThird_29 rfl rfl ?_
        refine a_iload 32 dX0_searchThird_30 rfl rfl ?_
        refine a_callV ok_X0_savedBoth ln_X0_97 in_X0_savedBoth rfl 35 dX0_searchThird_32 rfl (k_X0_savedBoth hp1 (by omega) (by omega)) (by repeat (first | assumption | (refine rg_ne (by first | decide | omega) ?_) | apply rg_eq | refine rg_fr (by assumption) (by first | decide | (simp; omega)) ?_)) rfl rfl rfl ⟨(Nat.le_of_ble_eq_true rfl), (Nat.le_of_ble_eq_true rfl)⟩ (Nat.le_of_ble_eq_true rfl) ⟨(Nat.le_of_ble_eq_true rfl), (Nat.le_of_ble_eq_true rfl)⟩ ?_
        rintro _ _ ⟨rfl, rfl⟩
        refine a_isub 36 dX0_searchThird_35 rfl ?_
        refine a_iload 38 dX0_searchThird_36 rfl rfl ?_
        refine a_if_eq 45 41 dX0_searchThird_38 rfl (by decide) (fun c_38 => absurd c_38 y1) (fun c_38 => ?_)
        refine a_iconst (0) 42 dX0_searchThird_41 rfl (by decide) ?_
        refine a_goto 52 dX0_searchThird_42 (by decide) ?_
        refine a_isub 53 dX0_searchThird_52 rfl ?_
        refine a_istore 55 dX0_searchThird_53 rfl (by decide) ?_
        refine a_aload_n 56 dX0_searchThird_55 rfl rfl ?_
        refine a_get fd_X0_84 rfl 59 dX0_searchThird_56 rfl (by repeat (first | assumption | (refine rg_ne (by first | decide | omega) ?_) | apply rg_eq | refine rg_fr (by assumption) (by first | decide | (simp; omega)) ?_)) rfl ?_
        refine a_if_eq 73 62 dX0_searchThird_59 rfl (by decide) (fun c_59 => ?_) (fun c_59 => ?_)
        · refine a_aload_n 74 dX0_searchThird_73 rfl rfl ?_
          refine a_iload_n 75 dX0_searchThird_74 rfl rfl ?_
          refine a_iload 77 dX0_searchThird_75 rfl rfl ?_
          refine a_iadd 78 dX0_searchThird_77 rfl ?_
          rw [v3t hl]
          refine a_iload_n 79 dX0_searchThird_78 rfl rfl ?_
          refine a_iload_n 80 dX0_searchThird_79 rfl rfl ?_
          refine a_iload 82 dX0_searchThird_80 rfl rfl ?_
          refine a_callV ok_X0_offer ln_X0_90 in_X0_offer rfl 85 dX0_searchThird_82 rfl (k_X0_offer hp1 (v3P al bo li a b c) (nI a) (nI b) (nI c)) (by repeat (first | assumption | (refine rg_ne (by first | decide | omega) ?_) | apply rg_eq | refine rg_fr (by assumption) (by first | decide | (simp; omega)) ?_)) rfl rfl rfl ⟨(Nat.le_of_ble_eq_true rfl), (Nat.le_of_ble_eq_true rfl)⟩ (Nat.le_of_ble_eq_true rfl) ⟨(Nat.le_of_ble_eq_true rfl), (Nat.le_of_ble_eq_true rfl)⟩ ?_
          rintro h2 _ ⟨rfl, hp2, hf2⟩
          refine a_iinc _ 88 dX0_searchThird_85 rfl rfl (by decide) rfl ?_
          refine a_goto 13 dX0_searchThird_88 (by decide) ?_
          exact ih (c + 1) _ _ _ _ (by omega) hX2 (nI_1 c) hp2 (fr_trans hfr hf2 (fun _ q => q))
        · refine a_iload_n 63 dX0_searchThird_62 rfl rfl ?_
          refine a_iload 65 dX0_searchThird_63 rfl rfl ?_
          refine a_iadd 66 dX0_searchThird_65 rfl ?_
          rw [v3t hl]
          refine a_aload_n 67 dX0_searchThird_66 rfl rfl ?_
          refine a_get fd_X0_107 rfl 70 dX0_searchThird_67 rfl (by repeat (first | assumption | (refine rg_ne (by first | decide | omega) ?_) | apply rg_eq | refine rg_fr (by assumption) (by first | decide | (simp; omega)) ?_)) rfl ?_
          refine a_icmp_le 85 73 dX0_searchThird_70 rfl (by decide) (fun c_70 => ?_) (fun c_70 => ?_)
          · refine a_iinc _ 88 dX0_searchThird_85 rfl rfl (by decide) rfl ?_
            refine a_goto 13 dX0_searchThird_88 (by decide) ?_
            exact ih (c + 1) s _ _ _ (by omega) (by rw [show offF s (v3P al bo li a b c) (nI a) (nI b) (nI c) = s from if_pos ⟨c_59, c_70⟩] at hX2; exact hX2) (nI_1 c) hp1 hfr
          · refine a_aload_n 74 dX0_searchThird_73 rfl rfl ?_
            refine a_iload_n 75 dX0_searchThird_74 rfl rfl ?_
            refine a_iload 77 dX0_searchThird_75 rfl rfl ?_
            refine a_iadd 78 dX0_searchThird_77 rfl ?_
            rw [v3t hl]
            refine a_iload_n 79 dX0_searchThird_78 rfl rfl ?_
            refine a_iload_n 80 dX0_searchThird_79 rfl rfl ?_
            refine a_iload 82 dX0_searchThird_80 rfl rfl ?_
            refine a_callV ok_X0_offer ln_X0_90 in_X0_offer rfl 85 dX0_searchThird_82 rfl (k_X0_offer hp1 (v3P al bo li a b c) (nI a) (nI b) (nI c)) (by repeat (first | assumption | (refine rg_ne (by first | decide | omega) ?_) | apply rg_eq | refine rg_fr (by assumption) (by first | decide | (simp; omega)) ?_)) rfl rfl rfl ⟨(Nat.le_of_ble_eq_true rfl), (Nat.le_of_ble_eq_true rfl)⟩ (Nat.le_of_ble_eq_true rfl) ⟨(Nat.le_of_ble_eq_true rfl), (Nat.le_of_ble_eq_true rfl)⟩ ?_
            rintro h2 _ ⟨rfl, hp2, hf2⟩
            refine a_iinc _ 88 dX0_searchThird_85 rfl rfl (by decide) rfl ?_
            refine a_goto 13 dX0_searchThird_88 (by decide) ?_
            exact ih (c + 1) _ _ _ _ (by omega) hX2 (nI_1 c) hp2 (fr_trans hfr hf2 (fun _ q => q))
      · have y1 : y4 = 0 := by rw [h4, if_neg hl]
        refine a_iload 15 dX0_searchThird_13 rfl rfl ?_
        refine a_aload_n 16 dX0_searchThird_15 rfl rfl ?_
        refine a_get fd_X0_33 rfl 19 dX0_searchThird_16 rfl (by repeat (first | assumption | (refine rg_ne (by first | decide | omega) ?_) | apply rg_eq | refine rg_fr (by assumption) (by first | decide | (simp; omega)) ?_)) rfl ?_
        refine a_icmp_ge 91 22 dX0_searchThird_19 rfl (by decide) (fun c_19 => absurd c_19 (nI_ge (a := c) (b := fr1) (by omega) (by omega))) (fun c_19 => ?_)
        refine a_aload_n 23 dX0_searchThird_22 rfl rfl ?_
        refine a_iload 25 dX0_searchThird_23 rfl rfl ?_
        refine a_callV ok_X0_savedAlone ln_X0_87 in_X0_savedAlone rfl 28 dX0_searchThird_25 rfl (k_X0_savedAlone hp1 (by omega)) (by repeat (first | assumption | (refine rg_ne (by first | decide | omega) ?_) | apply rg_eq | refine rg_fr (by assumption) (by first | decide | (simp; omega)) ?_)) rfl rfl rfl ⟨(Nat.le_of_ble_eq_true rfl), (Nat.le_of_ble_eq_true rfl)⟩ (Nat.le_of_ble_eq_true rfl) ⟨(Nat.le_of_ble_eq_true rfl), (Nat.le_of_ble_eq_true rfl)⟩ ?_
        rintro _ _ ⟨rfl, rfl⟩
        refine a_aload_n 29 dX0_searchThird_28 rfl rfl ?_
        refine a_iload_n 30 dX0_searchThird_29 rfl rfl ?_
        refine a_iload 32 dX0_searchThird_30 rfl rfl ?_
        refine a_callV ok_X0_savedBoth ln_X0_97 in_X0_savedBoth rfl 35 dX0_searchThird_32 rfl (k_X0_savedBoth hp1 (by omega) (by omega)) (by repeat (first | assumption | (refine rg_ne (by first | decide | omega) ?_) | apply rg_eq | refine rg_fr (by assumption) (by first | decide | (simp; omega)) ?_)) rfl rfl rfl ⟨(Nat.le_of_ble_eq_true rfl), (Nat.le_of_ble_eq_true rfl)⟩ (Nat.le_of_ble_eq_true rfl) ⟨(Nat.le_of_ble_eq_true rfl), (Nat.le_of_ble_eq_true rfl)⟩ ?_
        rintro _ _ ⟨rfl, rfl⟩
        refine a_isub 36 dX0_searchThird_35 rfl ?_
        refine a_iload 38 dX0_searchThird_36 rfl rfl ?_
        refine a_if_eq 45 41 dX0_searchThird_38 rfl (by decide) (fun c_38 => ?_) (fun c_38 => absurd y1 c_38)
        refine a_aload_n 46 dX0_searchThird_45 rfl rfl ?_
        refine a_iload_n 47 dX0_searchThird_46 rfl rfl ?_
        refine a_iload 49 dX0_searchThird_47 rfl rfl ?_
        refine a_callV ok_X0_savedBoth ln_X0_97 in_X0_savedBoth rfl 52 dX0_searchThird_49 rfl (k_X0_savedBoth hp1 (by omega) (by omega)) (by repeat (first | assumption | (refine rg_ne (by first | decide | omega) ?_) | apply rg_eq | refine rg_fr (by assumption) (by first | decide | (simp; omega)) ?_)) rfl rfl rfl ⟨(Nat.le_of_ble_eq_true rfl), (Nat.le_of_ble_eq_true rfl)⟩ (Nat.le_of_ble_eq_true rfl) ⟨(Nat.le_of_ble_eq_true rfl), (Nat.le_of_ble_eq_true rfl)⟩ ?_
        rintro _ _ ⟨rfl, rfl⟩
        refine a_isub 53 dX0_searchThird_52 rfl ?_
        refine a_istore 55 dX0_searchThird_53 rfl (by decide) ?_
        refine a_aload_n 56 dX0_searchThird_55 rfl rfl ?_
        refine a_get fd_X0_84 rfl 59 dX0_searchThird_56 rfl (by repeat (first | assumption | (refine rg_ne (by first | decide | omega) ?_) | apply rg_eq | refine rg_fr (by assumption) (by first | decide | (simp; omega)) ?_)) rfl ?_
        refine a_if_eq 73 62 dX0_searchThird_59 rfl (by decide) (fun c_59 => ?_) (fun c_59 => ?_)
        · refine a_aload_n 74 dX0_searchThird_73 rfl rfl ?_
          refine a_iload_n 75 dX0_searchThird_74 rfl rfl ?_
          refine a_iload 77 dX0_searchThird_75 rfl rfl ?_
          refine a_iadd 78 dX0_searchThird_77 rfl ?_
          rw [v3f hl]
          refine a_iload_n 79 dX0_searchThird_78 rfl rfl ?_
          refine a_iload_n 80 dX0_searchThird_79 rfl rfl ?_
          refine a_iload 82 dX0_searchThird_80 rfl rfl ?_
          refine a_callV ok_X0_offer ln_X0_90 in_X0_offer rfl 85 dX0_searchThird_82 rfl (k_X0_offer hp1 (v3P al bo li a b c) (nI a) (nI b) (nI c)) (by repeat (first | assumption | (refine rg_ne (by first | decide | omega) ?_) | apply rg_eq | refine rg_fr (by assumption) (by first | decide | (simp; omega)) ?_)) rfl rfl rfl ⟨(Nat.le_of_ble_eq_true rfl), (Nat.le_of_ble_eq_true rfl)⟩ (Nat.le_of_ble_eq_true rfl) ⟨(Nat.le_of_ble_eq_true rfl), (Nat.le_of_ble_eq_true rfl)⟩ ?_
          rintro h2 _ ⟨rfl, hp2, hf2⟩
          refine a_iinc _ 88 dX0_searchThird_85 rfl rfl (by decide) rfl ?_
          refine a_goto 13 dX0_searchThird_88 (by decide) ?_
          exact ih (c + 1) _ _ _ _ (by omega) hX2 (nI_1 c) hp2 (fr_trans hfr hf2 (fun _ q => q))
        · refine a_iload_n 63 dX0_searchThird_62 rfl rfl ?_
          refine a_iload 65 dX0_searchThird_63 rfl rfl ?_
          refine a_iadd 66 dX0_searchThird_65 rfl ?_
          rw [v3f hl]
          refine a_aload_n 67 dX0_searchThird_66 rfl rfl ?_
          refine a_get fd_X0_107 rfl 70 dX0_searchThird_67 rfl (by repeat (first | assumption | (refine rg_ne (by first | decide | omega) ?_) | apply rg_eq | refine rg_fr (by assumption) (by first | decide | (simp; omega)) ?_)) rfl ?_
          refine a_icmp_le 85 73 dX0_searchThird_70 rfl (by decide) (fun c_70 => ?_) (fun c_70 => ?_)
          · refine a_iinc _ 88 dX0_searchThird_85 rfl rfl (by decide) rfl ?_
            refine a_goto 13 dX0_searchThird_88 (by decide) ?_
            exact ih (c + 1) s _ _ _ (by omega) (by rw [show offF s (v3P al bo li a b c) (nI a) (nI b) (nI c) = s from if_pos ⟨c_59, c_70⟩] at hX2; exact hX2) (nI_1 c) hp1 hfr
          · refine a_aload_n 74 dX0_searchThird_73 rfl rfl ?_
            refine a_iload_n 75 dX0_searchThird_74 rfl rfl ?_
            refine a_iload 77 dX0_searchThird_75 rfl rfl ?_
            refine a_iadd 78 dX0_searchThird_77 rfl ?_
            rw [v3f hl]
            refine a_iload_n 79 dX0_searchThird_78 rfl rfl ?_
            refine a_iload_n 80 dX0_searchThird_79 rfl rfl ?_
            refine a_iload 82 dX0_searchThird_80 rfl rfl ?_
            refine a_callV ok_X0_offer ln_X0_90 in_X0_offer rfl 85 dX0_searchThird_82 rfl (k_X0_offer hp1 (v3P al bo li a b c) (nI a) (nI b) (nI c)) (by repeat (first | assumption | (refine rg_ne (by first | decide | omega) ?_) | apply rg_eq | refine rg_fr (by assumption) (by first | decide | (simp; omega)) ?_)) rfl rfl rfl ⟨(Nat.le_of_ble_eq_true rfl), (Nat.le_of_ble_eq_true rfl)⟩ (Nat.le_of_ble_eq_true rfl) ⟨(Nat.le_of_ble_eq_true rfl), (Nat.le_of_ble_eq_true rfl)⟩ ?_
            rintro h2 _ ⟨rfl, hp2, hf2⟩
            refine a_iinc _ 88 dX0_searchThird_85 rfl rfl (by decide) rfl ?_
            refine a_goto 13 dX0_searchThird_88 (by decide) ?_
            exact ih (c + 1) _ _ _ _ (by omega) hX2 (nI_1 c) hp2 (fr_trans hfr hf2 (fun _ q => q))
  have g17 := hp.1
  refine rM_start (by decide) (Nat.le_of_ble_eq_true rfl) ?_
  refine a_aload_n 1 dX0_searchThird_0 rfl rfl ?_
  refine a_iload_n 2 dX0_searchThird_1 rfl rfl ?_
  refine a_iload_n 3 dX0_searchThird_2 rfl rfl ?_
  refine a_callV ok_X0_isOneLine ln_X0_103 in_X0_isOneLine rfl 6 dX0_searchThird_3 rfl (k_X0_isOneLine hp (by omega) (by omega)) (by repeat (first | assumption | (refine rg_ne (by first | decide | omega) ?_) | apply rg_eq | refine rg_fr (by assumption) (by first | decide | (simp; omega)) ?_)) rfl rfl rfl ⟨(Nat.le_of_ble_eq_true rfl), (Nat.le_of_ble_eq_true rfl)⟩ (Nat.le_of_ble_eq_true rfl) ⟨(Nat.le_of_ble_eq_true rfl), (Nat.le_of_ble_eq_true rfl)⟩ ?_
  rintro _ _ ⟨rfl, rfl⟩
  refine a_istore 8 dX0_searchThird_6 rfl (by decide) ?_
  refine a_iload_n 9 dX0_searchThird_8 rfl rfl ?_
  refine a_iconst (1) 10 dX0_searchThird_9 rfl (by decide) ?_
  refine a_iadd 11 dX0_searchThird_10 rfl ?_
  refine a_istore 13 dX0_searchThird_11 rfl (by decide) ?_
  exact A _ _ rfl (fr1 - (b + 1)) (b + 1) s0 _ _ _ (by omega) rfl (nI_1 b) hp (fr_refl _ _)
set_option maxRecDepth 100000 in
set_option maxHeartbeats 400000 in
theorem k_X0_searchSecond {s0 : offS} (hp : plAt G h (nI fr1) s0.2.1 s0.1 ga pl li al bo pa s0.2.2) (hf : fr1 ≤ 52) {num a : Nat} (hn : num < 4) (ha : a < fr1) : rM l G 4 mX0_searchSecond 0 0 [.ref (gN G + 17), .int (nI num), .int (nI a)] h (fun h' v => v = none ∧ plAt G h' (nI fr1) (sr2 al bo li fr1 num a (fr1 - (a + 1)) (a + 1) s0).2.1 (sr2 al bo li fr1 num a (fr1 - (a + 1)) (a + 1) s0).1 ga pl li al bo pa (sr2 al bo li fr1 num a (fr1 - (a + 1)) (a + 1) s0).2.2 ∧ fr h h' [17, 24]) := by
  have en : nI num = 2 ↔ num = 2 := by rw [show (2 : Int32) = nI 2 from rfl]; exact nI_eq (by omega) (by omega)
  have A : ∀ (X : offS) (r b : Nat) (s : offS) (h1 : rH) (y : Int32) (o4 : Option Value), b + r = fr1 → sr2 al bo li fr1 num a r b s = X → y = nI b → plAt G h1 (nI fr1) s.2.1 s.1 ga pl li al bo pa s.2.2 → fr h h1 [17, 24] → rW l G (rRm 4 0 0) mX0_searchSecond (rZ G (fun h' v => v = none ∧ plAt G h' (nI fr1) X.2.1 X.1 ga pl li al bo pa X.2.2 ∧ fr h h' [17, 24]) 0 0) 0 0 4 [some (.ref (gN G + 17)), some (.int (nI num)), some (.int (nI a)), some (.int y), o4] [] h1 := by
    intro X r
    induction r with
    | zero =>
      intro b s h1 y o4 hb hX hy hp1 hfr
      subst hy; subst hX
      have e : b = fr1 := by omega
      subst e
      have g17 := hp1.1
      refine a_iload_n 5 dX0_searchSecond_4 rfl rfl ?_
      refine a_aload_n 6 dX0_searchSecond_5 rfl rfl ?_
      refine a_get fd_X0_33 rfl 9 dX0_searchSecond_6 rfl (by repeat (first | assumption | (refine rg_ne (by first | decide | omega) ?_) | apply rg_eq | refine rg_fr (by assumption) (by first | decide | (simp; omega)) ?_)) rfl ?_
      refine a_icmp_ge 64 12 dX0_searchSecond_9 rfl (by decide) (fun c_9 => ?_) (fun c_9 => absurd (Int32.le_refl _) c_9)
      exact a_return dX0_searchSecond_64 rfl (Nat.le_of_ble_eq_true rfl) (Nat.le_of_ble_eq_true rfl) ⟨rfl, hp1, hfr⟩
    | succ r ih =>
      intro b s h1 y o4 hb hX hy hp1 hfr
      subst hy
      have g17 := hp1.1
      have hX2 : sr2 al bo li fr1 num a r (b + 1) (if num = 2 then offF s (v2P al bo a b) (nI a) (nI b) (-9) else sr3 al bo li a b (fr1 - (b + 1)) (b + 1) s) = X := hX
      refine a_iload_n 5 dX0_searchSecond_4 rfl rfl ?_
      refine a_aload_n 6 dX0_searchSecond_5 rfl rfl ?_
      refine a_get fd_X0_33 rfl 9 dX0_searchSecond_6 rfl (by repeat (first | assumption | (refine rg_ne (by first | decide | omega) ?_) | apply rg_eq | refine rg_fr (by assumption) (by first | decide | (simp; omega)) ?_)) rfl ?_
      refine a_icmp_ge 64 12 dX0_searchSecond_9 rfl (by decide) (fun c_9 => absurd c_9 (nI_ge (a := b) (b := fr1) (by omega) (by omega))) (fun c_9 => ?_)
      refine a_aload_n 13 dX0_searchSecond_12 rfl rfl ?_
      refine a_iload_n 14 dX0_searchSecond_13 rfl rfl ?_
      refine a_callV ok_X0_savedAlone ln_X0_87 in_X0_savedAlone rfl 17 dX0_searchSecond_14 rfl (k_X0_savedAlone hp1 (by omega)) (by repeat (first | assumption | (refine rg_ne (by first | decide | omega) ?_) | apply rg_eq | refine rg_fr (by assumption) (by first | decide | (simp; omega)) ?_)) rfl rfl rfl ⟨(Nat.le_of_ble_eq_true rfl), (Nat.le_of_ble_eq_true rfl)⟩ (Nat.le_of_ble_eq_true rfl) ⟨(Nat.le_of_ble_eq_true rfl), (Nat.le_of_ble_eq_true rfl)⟩ ?_
      rintro _ _ ⟨rfl, rfl⟩
      refine a_aload_n 18 dX0_searchSecond_17 rfl rfl ?_
      refine a_iload_n 19 dX0_searchSecond_18 rfl rfl ?_
      refine a_callV ok_X0_savedAlone ln_X0_87 in_X0_savedAlone rfl 22 dX0_searchSecond_19 rfl (k_X0_savedAlone hp1 (by omega)) (by repeat (first | assumption | (refine rg_ne (by first | decide | omega) ?_) | apply rg_eq | refine rg_fr (by assumption) (by first | decide | (simp; omega)) ?_)) rfl rfl rfl ⟨(Nat.le_of_ble_eq_true rfl), (Nat.le_of_ble_eq_true rfl)⟩ (Nat.le_of_ble_eq_true rfl) ⟨(Nat.le_of_ble_eq_true rfl), (Nat.le_of_ble_eq_true rfl)⟩ ?_
      rintro _ _ ⟨rfl, rfl⟩
      refine a_iadd 23 dX0_searchSecond_22 rfl ?_
      refine a_aload_n 24 dX0_searchSecond_23 rfl rfl ?_
      refine a_iload_n 25 dX0_searchSecond_24 rfl rfl ?_
      refine a_iload_n 26 dX0_searchSecond_25 rfl rfl ?_
      refine a_callV ok_X0_savedBoth ln_X0_97 in_X0_savedBoth rfl 29 dX0_searchSecond_26 rfl (k_X0_savedBoth hp1 (by omega) (by omega)) (by repeat (first | assumption | (refine rg_ne (by first | decide | omega) ?_) | apply rg_eq | refine rg_fr (by assumption) (by first | decide | (simp; omega)) ?_)) rfl rfl rfl ⟨(Nat.le_of_ble_eq_true rfl), (Nat.le_of_ble_eq_true rfl)⟩ (Nat.le_of_ble_eq_true rfl) ⟨(Nat.le_of_ble_eq_true rfl), (Nat.le_of_ble_eq_true rfl)⟩ ?_
      rintro _ _ ⟨rfl, rfl⟩
      refine a_isub 30 dX0_searchSecond_29 rfl ?_
      refine a_istore 32 dX0_searchSecond_30 rfl (by decide) ?_
      refine a_iload_n 33 dX0_searchSecond_32 rfl rfl ?_
      refine a_iconst (2) 34 dX0_searchSecond_33 rfl (by decide) ?_
      refine a_icmp_ne 50 37 dX0_searchSecond_34 rfl (by decide) (fun c_34 => ?_) (fun c_34 => ?_)
      · refine a_aload_n 51 dX0_searchSecond_50 rfl rfl ?_
        refine a_iload 53 dX0_searchSecond_51 rfl rfl ?_
        refine a_iload_n 54 dX0_searchSecond_53 rfl rfl ?_
        refine a_iload_n 55 dX0_searchSecond_54 rfl rfl ?_
        refine a_callV ok_X0_searchThird ln_X0_100 in_X0_searchThird rfl 58 dX0_searchSecond_55 rfl (k_X0_searchThird hp1 hf ha (by omega)) (by repeat (first | assumption | (refine rg_ne (by first | decide | omega) ?_) | apply rg_eq | refine rg_fr (by assumption) (by first | decide | (simp; omega)) ?_)) rfl rfl rfl ⟨(Nat.le_of_ble_eq_true rfl), (Nat.le_of_ble_eq_true rfl)⟩ (Nat.le_of_ble_eq_true rfl) ⟨(Nat.le_of_ble_eq_true rfl), (Nat.le_of_ble_eq_true rfl)⟩ ?_
        rintro h2 _ ⟨rfl, hp2, hf2⟩
        refine a_iinc _ 61 dX0_searchSecond_58 rfl rfl (by decide) rfl ?_
        refine a_goto 4 dX0_searchSecond_61 (by decide) ?_
        exact ih (b + 1) _ _ _ _ (by omega) (by rw [if_neg (fun z => c_34 (en.mpr z))] at hX2; exact hX2) (nI_1 b) hp2 (fr_trans hfr hf2 (fun _ q => q))
      · refine a_aload_n 38 dX0_searchSecond_37 rfl rfl ?_
        refine a_iload 40 dX0_searchSecond_38 rfl rfl ?_
        refine a_iload_n 41 dX0_searchSecond_40 rfl rfl ?_
        refine a_iload_n 42 dX0_searchSecond_41 rfl rfl ?_
        refine a_bipush (-9) 44 dX0_searchSecond_42 rfl (by decide) ?_
        refine a_callV ok_X0_offer ln_X0_90 in_X0_offer rfl 47 dX0_searchSecond_44 rfl (k_X0_offer hp1 (v2P al bo a b) (nI a) (nI b) (-9)) (by repeat (first | assumption | (refine rg_ne (by first | decide | omega) ?_) | apply rg_eq | refine rg_fr (by assumption) (by first | decide | (simp; omega)) ?_)) rfl rfl rfl ⟨(Nat.le_of_ble_eq_true rfl), (Nat.le_of_ble_eq_true rfl)⟩ (Nat.le_of_ble_eq_true rfl) ⟨(Nat.le_of_ble_eq_true rfl), (Nat.le_of_ble_eq_true rfl)⟩ ?_
        rintro h2 _ ⟨rfl, hp2, hf2⟩
        refine a_goto 58 dX0_searchSecond_47 (by decide) ?_
        refine a_iinc _ 61 dX0_searchSecond_58 rfl rfl (by decide) rfl ?_
        refine a_goto 4 dX0_searchSecond_61 (by decide) ?_
        exact ih (b + 1) _ _ _ _ (by omega) (by rw [if_pos (en.mp c_34)] at hX2; exact hX2) (nI_1 b) hp2 (fr_trans hfr hf2 (fun _ q => q))
  refine rM_start (by decide) (Nat.le_of_ble_eq_true rfl) ?_
  refine a_iload_n 1 dX0_searchSecond_0 rfl rfl ?_
  refine a_iconst (1) 2 dX0_searchSecond_1 rfl (by decide) ?_
  refine a_iadd 3 dX0_searchSecond_2 rfl ?_
  refine a_istore_n 4 dX0_searchSecond_3 rfl (by decide) ?_
  exact A _ (fr1 - (a + 1)) (a + 1) s0 _ _ _ (by omega) rfl (nI_1 a) hp (fr_refl _ _)
set_option maxRecDepth 100000 in
set_option maxHeartbeats 400000 in
theorem k_X0_search {tk sv : Int32} {ch : Nat → Int32} (hp : plAt G h (nI fr1) tk sv ga pl li al bo pa ch) (hf : fr1 ≤ 52) {num : Nat} (hn : num < 4) : rM l G 5 mX0_search 0 0 [.ref (gN G + 17), .int (nI num)] h (fun h' v => v = none ∧ plAt G h' (nI fr1) (sr1 al bo li fr1 num fr1 0 (sv, 0, ch)).2.1 (sr1 al bo li fr1 num fr1 0 (sv, 0, ch)).1 ga pl li al bo pa (sr1 al bo li fr1 num fr1 0 (sv, 0, ch)).2.2 ∧ fr h h' [17, 24]) := by
  have en : nI num = 1 ↔ num = 1 := by rw [show (1 : Int32) = nI 1 from rfl]; exact nI_eq (by omega) (by omega)
  have A : ∀ (X : offS) (r a : Nat) (s : offS) (h1 : rH) (y : Int32), a + r = fr1 → sr1 al bo li fr1 num r a s = X → y = nI a → plAt G h1 (nI fr1) s.2.1 s.1 ga pl li al bo pa s.2.2 → fr h h1 [17, 24] → rW l G (rRm 5 0 0) mX0_search (rZ G (fun h' v => v = none ∧ plAt G h' (nI fr1) X.2.1 X.1 ga pl li al bo pa X.2.2 ∧ fr h h' [17, 24]) 0 0) 0 0 7 [some (.ref (gN G + 17)), some (.int (nI num)), some (.int y)] [] h1 := by
    intro X r
    induction r with
    | zero =>
      intro a s h1 y ha hX hy hp1 hfr
      subst hy; subst hX
      have e : a = fr1 := by omega
      subst e
      have g17 := hp1.1
      refine a_iload_n 8 dX0_search_7 rfl rfl ?_
      refine a_aload_n 9 dX0_search_8 rfl rfl ?_
      refine a_get fd_X0_33 rfl 12 dX0_search_9 rfl (by repeat (first | assumption | (refine rg_ne (by first | decide | omega) ?_) | apply rg_eq | refine rg_fr (by assumption) (by first | decide | (simp; omega)) ?_)) rfl ?_
      refine a_icmp_ge 49 15 dX0_search_12 rfl (by decide) (fun c_12 => ?_) (fun c_12 => absurd (Int32.le_refl _) c_12)
      exact a_return dX0_search_49 rfl (Nat.le_of_ble_eq_true rfl) (Nat.le_of_ble_eq_true rfl) ⟨rfl, hp1, hfr⟩
    | succ r ih =>
      intro a s h1 y ha hX hy hp1 hfr
      subst hy
      have g17 := hp1.1
      have hX2 : sr1 al bo li fr1 num r (a + 1) (if num = 1 then offF s (al a) (nI a) (-9) (-9) else sr2 al bo li fr1 num a (fr1 - (a + 1)) (a + 1) s) = X := hX
      refine a_iload_n 8 dX0_search_7 rfl rfl ?_
      refine a_aload_n 9 dX0_search_8 rfl rfl ?_
      refine a_get fd_X0_33 rfl 12 dX0_search_9 rfl (by repeat (first | assumption | (refine rg_ne (by first | decide | omega) ?_) | apply rg_eq | refine rg_fr (by assumption) (by first | decide | (simp; omega)) ?_)) rfl ?_
      refine a_icmp_ge 49 15 dX0_search_12 rfl (by decide) (fun c_12 => absurd c_12 (nI_ge (a := a) (b := fr1) (by omega) (by omega))) (fun c_12 => ?_)
      refine a_iload_n 16 dX0_search_15 rfl rfl ?_
      refine a_iconst (1) 17 dX0_search_16 rfl (by decide) ?_
      refine a_icmp_ne 37 20 dX0_search_17 rfl (by decide) (fun c_17 => ?_) (fun c_17 => ?_)
      · refine a_aload_n 38 dX0_search_37 rfl rfl ?_
        refine a_iload_n 39 dX0_search_38 rfl rfl ?_
        refine a_iload_n 40 dX0_search_39 rfl rfl ?_
        refine a_callV ok_X0_searchSecond ln_X0_94 in_X0_searchSecond rfl 43 dX0_search_40 rfl (k_X0_searchSecond hp1 hf hn (by omega)) (by repeat (first | assumption | (refine rg_ne (by first | decide | omega) ?_) | apply rg_eq | refine rg_fr (by assumption) (by first | decide | (simp; omega)) ?_)) rfl rfl rfl ⟨(Nat.le_of_ble_eq_true rfl), (Nat.le_of_ble_eq_true rfl)⟩ (Nat.le_of_ble_eq_true rfl) ⟨(Nat.le_of_ble_eq_true rfl), (Nat.le_of_ble_eq_true rfl)⟩ ?_
        rintro h2 _ ⟨rfl, hp2, hf2⟩
        refine a_iinc _ 46 dX0_search_43 rfl rfl (by decide) rfl ?_
        refine a_goto 7 dX0_search_46 (by decide) ?_
        exact ih (a + 1) _ _ _ (by omega) (by rw [if_neg (fun z => c_17 (en.mpr z))] at hX2; exact hX2) (nI_1 a) hp2 (fr_trans hfr hf2 (fun _ q => q))
      · refine a_aload_n 21 dX0_search_20 rfl rfl ?_
        refine a_aload_n 22 dX0_search_21 rfl rfl ?_
        refine a_iload_n 23 dX0_search_22 rfl rfl ?_
        refine a_callV ok_X0_savedAlone ln_X0_87 in_X0_savedAlone rfl 26 dX0_search_23 rfl (k_X0_savedAlone hp1 (by omega)) (by repeat (first | assumption | (refine rg_ne (by first | decide | omega) ?_) | apply rg_eq | refine rg_fr (by assumption) (by first | decide | (simp; omega)) ?_)) rfl rfl rfl ⟨(Nat.le_of_ble_eq_true rfl), (Nat.le_of_ble_eq_true rfl)⟩ (Nat.le_of_ble_eq_true rfl) ⟨(Nat.le_of_ble_eq_true rfl), (Nat.le_of_ble_eq_true rfl)⟩ ?_
        rintro _ _ ⟨rfl, rfl⟩
        refine a_iload_n 27 dX0_search_26 rfl rfl ?_
        refine a_bipush (-9) 29 dX0_search_27 rfl (by decide) ?_
        refine a_bipush (-9) 31 dX0_search_29 rfl (by decide) ?_
        refine a_callV ok_X0_offer ln_X0_90 in_X0_offer rfl 34 dX0_search_31 rfl (k_X0_offer hp1 (al a) (nI a) (-9) (-9)) (by repeat (first | assumption | (refine rg_ne (by first | decide | omega) ?_) | apply rg_eq | refine rg_fr (by assumption) (by first | decide | (simp; omega)) ?_)) rfl rfl rfl ⟨(Nat.le_of_ble_eq_true rfl), (Nat.le_of_ble_eq_true rfl)⟩ (Nat.le_of_ble_eq_true rfl) ⟨(Nat.le_of_ble_eq_true rfl), (Nat.le_of_ble_eq_true rfl)⟩ ?_
        rintro h2 _ ⟨rfl, hp2, hf2⟩
        refine a_goto 43 dX0_search_34 (by decide) ?_
        refine a_iinc _ 46 dX0_search_43 rfl rfl (by decide) rfl ?_
        refine a_goto 7 dX0_search_46 (by decide) ?_
        exact ih (a + 1) _ _ _ (by omega) (by rw [if_pos (en.mp c_17)] at hX2; exact hX2) (nI_1 a) hp2 (fr_trans hfr hf2 (fun _ q => q))
  obtain ⟨p1, p2, p3, p4, p5, p6, p7, p8⟩ := hp
  refine rM_start (by decide) (Nat.le_of_ble_eq_true rfl) ?_
  refine a_aload_n 1 dX0_search_0 rfl rfl ?_
  refine a_iconst (0) 2 dX0_search_1 rfl (by decide) ?_
  refine a_put fd_X0_84 cl_X0 rfl 5 dX0_search_2 rfl (by repeat (first | assumption | (refine rg_ne (by first | decide | omega) ?_) | apply rg_eq | refine rg_fr (by assumption) (by first | decide | (simp; omega)) ?_)) (Nat.le_of_ble_eq_true rfl) rfl rfl rfl ?_
  refine a_iconst (0) 6 dX0_search_5 rfl (by decide) ?_
  refine a_istore_n 7 dX0_search_6 rfl (by decide) ?_
  exact A _ fr1 0 (sv, 0, ch) _ _ (by omega) rfl rfl ⟨rg_eq p1, rg_ne (by decide) p2, rg_ne (by decide) p3, rg_ne (by decide) p4, rg_ne (by decide) p5, rg_ne (by decide) p6, rg_ne (by decide) p7, rg_ne (by decide) p8⟩ (fr_set (fr_refl _ _) (by decide))
set_option maxRecDepth 100000 in
set_option maxHeartbeats 400000 in
theorem k_X0_chosenGap {tk sv : Int32} {ch : Nat → Int32} {w n m bc : Int32} {f s L B : Nat → Int32} (hp : plAt G h (nI fr1) tk sv ga pl li al bo pa ch) (hc : ccAt G h w n m bc f s L B) {x k : Nat} (hx : x < 3) (hk : k < 52) (e : ch x = nI k) (hn : nI x < tk) : rM l G 1 mX0_chosenGap 0 0 [.ref (gN G + 17), .ref (gN G + 7), .int (nI x)] h (rV h (some (.int ((100 : Int32) * (ga k >>> (1 &&& 31)) + (if ga k &&& 1 = 0 then (ga k >>> (1 &&& 31)) + 1 else (ga k >>> (1 &&& 31)) + w))))) := by
  obtain ⟨p1, p2, p3, p4, p5, p6, p7, p8⟩ := hp
  have vx : vp_in (nI x) 3 := vp_in_nI hx (by decide)
  have vk : vp_in (nI k) 52 := vp_in_nI hk (by decide)
  have e0 : (nI x).toNatClampNeg = x := nI_clamp (by omega)
  have e1 : (nI k).toNatClampNeg = k := nI_clamp (by omega)
  have g7 := hc.1
  refine rM_start (by decide) (Nat.le_of_ble_eq_true rfl) ?_
  refine a_iload_n 1 dX0_chosenGap_0 rfl rfl ?_
  refine a_if_lt 21 4 dX0_chosenGap_1 rfl (by decide) (fun c_1 => absurd c_1 (nI_pos (by omega))) (fun c_1 => ?_)
  refine a_iload_n 5 dX0_chosenGap_4 rfl rfl ?_
  refine a_aload_n 6 dX0_chosenGap_5 rfl rfl ?_
  refine a_get fd_X0_84 rfl 9 dX0_chosenGap_6 rfl (by repeat (first | assumption | (refine rg_ne (by first | decide | omega) ?_) | apply rg_eq | refine rg_fr (by assumption) (by first | decide | (simp; omega)) ?_)) rfl ?_
  refine a_icmp_ge 21 12 dX0_chosenGap_9 rfl (by decide) (fun c_9 => absurd hn (Int32.not_lt.mpr c_9)) (fun c_9 => ?_)
  refine a_iload_n 13 dX0_chosenGap_12 rfl rfl ?_
  refine a_aload_n 14 dX0_chosenGap_13 rfl rfl ?_
  refine a_get fd_X0_30 rfl 17 dX0_chosenGap_14 rfl (by repeat (first | assumption | (refine rg_ne (by first | decide | omega) ?_) | apply rg_eq | refine rg_fr (by assumption) (by first | decide | (simp; omega)) ?_)) rfl ?_
  refine a_alen_0 18 dX0_chosenGap_17 rfl (by repeat (first | assumption | (refine rg_ne (by first | decide | omega) ?_) | apply rg_eq | refine rg_fr (by assumption) (by first | decide | (simp; omega)) ?_)) ?_
  refine a_icmp_lt 24 21 dX0_chosenGap_18 rfl (by decide) (fun c_18 => ?_) (fun c_18 => absurd (nI_lt (b := 3) hx (by decide)) c_18)
  refine a_aload_n 25 dX0_chosenGap_24 rfl rfl ?_
  refine a_get fd_X0_30 rfl 28 dX0_chosenGap_25 rfl (by repeat (first | assumption | (refine rg_ne (by first | decide | omega) ?_) | apply rg_eq | refine rg_fr (by assumption) (by first | decide | (simp; omega)) ?_)) rfl ?_
  refine a_iload_n 29 dX0_chosenGap_28 rfl rfl ?_
  refine a_iaload 30 dX0_chosenGap_29 rfl (by repeat (first | assumption | (refine rg_ne (by first | decide | omega) ?_) | apply rg_eq | refine rg_fr (by assumption) (by first | decide | (simp; omega)) ?_)) vx ?_
  rw [e0, e]
  refine a_istore_n 31 dX0_chosenGap_30 rfl (by decide) ?_
  refine a_iload_n 32 dX0_chosenGap_31 rfl rfl ?_
  refine a_if_lt 44 35 dX0_chosenGap_32 rfl (by decide) (fun c_32 => absurd c_32 (nI_pos (by omega))) (fun c_32 => ?_)
  refine a_iload_n 36 dX0_chosenGap_35 rfl rfl ?_
  refine a_aload_n 37 dX0_chosenGap_36 rfl rfl ?_
  refine a_get fd_X0_9 rfl 40 dX0_chosenGap_37 rfl (by repeat (first | assumption | (refine rg_ne (by first | decide | omega) ?_) | apply rg_eq | refine rg_fr (by assumption) (by first | decide | (simp; omega)) ?_)) rfl ?_
  refine a_alen_0 41 dX0_chosenGap_40 rfl (by repeat (first | assumption | (refine rg_ne (by first | decide | omega) ?_) | apply rg_eq | refine rg_fr (by assumption) (by first | decide | (simp; omega)) ?_)) ?_
  refine a_icmp_lt 47 44 dX0_chosenGap_41 rfl (by decide) (fun c_41 => ?_) (fun c_41 => absurd (nI_lt (b := 52) hk (by decide)) c_41)
  refine a_bipush (100) 49 dX0_chosenGap_47 rfl (by decide) ?_
  refine a_aload_n 50 dX0_chosenGap_49 rfl rfl ?_
  refine a_aload_n 51 dX0_chosenGap_50 rfl rfl ?_
  refine a_get fd_X0_9 rfl 54 dX0_chosenGap_51 rfl (by repeat (first | assumption | (refine rg_ne (by first | decide | omega) ?_) | apply rg_eq | refine rg_fr (by assumption) (by first | decide | (simp; omega)) ?_)) rfl ?_
  refine a_iload_n 55 dX0_chosenGap_54 rfl rfl ?_
  refine a_iaload 56 dX0_chosenGap_55 rfl (by repeat (first | assumption | (refine rg_ne (by first | decide | omega) ?_) | apply rg_eq | refine rg_fr (by assumption) (by first | decide | (simp; omega)) ?_)) vk ?_
  rw [e1]
  refine a_callV ok_X1_lesserSeat ln_X0_110 in_X1_lesserSeat rfl 59 dX0_chosenGap_56 rfl (k_X1_lesserSeat _) (by repeat (first | assumption | (refine rg_ne (by first | decide | omega) ?_) | apply rg_eq | refine rg_fr (by assumption) (by first | decide | (simp; omega)) ?_)) rfl rfl rfl ⟨(Nat.le_of_ble_eq_true rfl), (Nat.le_of_ble_eq_true rfl)⟩ (Nat.le_of_ble_eq_true rfl) ⟨(Nat.le_of_ble_eq_true rfl), (Nat.le_of_ble_eq_true rfl)⟩ ?_
  rintro _ _ ⟨rfl, rfl⟩
  refine a_imul 60 dX0_chosenGap_59 rfl ?_
  refine a_aload_n 61 dX0_chosenGap_60 rfl rfl ?_
  refine a_aload_n 62 dX0_chosenGap_61 rfl rfl ?_
  refine a_get fd_X0_9 rfl 65 dX0_chosenGap_62 rfl (by repeat (first | assumption | (refine rg_ne (by first | decide | omega) ?_) | apply rg_eq | refine rg_fr (by assumption) (by first | decide | (simp; omega)) ?_)) rfl ?_
  refine a_iload_n 66 dX0_chosenGap_65 rfl rfl ?_
  refine a_iaload 67 dX0_chosenGap_66 rfl (by repeat (first | assumption | (refine rg_ne (by first | decide | omega) ?_) | apply rg_eq | refine rg_fr (by assumption) (by first | decide | (simp; omega)) ?_)) vk ?_
  rw [e1]
  refine a_callV ok_X1_greaterSeat ln_X0_113 in_X1_greaterSeat rfl 70 dX0_chosenGap_67 rfl (k_X1_greaterSeat g7 _) (by repeat (first | assumption | (refine rg_ne (by first | decide | omega) ?_) | apply rg_eq | refine rg_fr (by assumption) (by first | decide | (simp; omega)) ?_)) rfl rfl rfl ⟨(Nat.le_of_ble_eq_true rfl), (Nat.le_of_ble_eq_true rfl)⟩ (Nat.le_of_ble_eq_true rfl) ⟨(Nat.le_of_ble_eq_true rfl), (Nat.le_of_ble_eq_true rfl)⟩ ?_
  rintro _ _ ⟨rfl, rfl⟩
  refine a_iadd 71 dX0_chosenGap_70 rfl ?_
  exact a_ireturn dX0_chosenGap_71 rfl rfl (Nat.le_of_ble_eq_true rfl) (Nat.le_of_ble_eq_true rfl) ⟨rfl, rfl⟩
set_option maxRecDepth 100000 in
set_option maxHeartbeats 400000 in
theorem k_X0_chosenNo {tk sv : Int32} {ch : Nat → Int32} {a x : Nat} (hp : plAt G h (nI fr1) tk sv ga pl li al bo pa ch) (hn : tk ≤ nI x) (hx : x < 3) : rM l G 1 mX0_chosenGap 0 0 [.ref (gN G + 17), .ref (gN G + a), .int (nI x)] h (rV h (some (.int (-9)))) := by
  obtain ⟨p1, p2, p3, p4, p5, p6, p7, p8⟩ := hp
  refine rM_start (by decide) (Nat.le_of_ble_eq_true rfl) ?_
  refine a_iload_n 1 dX0_chosenGap_0 rfl rfl ?_
  refine a_if_lt 21 4 dX0_chosenGap_1 rfl (by decide) (fun c_1 => absurd c_1 (nI_pos (by omega))) (fun c_1 => ?_)
  refine a_iload_n 5 dX0_chosenGap_4 rfl rfl ?_
  refine a_aload_n 6 dX0_chosenGap_5 rfl rfl ?_
  refine a_get fd_X0_84 rfl 9 dX0_chosenGap_6 rfl (by repeat (first | assumption | (refine rg_ne (by first | decide | omega) ?_) | apply rg_eq | refine rg_fr (by assumption) (by first | decide | (simp; omega)) ?_)) rfl ?_
  refine a_icmp_ge 21 12 dX0_chosenGap_9 rfl (by decide) (fun c_9 => ?_) (fun c_9 => absurd hn c_9)
  refine a_bipush (-9) 23 dX0_chosenGap_21 rfl (by decide) ?_
  exact a_ireturn dX0_chosenGap_23 rfl rfl (Nat.le_of_ble_eq_true rfl) (Nat.le_of_ble_eq_true rfl) ⟨rfl, rfl⟩
end PLAN2
