/-! THE MODEL: shares in least terms, spread -/
theorem lN_div {a b : Nat} (ha : a < 2 ^ 31) (hb : b < 2 ^ 31) : lN a / lN b = lN (a / b) := by
  apply Int64.toInt_inj.mp
  have hd : a / b < 2 ^ 31 := Nat.lt_of_le_of_lt (Nat.div_le_self _ _) ha
  rw [Int64.toInt_div, lN_toInt ha, lN_toInt hb, lN_toInt hd]
  have e : ((a : Int).tdiv b) = ((a / b : Nat) : Int) := rfl
  rw [e]
  generalize a / b = d at hd
  unfold Int.bmod
  simp only
  split <;> omega
theorem lN_rem {a b : Nat} (ha : a < 2 ^ 31) (hb : b < 2 ^ 31) : lN a - lN a / lN b * lN b = lN (a % b) := by
  have h1 : a / b * b ≤ a := Nat.div_mul_le_self _ _
  rw [lN_div ha hb, lN_mul, lN_sub h1]
  congr 1
  have := Nat.div_add_mod a b
  rw [Nat.mul_comm] at this
  omega
theorem lN_0 {b : Nat} (hb : b < 2 ^ 31) : lN b = 0 ↔ b = 0 := by
  rw [show (0 : Int64) = lN 0 from rfl]
  exact lN_eq hb (by omega)
section MSHARE
variable {l : Launch} {G : rG} {h : rH} {T : Tn}
set_option maxRecDepth 100000 in
set_option maxHeartbeats 400000 in
theorem k_X12_told {a b : Nat} (ha : a < 2 ^ 31) (hb : b < 2 ^ 31) (h0 : 0 < b) (w : Int32) : rM l G 0 mX12_told 0 0 [.long (lN a), .long (lN b), .int w] h (rV h (some (.long (tolN a b w)))) := by
  have g0 : 0 < Nat.gcd a b := Nat.gcd_pos_of_pos_right a h0
  have g1 : Nat.gcd a b ≤ b := Nat.le_of_dvd h0 (Nat.gcd_dvd_right a b)
  have A : ∀ (r x y : Nat) (u v : Int64) (o9 o10 : Option Value), y ≤ r → x < 2 ^ 31 → y < 2 ^ 31 → Nat.gcd x y = Nat.gcd a b → u = lN x → v = lN y → rW l G (rRm 0 0 0) mX12_told (rZ G (rV h (some (.long (tolN a b w)))) 0 0) 0 0 6 [some (.long (lN a)), none, some (.long (lN b)), none, some (.int w), some (.long u), none, some (.long v), none, o9, o10] [] h := by
    intro r
    induction r with
    | zero =>
      intro x y u v o9 o10 hr hx hy hg hu hv
      subst hu; subst hv
      have y0 : y = 0 := by omega
      subst y0
      rw [Nat.gcd_zero_right] at hg
      subst hg
      have hg0 : ¬ lN (Nat.gcd a b) = 0 := fun z => by have := (lN_0 (by omega)).mp z; omega
      refine a_lload 8 dX12_told_6 rfl rfl ?_
      refine a_lconst (0) 9 dX12_told_8 rfl (by decide) ?_
      refine a_lcmp 10 dX12_told_9 rfl ?_
      refine a_if_eq 31 13 dX12_told_10 rfl (by decide) (fun c_10 => ?_) (fun c_10 => absurd ((lg_cmp_eq _ _).mpr rfl) c_10)
      refine a_iload 33 dX12_told_31 rfl rfl ?_
      refine a_if_ne 40 36 dX12_told_33 rfl (by decide) (fun c_33 => ?_) (fun c_33 => ?_)
      · refine a_lload_n 41 dX12_told_40 rfl rfl ?_
        refine a_lload 43 dX12_told_41 rfl rfl ?_
        refine a_ldiv 44 dX12_told_43 rfl hg0 ?_
        exact a_lreturn dX12_told_44 rfl (Nat.le_of_ble_eq_true rfl) (Nat.le_of_ble_eq_true rfl) ⟨rfl, by rw [lN_div (by omega) (by omega), tolN, if_neg c_33]⟩
      · refine a_lload_n 37 dX12_told_36 rfl rfl ?_
        refine a_goto 41 dX12_told_37 (by decide) ?_
        refine a_lload 43 dX12_told_41 rfl rfl ?_
        refine a_ldiv 44 dX12_told_43 rfl hg0 ?_
        exact a_lreturn dX12_told_44 rfl (Nat.le_of_ble_eq_true rfl) (Nat.le_of_ble_eq_true rfl) ⟨rfl, by rw [lN_div (by omega) (by omega), tolN, if_pos c_33]⟩
    | succ r ih =>
      intro x y u v o9 o10 hr hx hy hg hu hv
      subst hu; subst hv
      by_cases y0 : y = 0
      · subst y0
        rw [Nat.gcd_zero_right] at hg
        subst hg
        have hg0 : ¬ lN (Nat.gcd a b) = 0 := fun z => by have := (lN_0 (by omega)).mp z; omega
        refine a_lload 8 dX12_told_6 rfl rfl ?_
        refine a_lconst (0) 9 dX12_told_8 rfl (by decide) ?_
        refine a_lcmp 10 dX12_told_9 rfl ?_
        refine a_if_eq 31 13 dX12_told_10 rfl (by decide) (fun c_10 => ?_) (fun c_10 => absurd ((lg_cmp_eq _ _).mpr rfl) c_10)
        refine a_iload 33 dX12_told_31 rfl rfl ?_
        refine a_if_ne 40 36 dX12_told_33 rfl (by decide) (fun c_33 => ?_) (fun c_33 => ?_)
        · refine a_lload_n 41 dX12_told_40 rfl rfl ?_
          refine a_lload 43 dX12_told_41 rfl rfl ?_
          refine a_ldiv 44 dX12_told_43 rfl hg0 ?_
          exact a_lreturn dX12_told_44 rfl (Nat.le_of_ble_eq_true rfl) (Nat.le_of_ble_eq_true rfl) ⟨rfl, by rw [lN_div (by omega) (by omega), tolN, if_neg c_33]⟩
        · refine a_lload_n 37 dX12_told_36 rfl rfl ?_
          refine a_goto 41 dX12_told_37 (by decide) ?_
          refine a_lload 43 dX12_told_41 rfl rfl ?_
          refine a_ldiv 44 dX12_told_43 rfl hg0 ?_
          exact a_lreturn dX12_told_44 rfl (Nat.le_of_ble_eq_true rfl) (Nat.le_of_ble_eq_true rfl) ⟨rfl, by rw [lN_div (by omega) (by omega), tolN, if_pos c_33]⟩
      · have hy0 : ¬ lN y = 0 := fun z => y0 ((lN_0 hy).mp z)
        have hml := Nat.mod_lt x (Nat.pos_of_ne_zero y0)
        refine a_lload 8 dX12_told_6 rfl rfl ?_
        refine a_lconst (0) 9 dX12_told_8 rfl (by decide) ?_
        refine a_lcmp 10 dX12_told_9 rfl ?_
        refine a_if_eq 31 13 dX12_told_10 rfl (by decide) (fun c_10 => absurd ((lg_cmp_eq _ _).mp c_10) hy0) (fun c_10 => ?_)
        refine a_lload 15 dX12_told_13 rfl rfl ?_
        refine a_lload 17 dX12_told_15 rfl rfl ?_
        refine a_lrem 18 dX12_told_17 rfl hy0 ?_
        rw [lN_rem hx hy]
        refine a_lstore 20 dX12_told_18 rfl (by decide) ?_
        refine a_lload 22 dX12_told_20 rfl rfl ?_
        refine a_lstore 24 dX12_told_22 rfl (by decide) ?_
        refine a_lload 26 dX12_told_24 rfl rfl ?_
        refine a_lstore 28 dX12_told_26 rfl (by decide) ?_
        refine a_goto 6 dX12_told_28 (by decide) ?_
        exact ih y (x % y) _ _ _ _ (by omega) hy (by omega) (by rw [Nat.gcd_comm, ← Nat.gcd_rec, Nat.gcd_comm]; exact hg) rfl rfl
  refine rM_start (by decide) (Nat.le_of_ble_eq_true rfl) ?_
  refine a_lload_n 1 dX12_told_0 rfl rfl ?_
  refine a_lstore 3 dX12_told_1 rfl (by decide) ?_
  refine a_lload_n 4 dX12_told_3 rfl rfl ?_
  refine a_lstore 6 dX12_told_4 rfl (by decide) ?_
  exact A b a b _ _ _ _ (Nat.le_refl _) ha hb rfl rfl rfl
theorem in01 (w : Int32) : ((0 : Int64) ≤ w.toInt64 ∧ w.toInt64 ≤ 1) ↔ (w = 0 ∨ w = 1) := by
  rw [in64c w 1 (by decide) rfl, i_le, i_lt, i_eq, i_eq]
  show (0 ≤ w.toInt ∧ w.toInt < 2) ↔ (w.toInt = 0 ∨ w.toInt = 1)
  omega
set_option maxRecDepth 100000 in
set_option maxHeartbeats 400000 in
theorem m_share (q : mAll G h T) (o : T.ok) (c d a w : Int32) : rM l G 12 mX12_share 0 0 [.ref (gN G + 38), .int c, .int d, .int a, .int w] h (fun h' v => v = some (.long (aShare T c d a w)) ∧ mAll G h' T ∧ kp h h' mL) := by
  obtain ⟨i, j, q⟩ := q
  have hnl := o.nl6
  have hny := o.ny24
  have hm := q.at
  rcases oT_cases (n := T.nl) (by omega) c with ⟨e, hc⟩ | ⟨z, hz, rfl, e⟩
  · have ea : aShare T c d a w = lost64 := by unfold aShare; rw [e]
    refine rM_start (by decide) (Nat.le_of_ble_eq_true rfl) ?_
    refine a_aload_n 1 dX12_share_0 rfl rfl ?_
    refine a_iload_n 2 dX12_share_1 rfl rfl ?_
    refine a_callV ok_X12_noLaw ln_X12_218 in_X12_noLaw rfl 5 dX12_share_2 rfl (m_noLaw q c) (by repeat (first | assumption | (refine rg_ne (by first | decide | omega) ?_) | apply rg_eq | refine rg_fr (by assumption) (by first | decide | (simp; omega)) ?_)) rfl rfl rfl ⟨(Nat.le_of_ble_eq_true rfl), (Nat.le_of_ble_eq_true rfl)⟩ (Nat.le_of_ble_eq_true rfl) ⟨(Nat.le_of_ble_eq_true rfl), (Nat.le_of_ble_eq_true rfl)⟩ ?_
    rintro _ _ ⟨rfl, rfl⟩
    refine a_if_ne 50 8 dX12_share_5 rfl (by decide) (fun c_5 => ?_) (fun c_5 => absurd c_5 (by rw [if_neg hc]; decide))
    refine a_callS ok_X12_lost ln_X12_83 is_X12_lost rfl 53 dX12_share_50 rfl (k_X12_lost) rfl rfl ⟨(Nat.le_of_ble_eq_true rfl), (Nat.le_of_ble_eq_true rfl)⟩ (Nat.le_of_ble_eq_true rfl) ⟨(Nat.le_of_ble_eq_true rfl), (Nat.le_of_ble_eq_true rfl)⟩ ?_
    rintro _ _ ⟨rfl, rfl⟩
    exact a_lreturn dX12_share_53 rfl (Nat.le_of_ble_eq_true rfl) (Nat.le_of_ble_eq_true rfl) ⟨by rw [ea]; rfl, ⟨i, j, q⟩, fun _ _ _ => rfl⟩
  · rcases oT_cases (n := T.ny) (by omega) d with ⟨e2, hd⟩ | ⟨x, hx, rfl, e2⟩
    · have ea : aShare T (nI z) d a w = lost64 := by unfold aShare; rw [e, e2]
      refine rM_start (by decide) (Nat.le_of_ble_eq_true rfl) ?_
      refine a_aload_n 1 dX12_share_0 rfl rfl ?_
      refine a_iload_n 2 dX12_share_1 rfl rfl ?_
      refine a_callV ok_X12_noLaw ln_X12_218 in_X12_noLaw rfl 5 dX12_share_2 rfl (m_noLaw q (nI z)) (by repeat (first | assumption | (refine rg_ne (by first | decide | omega) ?_) | apply rg_eq | refine rg_fr (by assumption) (by first | decide | (simp; omega)) ?_)) rfl rfl rfl ⟨(Nat.le_of_ble_eq_true rfl), (Nat.le_of_ble_eq_true rfl)⟩ (Nat.le_of_ble_eq_true rfl) ⟨(Nat.le_of_ble_eq_true rfl), (Nat.le_of_ble_eq_true rfl)⟩ ?_
      rintro _ _ ⟨rfl, rfl⟩
      refine a_if_ne 50 8 dX12_share_5 rfl (by decide) (fun c_5 => absurd (if_pos (oT_yes hz (by omega))) c_5) (fun c_5 => ?_)
      refine a_aload_n 9 dX12_share_8 rfl rfl ?_
      refine a_iload_n 10 dX12_share_9 rfl rfl ?_
      refine a_callV ok_X12_noYawn ln_X12_243 in_X12_noYawn rfl 13 dX12_share_10 rfl (m_noYawn q d) (by repeat (first | assumption | (refine rg_ne (by first | decide | omega) ?_) | apply rg_eq | refine rg_fr (by assumption) (by first | decide | (simp; omega)) ?_)) rfl rfl rfl ⟨(Nat.le_of_ble_eq_true rfl), (Nat.le_of_ble_eq_true rfl)⟩ (Nat.le_of_ble_eq_true rfl) ⟨(Nat.le_of_ble_eq_true rfl), (Nat.le_of_ble_eq_true rfl)⟩ ?_
      rintro _ _ ⟨rfl, rfl⟩
      refine a_if_ne 50 16 dX12_share_13 rfl (by decide) (fun c_13 => ?_) (fun c_13 => absurd c_13 (by rw [if_neg hd]; decide))
      refine a_callS ok_X12_lost ln_X12_83 is_X12_lost rfl 53 dX12_share_50 rfl (k_X12_lost) rfl rfl ⟨(Nat.le_of_ble_eq_true rfl), (Nat.le_of_ble_eq_true rfl)⟩ (Nat.le_of_ble_eq_true rfl) ⟨(Nat.le_of_ble_eq_true rfl), (Nat.le_of_ble_eq_true rfl)⟩ ?_
      rintro _ _ ⟨rfl, rfl⟩
      exact a_lreturn dX12_share_53 rfl (Nat.le_of_ble_eq_true rfl) (Nat.le_of_ble_eq_true rfl) ⟨by rw [ea]; rfl, ⟨i, j, q⟩, fun _ _ _ => rfl⟩
    · have hal := all_lt o (q := x) hz hx
      have hown := own_lt o (x := T.yw x) hz
      have hn9 : ¬ (0 ≤ (-9 : Int32) ∧ (-9 : Int32) < nI T.ny) := fun v => absurd v.1 (by decide)
      have hin := in01 w
      have hz0 := nI_0eq (k := T.all z x) (by omega)
      have ea0 : ∀ p, (if a = -9 then some (T.own z (T.yw x)) else (oT T.ny a).map (T.src z x)) = some p → aShare T (nI z) (nI x) a w = if (w = 0 ∨ w = 1) ∧ ¬ T.all z x = 0 then tolN p (T.all z x) w else lost64 := fun p hp => by unfold aShare; rw [e, e2]; dsimp only; rw [hp]
      have hBR : ∀ v : Int32, (if (0 : Int64) ≤ w.toInt64 ∧ w.toInt64 ≤ 1 then (1 : Int32) else 0) = 0 ↔ ¬ (w = 0 ∨ w = 1) := fun v => by rw [b_eq0, hin]
      by_cases ha : a = -9
      · subst ha
        have ea := ea0 _ (if_pos rfl)
        refine rM_start (by decide) (Nat.le_of_ble_eq_true rfl) ?_
        refine a_aload_n 1 dX12_share_0 rfl rfl ?_
        refine a_iload_n 2 dX12_share_1 rfl rfl ?_
        refine a_callV ok_X12_noLaw ln_X12_218 in_X12_noLaw rfl 5 dX12_share_2 rfl (m_noLaw q (nI z)) (by repeat (first | assumption | (refine rg_ne (by first | decide | omega) ?_) | apply rg_eq | refine rg_fr (by assumption) (by first | decide | (simp; omega)) ?_)) rfl rfl rfl ⟨(Nat.le_of_ble_eq_true rfl), (Nat.le_of_ble_eq_true rfl)⟩ (Nat.le_of_ble_eq_true rfl) ⟨(Nat.le_of_ble_eq_true rfl), (Nat.le_of_ble_eq_true rfl)⟩ ?_
        rintro _ _ ⟨rfl, rfl⟩
        refine a_if_ne 50 8 dX12_share_5 rfl (by decide) (fun c_5 => absurd (if_pos (oT_yes hz (by omega))) c_5) (fun c_5 => ?_)
        refine a_aload_n 9 dX12_share_8 rfl rfl ?_
        refine a_iload_n 10 dX12_share_9 rfl rfl ?_
        refine a_callV ok_X12_noYawn ln_X12_243 in_X12_noYawn rfl 13 dX12_share_10 rfl (m_noYawn q (nI x)) (by repeat (first | assumption | (refine rg_ne (by first | decide | omega) ?_) | apply rg_eq | refine rg_fr (by assumption) (by first | decide | (simp; omega)) ?_)) rfl rfl rfl ⟨(Nat.le_of_ble_eq_true rfl), (Nat.le_of_ble_eq_true rfl)⟩ (Nat.le_of_ble_eq_true rfl) ⟨(Nat.le_of_ble_eq_true rfl), (Nat.le_of_ble_eq_true rfl)⟩ ?_
        rintro _ _ ⟨rfl, rfl⟩
        refine a_if_ne 50 16 dX12_share_13 rfl (by decide) (fun c_13 => absurd (if_pos (oT_yes hx (by omega))) c_13) (fun c_13 => ?_)
        refine a_aload_n 17 dX12_share_16 rfl rfl ?_
        refine a_iload_n 18 dX12_share_17 rfl rfl ?_
        refine a_callV ok_X12_noYawn ln_X12_243 in_X12_noYawn rfl 21 dX12_share_18 rfl (m_noYawn q (-9)) (by repeat (first | assumption | (refine rg_ne (by first | decide | omega) ?_) | apply rg_eq | refine rg_fr (by assumption) (by first | decide | (simp; omega)) ?_)) rfl rfl rfl ⟨(Nat.le_of_ble_eq_true rfl), (Nat.le_of_ble_eq_true rfl)⟩ (Nat.le_of_ble_eq_true rfl) ⟨(Nat.le_of_ble_eq_true rfl), (Nat.le_of_ble_eq_true rfl)⟩ ?_
        rintro _ _ ⟨rfl, rfl⟩
        refine a_if_eq 30 24 dX12_share_21 rfl (by decide) (fun c_21 => absurd c_21 (by rw [if_neg hn9]; decide)) (fun c_21 => ?_)
        refine a_iload_n 25 dX12_share_24 rfl rfl ?_
        refine a_bipush (-9) 27 dX12_share_25 rfl (by decide) ?_
        refine a_icmp_ne 50 30 dX12_share_27 rfl (by decide) (fun c_27 => absurd rfl c_27) (fun c_27 => ?_)
        refine a_iload 32 dX12_share_30 rfl rfl ?_
        refine a_i2l 33 dX12_share_32 rfl ?_
        refine a_lconst (0) 34 dX12_share_33 rfl (by decide) ?_
        refine a_lconst (1) 35 dX12_share_34 rfl (by decide) ?_
        refine a_callS ok_X12_in ln_X12_97 is_X12_in rfl 38 dX12_share_35 rfl (k_X12_in _ _ _) rfl rfl ⟨(Nat.le_of_ble_eq_true rfl), (Nat.le_of_ble_eq_true rfl)⟩ (Nat.le_of_ble_eq_true rfl) ⟨(Nat.le_of_ble_eq_true rfl), (Nat.le_of_ble_eq_true rfl)⟩ ?_
        rintro _ _ ⟨rfl, rfl⟩
        refine a_if_eq 50 41 dX12_share_38 rfl (by decide) (fun c_38 => ?_) (fun c_38 => ?_)
        · refine a_callS ok_X12_lost ln_X12_83 is_X12_lost rfl 53 dX12_share_50 rfl (k_X12_lost) rfl rfl ⟨(Nat.le_of_ble_eq_true rfl), (Nat.le_of_ble_eq_true rfl)⟩ (Nat.le_of_ble_eq_true rfl) ⟨(Nat.le_of_ble_eq_true rfl), (Nat.le_of_ble_eq_true rfl)⟩ ?_
          rintro _ _ ⟨rfl, rfl⟩
          exact a_lreturn dX12_share_53 rfl (Nat.le_of_ble_eq_true rfl) (Nat.le_of_ble_eq_true rfl) ⟨by rw [ea, if_neg (fun v => (hBR 0).mp c_38 v.1)]; rfl, ⟨i, j, q⟩, fun _ _ _ => rfl⟩
        · refine a_aload_n 42 dX12_share_41 rfl rfl ?_
          refine a_iload_n 43 dX12_share_42 rfl rfl ?_
          refine a_iload_n 44 dX12_share_43 rfl rfl ?_
          refine a_callV ok_X12_allSources ln_X12_253 in_X12_allSources rfl 47 dX12_share_44 rfl (m_all q hz hx) (by repeat (first | assumption | (refine rg_ne (by first | decide | omega) ?_) | apply rg_eq | refine rg_fr (by assumption) (by first | decide | (simp; omega)) ?_)) rfl rfl rfl ⟨(Nat.le_of_ble_eq_true rfl), (Nat.le_of_ble_eq_true rfl)⟩ (Nat.le_of_ble_eq_true rfl) ⟨(Nat.le_of_ble_eq_true rfl), (Nat.le_of_ble_eq_true rfl)⟩ ?_
          rintro h2 v ⟨rfl, hc2, hf2⟩
          have q2 := q.line hc2 hf2
          have hm2 := q2.at
          refine a_if_ne 54 50 dX12_share_47 rfl (by decide) (fun c_47 => ?_) (fun c_47 => ?_)
          · refine a_aload_n 55 dX12_share_54 rfl rfl ?_
            refine a_iload_n 56 dX12_share_55 rfl rfl ?_
            refine a_iload_n 57 dX12_share_56 rfl rfl ?_
            refine a_iload_n 58 dX12_share_57 rfl rfl ?_
            refine a_callV ok_X12_source ln_X12_250 in_X12_source rfl 61 dX12_share_58 rfl (m_own q2 hz hx) (by repeat (first | assumption | (refine rg_ne (by first | decide | omega) ?_) | apply rg_eq | refine rg_fr (by assumption) (by first | decide | (simp; omega)) ?_)) rfl rfl rfl ⟨(Nat.le_of_ble_eq_true rfl), (Nat.le_of_ble_eq_true rfl)⟩ (Nat.le_of_ble_eq_true rfl) ⟨(Nat.le_of_ble_eq_true rfl), (Nat.le_of_ble_eq_true rfl)⟩ ?_
            rintro _ _ ⟨rfl, rfl⟩
            refine a_i2l 62 dX12_share_61 rfl ?_
            rw [nI_l (by omega)]
            refine a_aload_n 63 dX12_share_62 rfl rfl ?_
            refine a_iload_n 64 dX12_share_63 rfl rfl ?_
            refine a_iload_n 65 dX12_share_64 rfl rfl ?_
            refine a_callV ok_X12_allSources ln_X12_253 in_X12_allSources rfl 68 dX12_share_65 rfl (m_all q2 hz hx) (by repeat (first | assumption | (refine rg_ne (by first | decide | omega) ?_) | apply rg_eq | refine rg_fr (by assumption) (by first | decide | (simp; omega)) ?_)) rfl rfl rfl ⟨(Nat.le_of_ble_eq_true rfl), (Nat.le_of_ble_eq_true rfl)⟩ (Nat.le_of_ble_eq_true rfl) ⟨(Nat.le_of_ble_eq_true rfl), (Nat.le_of_ble_eq_true rfl)⟩ ?_
            rintro h3 v ⟨rfl, hc3, hf3⟩
            have q3 := q2.line hc3 hf3
            have hm3 := q3.at
            refine a_i2l 69 dX12_share_68 rfl ?_
            rw [nI_l (by omega)]
            refine a_iload 71 dX12_share_69 rfl rfl ?_
            refine a_callS ok_X12_told ln_X12_256 is_X12_told rfl 74 dX12_share_71 rfl (k_X12_told (by omega) (by omega) (Nat.pos_of_ne_zero (fun v => c_47 (hz0.mpr v))) w) rfl rfl ⟨(Nat.le_of_ble_eq_true rfl), (Nat.le_of_ble_eq_true rfl)⟩ (Nat.le_of_ble_eq_true rfl) ⟨(Nat.le_of_ble_eq_true rfl), (Nat.le_of_ble_eq_true rfl)⟩ ?_
            rintro _ _ ⟨rfl, rfl⟩
            exact a_lreturn dX12_share_74 rfl (Nat.le_of_ble_eq_true rfl) (Nat.le_of_ble_eq_true rfl) ⟨by rw [ea, if_pos ⟨Decidable.not_not.mp (fun v => c_38 ((hBR 0).mpr v)), fun v => c_47 (hz0.mpr v)⟩], ⟨i, j, q3⟩, kp_mono (kp_fr (fr_trans hf2 hf3 (by decide))) (by decide)⟩
          · refine a_callS ok_X12_lost ln_X12_83 is_X12_lost rfl 53 dX12_share_50 rfl (k_X12_lost) rfl rfl ⟨(Nat.le_of_ble_eq_true rfl), (Nat.le_of_ble_eq_true rfl)⟩ (Nat.le_of_ble_eq_true rfl) ⟨(Nat.le_of_ble_eq_true rfl), (Nat.le_of_ble_eq_true rfl)⟩ ?_
            rintro _ _ ⟨rfl, rfl⟩
            exact a_lreturn dX12_share_53 rfl (Nat.le_of_ble_eq_true rfl) (Nat.le_of_ble_eq_true rfl) ⟨by rw [ea, if_neg (fun v => v.2 (hz0.mp c_47))]; rfl, ⟨i, j, q2⟩, kp_mono (kp_fr hf2) (by decide)⟩
      · rcases oT_cases (n := T.ny) (by omega) a with ⟨e3, hd⟩ | ⟨k, hk, rfl, e3⟩
        · have ea : aShare T (nI z) (nI x) a w = lost64 := by unfold aShare; rw [e, e2]; dsimp only; rw [if_neg ha, e3]; rfl
          refine rM_start (by decide) (Nat.le_of_ble_eq_true rfl) ?_
          refine a_aload_n 1 dX12_share_0 rfl rfl ?_
          refine a_iload_n 2 dX12_share_1 rfl rfl ?_
          refine a_callV ok_X12_noLaw ln_X12_218 in_X12_noLaw rfl 5 dX12_share_2 rfl (m_noLaw q (nI z)) (by repeat (first | assumption | (refine rg_ne (by first | decide | omega) ?_) | apply rg_eq | refine rg_fr (by assumption) (by first | decide | (simp; omega)) ?_)) rfl rfl rfl ⟨(Nat.le_of_ble_eq_true rfl), (Nat.le_of_ble_eq_true rfl)⟩ (Nat.le_of_ble_eq_true rfl) ⟨(Nat.le_of_ble_eq_true rfl), (Nat.le_of_ble_eq_true rfl)⟩ ?_
          rintro _ _ ⟨rfl, rfl⟩
          refine a_if_ne 50 8 dX12_share_5 rfl (by decide) (fun c_5 => absurd (if_pos (oT_yes hz (by omega))) c_5) (fun c_5 => ?_)
          refine a_aload_n 9 dX12_share_8 rfl rfl ?_
          refine a_iload_n 10 dX12_share_9 rfl rfl ?_
          refine a_callV ok_X12_noYawn ln_X12_243 in_X12_noYawn rfl 13 dX12_share_10 rfl (m_noYawn q (nI x)) (by repeat (first | assumption | (refine rg_ne (by first | decide | omega) ?_) | apply rg_eq | refine rg_fr (by assumption) (by first | decide | (simp; omega)) ?_)) rfl rfl rfl ⟨(Nat.le_of_ble_eq_true rfl), (Nat.le_of_ble_eq_true rfl)⟩ (Nat.le_of_ble_eq_true rfl) ⟨(Nat.le_of_ble_eq_true rfl), (Nat.le_of_ble_eq_true rfl)⟩ ?_
          rintro _ _ ⟨rfl, rfl⟩
          refine a_if_ne 50 16 dX12_share_13 rfl (by decide) (fun c_13 => absurd (if_pos (oT_yes hx (by omega))) c_13) (fun c_13 => ?_)
          refine a_aload_n 17 dX12_share_16 rfl rfl ?_
          refine a_iload_n 18 dX12_share_17 rfl rfl ?_
          refine a_callV ok_X12_noYawn ln_X12_243 in_X12_noYawn rfl 21 dX12_share_18 rfl (m_noYawn q a) (by repeat (first | assumption | (refine rg_ne (by first | decide | omega) ?_) | apply rg_eq | refine rg_fr (by assumption) (by first | decide | (simp; omega)) ?_)) rfl rfl rfl ⟨(Nat.le_of_ble_eq_true rfl), (Nat.le_of_ble_eq_true rfl)⟩ (Nat.le_of_ble_eq_true rfl) ⟨(Nat.le_of_ble_eq_true rfl), (Nat.le_of_ble_eq_true rfl)⟩ ?_
          rintro _ _ ⟨rfl, rfl⟩
          refine a_if_eq 30 24 dX12_share_21 rfl (by decide) (fun c_21 => absurd c_21 (by rw [if_neg hd]; decide)) (fun c_21 => ?_)
          refine a_iload_n 25 dX12_share_24 rfl rfl ?_
          refine a_bipush (-9) 27 dX12_share_25 rfl (by decide) ?_
          refine a_icmp_ne 50 30 dX12_share_27 rfl (by decide) (fun c_27 => ?_) (fun c_27 => absurd c_27 ha)
          refine a_callS ok_X12_lost ln_X12_83 is_X12_lost rfl 53 dX12_share_50 rfl (k_X12_lost) rfl rfl ⟨(Nat.le_of_ble_eq_true rfl), (Nat.le_of_ble_eq_true rfl)⟩ (Nat.le_of_ble_eq_true rfl) ⟨(Nat.le_of_ble_eq_true rfl), (Nat.le_of_ble_eq_true rfl)⟩ ?_
          rintro _ _ ⟨rfl, rfl⟩
          exact a_lreturn dX12_share_53 rfl (Nat.le_of_ble_eq_true rfl) (Nat.le_of_ble_eq_true rfl) ⟨by rw [ea]; rfl, ⟨i, j, q⟩, fun _ _ _ => rfl⟩
        · have ea := ea0 (T.src z x k) (by rw [if_neg ha, e3]; rfl)
          have hsr := src_lt o (j := x) (i := k) hz
          refine rM_start (by decide) (Nat.le_of_ble_eq_true rfl) ?_
          refine a_aload_n 1 dX12_share_0 rfl rfl ?_
          refine a_iload_n 2 dX12_share_1 rfl rfl ?_
          refine a_callV ok_X12_noLaw ln_X12_218 in_X12_noLaw rfl 5 dX12_share_2 rfl (m_noLaw q (nI z)) (by repeat (first | assumption | (refine rg_ne (by first | decide | omega) ?_) | apply rg_eq | refine rg_fr (by assumption) (by first | decide | (simp; omega)) ?_)) rfl rfl rfl ⟨(Nat.le_of_ble_eq_true rfl), (Nat.le_of_ble_eq_true rfl)⟩ (Nat.le_of_ble_eq_true rfl) ⟨(Nat.le_of_ble_eq_true rfl), (Nat.le_of_ble_eq_true rfl)⟩ ?_
          rintro _ _ ⟨rfl, rfl⟩
          refine a_if_ne 50 8 dX12_share_5 rfl (by decide) (fun c_5 => absurd (if_pos (oT_yes hz (by omega))) c_5) (fun c_5 => ?_)
          refine a_aload_n 9 dX12_share_8 rfl rfl ?_
          refine a_iload_n 10 dX12_share_9 rfl rfl ?_
          refine a_callV ok_X12_noYawn ln_X12_243 in_X12_noYawn rfl 13 dX12_share_10 rfl (m_noYawn q (nI x)) (by repeat (first | assumption | (refine rg_ne (by first | decide | omega) ?_) | apply rg_eq | refine rg_fr (by assumption) (by first | decide | (simp; omega)) ?_)) rfl rfl rfl ⟨(Nat.le_of_ble_eq_true rfl), (Nat.le_of_ble_eq_true rfl)⟩ (Nat.le_of_ble_eq_true rfl) ⟨(Nat.le_of_ble_eq_true rfl), (Nat.le_of_ble_eq_true rfl)⟩ ?_
          rintro _ _ ⟨rfl, rfl⟩
          refine a_if_ne 50 16 dX12_share_13 rfl (by decide) (fun c_13 => absurd (if_pos (oT_yes hx (by omega))) c_13) (fun c_13 => ?_)
          refine a_aload_n 17 dX12_share_16 rfl rfl ?_
          refine a_iload_n 18 dX12_share_17 rfl rfl ?_
          refine a_callV ok_X12_noYawn ln_X12_243 in_X12_noYawn rfl 21 dX12_share_18 rfl (m_noYawn q (nI k)) (by repeat (first | assumption | (refine rg_ne (by first | decide | omega) ?_) | apply rg_eq | refine rg_fr (by assumption) (by first | decide | (simp; omega)) ?_)) rfl rfl rfl ⟨(Nat.le_of_ble_eq_true rfl), (Nat.le_of_ble_eq_true rfl)⟩ (Nat.le_of_ble_eq_true rfl) ⟨(Nat.le_of_ble_eq_true rfl), (Nat.le_of_ble_eq_true rfl)⟩ ?_
          rintro _ _ ⟨rfl, rfl⟩
          refine a_if_eq 30 24 dX12_share_21 rfl (by decide) (fun c_21 => ?_) (fun c_21 => absurd (if_pos (oT_yes hk (by omega))) c_21)
          refine a_iload 32 dX12_share_30 rfl rfl ?_
          refine a_i2l 33 dX12_share_32 rfl ?_
          refine a_lconst (0) 34 dX12_share_33 rfl (by decide) ?_
          refine a_lconst (1) 35 dX12_share_34 rfl (by decide) ?_
          refine a_callS ok_X12_in ln_X12_97 is_X12_in rfl 38 dX12_share_35 rfl (k_X12_in _ _ _) rfl rfl ⟨(Nat.le_of_ble_eq_true rfl), (Nat.le_of_ble_eq_true rfl)⟩ (Nat.le_of_ble_eq_true rfl) ⟨(Nat.le_of_ble_eq_true rfl), (Nat.le_of_ble_eq_true rfl)⟩ ?_
          rintro _ _ ⟨rfl, rfl⟩
          refine a_if_eq 50 41 dX12_share_38 rfl (by decide) (fun c_38 => ?_) (fun c_38 => ?_)
          · refine a_callS ok_X12_lost ln_X12_83 is_X12_lost rfl 53 dX12_share_50 rfl (k_X12_lost) rfl rfl ⟨(Nat.le_of_ble_eq_true rfl), (Nat.le_of_ble_eq_true rfl)⟩ (Nat.le_of_ble_eq_true rfl) ⟨(Nat.le_of_ble_eq_true rfl), (Nat.le_of_ble_eq_true rfl)⟩ ?_
            rintro _ _ ⟨rfl, rfl⟩
            exact a_lreturn dX12_share_53 rfl (Nat.le_of_ble_eq_true rfl) (Nat.le_of_ble_eq_true rfl) ⟨by rw [ea, if_neg (fun v => (hBR 0).mp c_38 v.1)]; rfl, ⟨i, j, q⟩, fun _ _ _ => rfl⟩
          · refine a_aload_n 42 dX12_share_41 rfl rfl ?_
            refine a_iload_n 43 dX12_share_42 rfl rfl ?_
            refine a_iload_n 44 dX12_share_43 rfl rfl ?_
            refine a_callV ok_X12_allSources ln_X12_253 in_X12_allSources rfl 47 dX12_share_44 rfl (m_all q hz hx) (by repeat (first | assumption | (refine rg_ne (by first | decide | omega) ?_) | apply rg_eq | refine rg_fr (by assumption) (by first | decide | (simp; omega)) ?_)) rfl rfl rfl ⟨(Nat.le_of_ble_eq_true rfl), (Nat.le_of_ble_eq_true rfl)⟩ (Nat.le_of_ble_eq_true rfl) ⟨(Nat.le_of_ble_eq_true rfl), (Nat.le_of_ble_eq_true rfl)⟩ ?_
            rintro h2 v ⟨rfl, hc2, hf2⟩
            have q2 := q.line hc2 hf2
            have hm2 := q2.at
            refine a_if_ne 54 50 dX12_share_47 rfl (by decide) (fun c_47 => ?_) (fun c_47 => ?_)
            · refine a_aload_n 55 dX12_share_54 rfl rfl ?_
              refine a_iload_n 56 dX12_share_55 rfl rfl ?_
              refine a_iload_n 57 dX12_share_56 rfl rfl ?_
              refine a_iload_n 58 dX12_share_57 rfl rfl ?_
              refine a_callV ok_X12_source ln_X12_250 in_X12_source rfl 61 dX12_share_58 rfl (m_src q2 hz hx hk) (by repeat (first | assumption | (refine rg_ne (by first | decide | omega) ?_) | apply rg_eq | refine rg_fr (by assumption) (by first | decide | (simp; omega)) ?_)) rfl rfl rfl ⟨(Nat.le_of_ble_eq_true rfl), (Nat.le_of_ble_eq_true rfl)⟩ (Nat.le_of_ble_eq_true rfl) ⟨(Nat.le_of_ble_eq_true rfl), (Nat.le_of_ble_eq_true rfl)⟩ ?_
              rintro h3 v ⟨rfl, hc3, hf3⟩
              have q3 := q2.line hc3 hf3
              have hm3 := q3.at
              refine a_i2l 62 dX12_share_61 rfl ?_
              rw [nI_l (by omega)]
              refine a_aload_n 63 dX12_share_62 rfl rfl ?_
              refine a_iload_n 64 dX12_share_63 rfl rfl ?_
              refine a_iload_n 65 dX12_share_64 rfl rfl ?_
              refine a_callV ok_X12_allSources ln_X12_253 in_X12_allSources rfl 68 dX12_share_65 rfl (m_all q3 hz hx) (by repeat (first | assumption | (refine rg_ne (by first | decide | omega) ?_) | apply rg_eq | refine rg_fr (by assumption) (by first | decide | (simp; omega)) ?_)) rfl rfl rfl ⟨(Nat.le_of_ble_eq_true rfl), (Nat.le_of_ble_eq_true rfl)⟩ (Nat.le_of_ble_eq_true rfl) ⟨(Nat.le_of_ble_eq_true rfl), (Nat.le_of_ble_eq_true rfl)⟩ ?_
              rintro h4 v ⟨rfl, hc4, hf4⟩
              have q4 := q3.line hc4 hf4
              have hm4 := q4.at
              refine a_i2l 69 dX12_share_68 rfl ?_
              rw [nI_l (by omega)]
              refine a_iload 71 dX12_share_69 rfl rfl ?_
              refine a_callS ok_X12_told ln_X12_256 is_X12_told rfl 74 dX12_share_71 rfl (k_X12_told (by omega) (by omega) (Nat.pos_of_ne_zero (fun v => c_47 (hz0.mpr v))) w) rfl rfl ⟨(Nat.le_of_ble_eq_true rfl), (Nat.le_of_ble_eq_true rfl)⟩ (Nat.le_of_ble_eq_true rfl) ⟨(Nat.le_of_ble_eq_true rfl), (Nat.le_of_ble_eq_true rfl)⟩ ?_
              rintro _ _ ⟨rfl, rfl⟩
              exact a_lreturn dX12_share_74 rfl (Nat.le_of_ble_eq_true rfl) (Nat.le_of_ble_eq_true rfl) ⟨by rw [ea, if_pos ⟨Decidable.not_not.mp (fun v => c_38 ((hBR 0).mpr v)), fun v => c_47 (hz0.mpr v)⟩], ⟨i, j, q4⟩, kp_mono (kp_fr (fr_trans (fr_trans hf2 hf3 (by decide)) hf4 (by decide))) (by decide)⟩
            · refine a_callS ok_X12_lost ln_X12_83 is_X12_lost rfl 53 dX12_share_50 rfl (k_X12_lost) rfl rfl ⟨(Nat.le_of_ble_eq_true rfl), (Nat.le_of_ble_eq_true rfl)⟩ (Nat.le_of_ble_eq_true rfl) ⟨(Nat.le_of_ble_eq_true rfl), (Nat.le_of_ble_eq_true rfl)⟩ ?_
              rintro _ _ ⟨rfl, rfl⟩
              exact a_lreturn dX12_share_53 rfl (Nat.le_of_ble_eq_true rfl) (Nat.le_of_ble_eq_true rfl) ⟨by rw [ea, if_neg (fun v => v.2 (hz0.mp c_47))]; rfl, ⟨i, j, q2⟩, kp_mono (kp_fr hf2) (by decide)⟩
end MSHARE
