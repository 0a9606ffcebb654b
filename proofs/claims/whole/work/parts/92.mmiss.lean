/-! THE MODEL: missed -/
def misG (T : Tn) (z lo hi : Nat) : Nat → misS → misS
  | 0, s => s
  | k + 1, s => if lo ≤ k ∧ k < hi then misY T z k T.m (misG T z lo hi k s) else misG T z lo hi k s
theorem misG_eq (T : Tn) (z lo hi : Nat) (s : misS) : ∀ n, misG T z lo hi n s = misT T z lo (min n hi - lo) s
  | 0 => by rw [show min 0 hi - lo = 0 by omega]; rfl
  | n + 1 => by
    rw [misG, misG_eq T z lo hi s n]
    by_cases e : lo ≤ n ∧ n < hi
    · rw [if_pos e, show min (n + 1) hi - lo = (n - lo) + 1 by omega, misT, show min n hi - lo = n - lo by omega, show lo + (n - lo) = n by omega]
    · rw [if_neg e, show min (n + 1) hi - lo = min n hi - lo by omega]
theorem misG_le (T : Tn) (z lo hi : Nat) : ∀ n s, (misG T z lo hi n s).1 ≤ s.1 + n * T.m
  | 0, s => by simp [misG]
  | n + 1, s => by
    have h := misG_le T z lo hi n s
    have h2 := misY_le T z n T.m (misG T z lo hi n s)
    rw [misG, Nat.add_mul]
    split <;> omega
theorem in02w (w : Int32) : ((0 : Int64) ≤ w.toInt64 ∧ w.toInt64 ≤ 2) ↔ (0 ≤ w ∧ w ≤ 2) := by
  rw [in64c w 2 (by decide) rfl, i_le, i_lt, i_le]
  show (0 ≤ w.toInt ∧ w.toInt < 3) ↔ (0 ≤ w.toInt ∧ w.toInt ≤ 2)
  omega
section MMISS2
variable {l : Launch} {G : rG} {h : rH} {T : Tn}
set_option maxRecDepth 100000 in
set_option maxHeartbeats 400000 in
theorem m_missed (q : mAll G h T) (o : T.ok) (c d : Int32) : rM l G 12 mX12_missed 0 0 [.ref (gN G + 38), .int c, .int d] h (fun h' v => v = some (.int (aMissed T c d)) ∧ mAll G h' T ∧ kp h h' mL) := by
  obtain ⟨i, j, q⟩ := q
  have hnl := o.nl6
  have hny := o.ny24
  have hm12 := o.m12
  have hm := q.at
  rcases oT_cases (n := T.nl) (by omega) c with ⟨e, hc⟩ | ⟨z, hz, rfl, e⟩
  · have ea : aMissed T c d = -1 := by unfold aMissed; rw [e]
    refine rM_start (by decide) (Nat.le_of_ble_eq_true rfl) ?_
    refine a_aload_n 1 dX12_missed_0 rfl rfl ?_
    refine a_iload_n 2 dX12_missed_1 rfl rfl ?_
    refine a_callV ok_X12_noLaw ln_X12_218 in_X12_noLaw rfl 5 dX12_missed_2 rfl (m_noLaw q c) (by repeat (first | assumption | (refine rg_ne (by first | decide | omega) ?_) | apply rg_eq | refine rg_fr (by assumption) (by first | decide | (simp; omega)) ?_)) rfl rfl rfl ⟨(Nat.le_of_ble_eq_true rfl), (Nat.le_of_ble_eq_true rfl)⟩ (Nat.le_of_ble_eq_true rfl) ⟨(Nat.le_of_ble_eq_true rfl), (Nat.le_of_ble_eq_true rfl)⟩ ?_
    rintro _ _ ⟨rfl, rfl⟩
    refine a_if_eq 10 8 dX12_missed_5 rfl (by decide) (fun c_5 => absurd c_5 (by rw [if_neg hc]; decide)) (fun c_5 => ?_)
    refine a_iconst (-1) 9 dX12_missed_8 rfl (by decide) ?_
    exact a_ireturn dX12_missed_9 rfl rfl (Nat.le_of_ble_eq_true rfl) (Nat.le_of_ble_eq_true rfl) ⟨by rw [ea], ⟨i, j, q⟩, fun _ _ _ => rfl⟩
  have ea : aMissed T (nI z) d = if 0 ≤ d ∧ d ≤ 2 then (match barT T z with | some b => misV (misA T z (T.ym b)) d | none => -3) else -2 := by unfold aMissed; rw [e]; dsimp only; cases barT T z <;> rfl
  have hBR : (if (0 : Int64) ≤ d.toInt64 ∧ d.toInt64 ≤ 2 then (1 : Int32) else 0) = 0 ↔ ¬ (0 ≤ d ∧ d ≤ 2) := by rw [b_eq0, in02w d]
  cases hb : barT T z with
  | none =>
    rw [hb] at ea
    refine rM_start (by decide) (Nat.le_of_ble_eq_true rfl) ?_
    refine a_aload_n 1 dX12_missed_0 rfl rfl ?_
    refine a_iload_n 2 dX12_missed_1 rfl rfl ?_
    refine a_callV ok_X12_noLaw ln_X12_218 in_X12_noLaw rfl 5 dX12_missed_2 rfl (m_noLaw q (nI z)) (by repeat (first | assumption | (refine rg_ne (by first | decide | omega) ?_) | apply rg_eq | refine rg_fr (by assumption) (by first | decide | (simp; omega)) ?_)) rfl rfl rfl ⟨(Nat.le_of_ble_eq_true rfl), (Nat.le_of_ble_eq_true rfl)⟩ (Nat.le_of_ble_eq_true rfl) ⟨(Nat.le_of_ble_eq_true rfl), (Nat.le_of_ble_eq_true rfl)⟩ ?_
    rintro _ _ ⟨rfl, rfl⟩
    refine a_if_eq 10 8 dX12_missed_5 rfl (by decide) (fun c_5 => ?_) (fun c_5 => absurd (if_pos (oT_yes hz (by omega))) c_5)
    refine a_iload_n 11 dX12_missed_10 rfl rfl ?_
    refine a_i2l 12 dX12_missed_11 rfl ?_
    refine a_lconst (0) 13 dX12_missed_12 rfl (by decide) ?_
    refine a_ldc2 (2) 16 dX12_missed_13 rfl lk_X12_95 ?_
    refine a_callS ok_X12_in ln_X12_97 is_X12_in rfl 19 dX12_missed_16 rfl (k_X12_in _ _ _) rfl rfl ⟨(Nat.le_of_ble_eq_true rfl), (Nat.le_of_ble_eq_true rfl)⟩ (Nat.le_of_ble_eq_true rfl) ⟨(Nat.le_of_ble_eq_true rfl), (Nat.le_of_ble_eq_true rfl)⟩ ?_
    rintro _ _ ⟨rfl, rfl⟩
    refine a_if_ne 25 22 dX12_missed_19 rfl (by decide) (fun c_19 => ?_) (fun c_19 => ?_)
    · refine a_aload_n 26 dX12_missed_25 rfl rfl ?_
      refine a_iload_n 27 dX12_missed_26 rfl rfl ?_
      refine a_callV ok_X12_firstBarred ln_X12_260 in_X12_firstBarred rfl 30 dX12_missed_27 rfl (m_bar q hz) (by repeat (first | assumption | (refine rg_ne (by first | decide | omega) ?_) | apply rg_eq | refine rg_fr (by assumption) (by first | decide | (simp; omega)) ?_)) rfl rfl rfl ⟨(Nat.le_of_ble_eq_true rfl), (Nat.le_of_ble_eq_true rfl)⟩ (Nat.le_of_ble_eq_true rfl) ⟨(Nat.le_of_ble_eq_true rfl), (Nat.le_of_ble_eq_true rfl)⟩ ?_
      rintro h2 v ⟨rfl, hc2, hf2⟩
      rw [hb]
      refine a_istore_n 31 dX12_missed_30 rfl (by decide) ?_
      refine a_iload_n 32 dX12_missed_31 rfl rfl ?_
      refine a_if_ge 38 35 dX12_missed_32 rfl (by decide) (fun c_32 => absurd c_32 (by decide)) (fun c_32 => ?_)
      refine a_bipush (-3) 37 dX12_missed_35 rfl (by decide) ?_
      exact a_ireturn dX12_missed_37 rfl rfl (Nat.le_of_ble_eq_true rfl) (Nat.le_of_ble_eq_true rfl) ⟨by rw [ea, if_pos (Decidable.not_not.mp (fun v => c_19 (hBR.mpr v)))], ⟨i, j, q.line hc2 hf2⟩, kp_mono (kp_fr hf2) (by decide)⟩
    · refine a_bipush (-2) 24 dX12_missed_22 rfl (by decide) ?_
      exact a_ireturn dX12_missed_24 rfl rfl (Nat.le_of_ble_eq_true rfl) (Nat.le_of_ble_eq_true rfl) ⟨by rw [ea, if_neg (hBR.mp c_19)], ⟨i, j, q⟩, fun _ _ _ => rfl⟩
  | some b =>
    rw [hb] at ea
    have hbs := firstN_spec hb
    have hbn : b < T.ny := by omega
    have hb6 := o.ym hbn
    have hl6 := o.ym (q := T.ny - 1) (by omega)
    have hu5 := o.nu10 hz (w := 5) (by decide)
    have hu6 := o.nu10 hz (w := 6) (by decide)
    have hbl : T.ym b ≤ T.ym (T.ny - 1) := by
      by_cases e : b = T.ny - 1
      · exact Nat.le_of_eq (congrArg T.ym e)
      · exact o.ymm (by omega) (by omega)
    have hb0 : (0 : Int32) ≤ nI b := by rw [← nI_0]; exact nI_le (Nat.zero_le _) (by omega)
    have s0 : (((0 : Nat), (-9 : Int32), (-9 : Int32)) : misS).1 = 0 := rfl
    have L : ∀ (r t : Nat) (v : misS) (s4 s5 s6 y7 : Int32) (o8 o9 o10 : Option Value) (h1 : rH), t + r = T.ym (T.ny - 1) + 1 → v = misG T z (T.ym b - T.nu z 6) (T.ym b + 1 - T.nu z 5) t (0, -9, -9) → s4 = nI v.1 → s5 = v.2.1 → s6 = v.2.2 → y7 = nI t → mX G h1 T i j → fr h h1 [44] → (0 ≤ d ∧ d ≤ 2) → rW l G (rRm 12 0 0) mX12_missed (rZ G (fun h' v => v = some (.int (aMissed T (nI z) d)) ∧ mAll G h' T ∧ kp h h' mL) 0 0) 0 0 52 [some (.ref (gN G + 38)), some (.int (nI z)), some (.int d), some (.int (nI b)), some (.int s4), some (.int s5), some (.int s6), some (.int y7), o8, o9, o10] [] h1 := by
      intro r
      induction r with
      | zero =>
        intro t v s4 s5 s6 y7 o8 o9 o10 h1 ht hv h4 h5 h6 h7 q1 hf1 hd
        subst h4; subst h5; subst h6; subst h7
        have hm1 := q1.at
        have et : t = T.ym (T.ny - 1) + 1 := by omega
        have hlt58 : nI (T.ym (T.ny - 1)) < nI t := (nI_ltI (a := T.ym (T.ny - 1)) (b := t) (by omega) (by omega)).mpr (by omega)
        have ev : v = misA T z (T.ym b) := by rw [hv, misG_eq, et, show min (T.ym (T.ny - 1) + 1) (T.ym b + 1 - T.nu z 5) = T.ym b + 1 - T.nu z 5 by omega]
        have ea2 : aMissed T (nI z) d = misV v d := by rw [ea, if_pos hd, ev]
        refine a_iload 54 dX12_missed_52 rfl rfl ?_
        refine a_aload_n 55 dX12_missed_54 rfl rfl ?_
        refine a_callV ok_X12_lastMinute ln_X12_240 in_X12_lastMinute rfl 58 dX12_missed_55 rfl (k_X12_lastMinute q1.2.2.2.1) (by repeat (first | assumption | (refine rg_ne (by first | decide | omega) ?_) | apply rg_eq | refine rg_fr (by assumption) (by first | decide | (simp; omega)) ?_)) rfl rfl rfl ⟨(Nat.le_of_ble_eq_true rfl), (Nat.le_of_ble_eq_true rfl)⟩ (Nat.le_of_ble_eq_true rfl) ⟨(Nat.le_of_ble_eq_true rfl), (Nat.le_of_ble_eq_true rfl)⟩ ?_
        rintro _ _ ⟨rfl, rfl⟩
        rw [if_neg (show ¬ T.ny = 0 by omega)]
        refine a_icmp_gt 184 61 dX12_missed_58 rfl (by decide) (fun c_58 => ?_) (fun c_58 => absurd hlt58 c_58)
        refine a_iload_n 185 dX12_missed_184 rfl rfl ?_
        refine a_if_ne 193 188 dX12_missed_185 rfl (by decide) (fun c_185 => ?_) (fun c_185 => ?_)
        · refine a_iload_n 194 dX12_missed_193 rfl rfl ?_
          refine a_iconst (1) 195 dX12_missed_194 rfl (by decide) ?_
          refine a_icmp_ne 203 198 dX12_missed_195 rfl (by decide) (fun c_195 => ?_) (fun c_195 => ?_)
          · refine a_iload 205 dX12_missed_203 rfl rfl ?_
            exact a_ireturn dX12_missed_205 rfl rfl (Nat.le_of_ble_eq_true rfl) (Nat.le_of_ble_eq_true rfl) ⟨by rw [ea2]; unfold misV; rw [if_neg c_185, if_neg c_195], ⟨i, j, q1⟩, kp_mono (kp_fr hf1) (by decide)⟩
          · refine a_iload 200 dX12_missed_198 rfl rfl ?_
            refine a_goto 205 dX12_missed_200 (by decide) ?_
            exact a_ireturn dX12_missed_205 rfl rfl (Nat.le_of_ble_eq_true rfl) (Nat.le_of_ble_eq_true rfl) ⟨by rw [ea2]; unfold misV; rw [if_neg c_185, if_pos c_195], ⟨i, j, q1⟩, kp_mono (kp_fr hf1) (by decide)⟩
        · refine a_iload 190 dX12_missed_188 rfl rfl ?_
          refine a_goto 205 dX12_missed_190 (by decide) ?_
          exact a_ireturn dX12_missed_205 rfl rfl (Nat.le_of_ble_eq_true rfl) (Nat.le_of_ble_eq_true rfl) ⟨by rw [ea2]; unfold misV; rw [if_pos c_185], ⟨i, j, q1⟩, kp_mono (kp_fr hf1) (by decide)⟩
      | succ r ih =>
        intro t v s4 s5 s6 y7 o8 o9 o10 h1 ht hv h4 h5 h6 h7 q1 hf1 hd
        subst h4; subst h5; subst h6; subst h7
        have hm1 := q1.at
        have ho1 := q1.2.1.2.1
        obtain ⟨g6, e4, e5⟩ := q1.2.2.2.1.2.2.2.1
        have vb : vp_in (nI b) 24 := vp_in_nI (by omega) (by decide)
        have eb : (nI b).toNatClampNeg = b := nI_clamp (by omega)
        have h5b := (e5 b hbn).1
        have hne := near_iff (a := T.ym b) (b := t) (p := T.nu z 5) (q := T.nu z 6) (by omega) (by omega) (by omega) (by omega)
        have hle1 := misG_le T z (T.ym b - T.nu z 6) (T.ym b + 1 - T.nu z 5) t (0, -9, -9)
        have htm : t * T.m ≤ 600 * 12 := Nat.mul_le_mul (by omega) hm12
        rw [← hv, s0] at hle1
        by_cases hn : t + T.nu z 5 ≤ T.ym b ∧ T.ym b ≤ t + T.nu z 6
        · have hvs : misG T z (T.ym b - T.nu z 6) (T.ym b + 1 - T.nu z 5) (t + 1) (0, -9, -9) = misY T z t T.m v := by rw [misG, if_pos (by omega), ← hv]
          have L2 : ∀ (r2 y : Nat) (w : misS) (s4 s5 s6 y9 : Int32) (o10 : Option Value) (h1 : rH), y + r2 = T.m → w = misY T z t y v → s4 = nI w.1 → s5 = w.2.1 → s6 = w.2.2 → y9 = nI y → mX G h1 T i j → fr h h1 [44] → rW l G (rRm 12 0 0) mX12_missed (rZ G (fun h' v => v = some (.int (aMissed T (nI z) d)) ∧ mAll G h' T ∧ kp h h' mL) 0 0) 0 0 94 [some (.ref (gN G + 38)), some (.int (nI z)), some (.int d), some (.int (nI b)), some (.int s4), some (.int s5), some (.int s6), some (.int (nI t)), some (.int 1), some (.int y9), o10] [] h1 := by
            intro r2
            induction r2 with
            | zero =>
              intro y w s4 s5 s6 y9 o10 h1 hy hw h4 h5 h6 h9 q1 hf1
              subst h4; subst h5; subst h6; subst h9
              have hm1 := q1.at
              have ho1 := q1.2.1.2.1
              have ey : y = T.m := by omega
              subst ey
              refine a_iload 96 dX12_missed_94 rfl rfl ?_
              refine a_aload_n 97 dX12_missed_96 rfl rfl ?_
              refine a_get fd_X12_160 rfl 100 dX12_missed_97 rfl (by repeat (first | assumption | (refine rg_ne (by first | decide | omega) ?_) | apply rg_eq | refine rg_fr (by assumption) (by first | decide | (simp; omega)) ?_)) rfl ?_
              refine a_icmp_ge 178 103 dX12_missed_100 rfl (by decide) (fun c_100 => ?_) (fun c_100 => absurd (by rw [ho1]; exact Int32.le_refl _) c_100)
              refine a_iinc _ 181 dX12_missed_178 rfl rfl (by decide) rfl ?_
              refine a_goto 52 dX12_missed_181 (by decide) ?_
              exact ih (t + 1) w _ _ _ _ _ _ _ _ (by omega) (by rw [hvs]; exact hw) rfl rfl rfl (nI_1 t) q1 hf1 hd
            | succ r2 ih2 =>
              intro y w s4 s5 s6 y9 o10 h1 hy hw h4 h5 h6 h9 q1 hf1
              subst h4; subst h5; subst h6; subst h9
              have hm1 := q1.at
              have ho1 := q1.2.1.2.1
              have hwl := misY_le T z t y v
              rw [← hw] at hwl
              have hz0 : nI w.1 = 0 ↔ w.1 = 0 := by
                rw [← nI_0]; exact nI_eq (by omega) (by omega)
              by_cases hM : menT T z t y = true
              · by_cases h00 : w.1 = 0
                · have hw2 : misY T z t (y + 1) v = (1, nI t, nI y) := by rw [misY, if_pos hM, ← hw, if_pos h00]
                  refine a_iload 96 dX12_missed_94 rfl rfl ?_
                  refine a_aload_n 97 dX12_missed_96 rfl rfl ?_
                  refine a_get fd_X12_160 rfl 100 dX12_missed_97 rfl (by repeat (first | assumption | (refine rg_ne (by first | decide | omega) ?_) | apply rg_eq | refine rg_fr (by assumption) (by first | decide | (simp; omega)) ?_)) rfl ?_
                  refine a_icmp_ge 178 103 dX12_missed_100 rfl (by decide) (fun c_100 => absurd c_100 (by rw [ho1]; exact nI_ge (a := y) (b := T.m) (by omega) (by omega))) (fun c_100 => ?_)
                  refine a_iload 105 dX12_missed_103 rfl rfl ?_
                  refine a_if_eq 178 108 dX12_missed_105 rfl (by decide) (fun c_105 => absurd c_105 (by decide)) (fun c_105 => ?_)
                  refine a_aload_n 109 dX12_missed_108 rfl rfl ?_
                  refine a_iload_n 110 dX12_missed_109 rfl rfl ?_
                  refine a_iload 112 dX12_missed_110 rfl rfl ?_
                  refine a_iload 114 dX12_missed_112 rfl rfl ?_
                  refine a_callV ok_X12_doesMend ln_X12_269 in_X12_doesMend rfl 117 dX12_missed_114 rfl (k_X12_doesMend q1 o hz (by omega) (by omega)) (by repeat (first | assumption | (refine rg_ne (by first | decide | omega) ?_) | apply rg_eq | refine rg_fr (by assumption) (by first | decide | (simp; omega)) ?_)) rfl rfl rfl ⟨(Nat.le_of_ble_eq_true rfl), (Nat.le_of_ble_eq_true rfl)⟩ (Nat.le_of_ble_eq_true rfl) ⟨(Nat.le_of_ble_eq_true rfl), (Nat.le_of_ble_eq_true rfl)⟩ ?_
                  rintro h2 v2 ⟨rfl, q2, hf2⟩
                  have hf3 := fr_trans hf1 hf2 (fun _ q => q)
                  refine a_istore 119 dX12_missed_117 rfl (by decide) ?_
                  refine a_iload 121 dX12_missed_119 rfl rfl ?_
                  refine a_if_eq 134 124 dX12_missed_121 rfl (by decide) (fun c_121 => absurd c_121 (by rw [if_pos hM]; decide)) (fun c_121 => ?_)
                  refine a_iload 126 dX12_missed_124 rfl rfl ?_
                  refine a_if_ne 134 129 dX12_missed_126 rfl (by decide) (fun c_126 => absurd (hz0.mpr h00) c_126) (fun c_126 => ?_)
                  refine a_iload 131 dX12_missed_129 rfl rfl ?_
                  refine a_goto 136 dX12_missed_131 (by decide) ?_
                  refine a_istore 138 dX12_missed_136 rfl (by decide) ?_
                  refine a_iload 140 dX12_missed_138 rfl rfl ?_
                  refine a_if_eq 153 143 dX12_missed_140 rfl (by decide) (fun c_140 => absurd c_140 (by rw [if_pos hM]; decide)) (fun c_140 => ?_)
                  refine a_iload 145 dX12_missed_143 rfl rfl ?_
                  refine a_if_ne 153 148 dX12_missed_145 rfl (by decide) (fun c_145 => absurd (hz0.mpr h00) c_145) (fun c_145 => ?_)
                  refine a_iload 150 dX12_missed_148 rfl rfl ?_
                  refine a_goto 155 dX12_missed_150 (by decide) ?_
                  refine a_istore 157 dX12_missed_155 rfl (by decide) ?_
                  refine a_iload 159 dX12_missed_157 rfl rfl ?_
                  refine a_iload 161 dX12_missed_159 rfl rfl ?_
                  refine a_if_eq 168 164 dX12_missed_161 rfl (by decide) (fun c_161 => absurd c_161 (by rw [if_pos hM]; decide)) (fun c_161 => ?_)
                  refine a_iconst (1) 165 dX12_missed_164 rfl (by decide) ?_
                  refine a_goto 169 dX12_missed_165 (by decide) ?_
                  refine a_iadd 170 dX12_missed_169 rfl ?_
                  refine a_istore 172 dX12_missed_170 rfl (by decide) ?_
                  refine a_iinc _ 175 dX12_missed_172 rfl rfl (by decide) rfl ?_
                  refine a_goto 94 dX12_missed_175 (by decide) ?_
                  exact ih2 (y + 1) _ _ _ _ _ _ _ (by omega) hw2.symm (by rw [h00]; rfl) rfl rfl (nI_1 y) q2 hf3
                · have hw2 : misY T z t (y + 1) v = (w.1 + 1, w.2) := by rw [misY, if_pos hM, ← hw, if_neg h00]
                  refine a_iload 96 dX12_missed_94 rfl rfl ?_
                  refine a_aload_n 97 dX12_missed_96 rfl rfl ?_
                  refine a_get fd_X12_160 rfl 100 dX12_missed_97 rfl (by repeat (first | assumption | (refine rg_ne (by first | decide | omega) ?_) | apply rg_eq | refine rg_fr (by assumption) (by first | decide | (simp; omega)) ?_)) rfl ?_
                  refine a_icmp_ge 178 103 dX12_missed_100 rfl (by decide) (fun c_100 => absurd c_100 (by rw [ho1]; exact nI_ge (a := y) (b := T.m) (by omega) (by omega))) (fun c_100 => ?_)
                  refine a_iload 105 dX12_missed_103 rfl rfl ?_
                  refine a_if_eq 178 108 dX12_missed_105 rfl (by decide) (fun c_105 => absurd c_105 (by decide)) (fun c_105 => ?_)
                  refine a_aload_n 109 dX12_missed_108 rfl rfl ?_
                  refine a_iload_n 110 dX12_missed_109 rfl rfl ?_
                  refine a_iload 112 dX12_missed_110 rfl rfl ?_
                  refine a_iload 114 dX12_missed_112 rfl rfl ?_
                  refine a_callV ok_X12_doesMend ln_X12_269 in_X12_doesMend rfl 117 dX12_missed_114 rfl (k_X12_doesMend q1 o hz (by omega) (by omega)) (by repeat (first | assumption | (refine rg_ne (by first | decide | omega) ?_) | apply rg_eq | refine rg_fr (by assumption) (by first | decide | (simp; omega)) ?_)) rfl rfl rfl ⟨(Nat.le_of_ble_eq_true rfl), (Nat.le_of_ble_eq_true rfl)⟩ (Nat.le_of_ble_eq_true rfl) ⟨(Nat.le_of_ble_eq_true rfl), (Nat.le_of_ble_eq_true rfl)⟩ ?_
                  rintro h2 v2 ⟨rfl, q2, hf2⟩
                  have hf3 := fr_trans hf1 hf2 (fun _ q => q)
                  refine a_istore 119 dX12_missed_117 rfl (by decide) ?_
                  refine a_iload 121 dX12_missed_119 rfl rfl ?_
                  refine a_if_eq 134 124 dX12_missed_121 rfl (by decide) (fun c_121 => absurd c_121 (by rw [if_pos hM]; decide)) (fun c_121 => ?_)
                  refine a_iload 126 dX12_missed_124 rfl rfl ?_
                  refine a_if_ne 134 129 dX12_missed_126 rfl (by decide) (fun c_126 => ?_) (fun c_126 => absurd c_126 (fun v => h00 (hz0.mp v)))
                  refine a_iload 136 dX12_missed_134 rfl rfl ?_
                  refine a_istore 138 dX12_missed_136 rfl (by decide) ?_
                  refine a_iload 140 dX12_missed_138 rfl rfl ?_
                  refine a_if_eq 153 143 dX12_missed_140 rfl (by decide) (fun c_140 => absurd c_140 (by rw [if_pos hM]; decide)) (fun c_140 => ?_)
                  refine a_iload 145 dX12_missed_143 rfl rfl ?_
                  refine a_if_ne 153 148 dX12_missed_145 rfl (by decide) (fun c_145 => ?_) (fun c_145 => absurd c_145 (fun v => h00 (hz0.mp v)))
                  refine a_iload 155 dX12_missed_153 rfl rfl ?_
                  refine a_istore 157 dX12_missed_155 rfl (by decide) ?_
                  refine a_iload 159 dX12_missed_157 rfl rfl ?_
                  refine a_iload 161 dX12_missed_159 rfl rfl ?_
                  refine a_if_eq 168 164 dX12_missed_161 rfl (by decide) (fun c_161 => absurd c_161 (by rw [if_pos hM]; decide)) (fun c_161 => ?_)
                  refine a_iconst (1) 165 dX12_missed_164 rfl (by decide) ?_
                  refine a_goto 169 dX12_missed_165 (by decide) ?_
                  refine a_iadd 170 dX12_missed_169 rfl ?_
                  refine a_istore 172 dX12_missed_170 rfl (by decide) ?_
                  refine a_iinc _ 175 dX12_missed_172 rfl rfl (by decide) rfl ?_
                  refine a_goto 94 dX12_missed_175 (by decide) ?_
                  exact ih2 (y + 1) _ _ _ _ _ _ _ (by omega) hw2.symm (nI_1 _) rfl rfl (nI_1 y) q2 hf3
              · have hw2 : misY T z t (y + 1) v = w := by rw [misY, if_neg hM, ← hw]
                refine a_iload 96 dX12_missed_94 rfl rfl ?_
                refine a_aload_n 97 dX12_missed_96 rfl rfl ?_
                refine a_get fd_X12_160 rfl 100 dX12_missed_97 rfl (by repeat (first | assumption | (refine rg_ne (by first | decide | omega) ?_) | apply rg_eq | refine rg_fr (by assumption) (by first | decide | (simp; omega)) ?_)) rfl ?_
                refine a_icmp_ge 178 103 dX12_missed_100 rfl (by decide) (fun c_100 => absurd c_100 (by rw [ho1]; exact nI_ge (a := y) (b := T.m) (by omega) (by omega))) (fun c_100 => ?_)
                refine a_iload 105 dX12_missed_103 rfl rfl ?_
                refine a_if_eq 178 108 dX12_missed_105 rfl (by decide) (fun c_105 => absurd c_105 (by decide)) (fun c_105 => ?_)
                refine a_aload_n 109 dX12_missed_108 rfl rfl ?_
                refine a_iload_n 110 dX12_missed_109 rfl rfl ?_
                refine a_iload 112 dX12_missed_110 rfl rfl ?_
                refine a_iload 114 dX12_missed_112 rfl rfl ?_
                refine a_callV ok_X12_doesMend ln_X12_269 in_X12_doesMend rfl 117 dX12_missed_114 rfl (k_X12_doesMend q1 o hz (by omega) (by omega)) (by repeat (first | assumption | (refine rg_ne (by first | decide | omega) ?_) | apply rg_eq | refine rg_fr (by assumption) (by first | decide | (simp; omega)) ?_)) rfl rfl rfl ⟨(Nat.le_of_ble_eq_true rfl), (Nat.le_of_ble_eq_true rfl)⟩ (Nat.le_of_ble_eq_true rfl) ⟨(Nat.le_of_ble_eq_true rfl), (Nat.le_of_ble_eq_true rfl)⟩ ?_
                rintro h2 v2 ⟨rfl, q2, hf2⟩
                have hf3 := fr_trans hf1 hf2 (fun _ q => q)
                refine a_istore 119 dX12_missed_117 rfl (by decide) ?_
                refine a_iload 121 dX12_missed_119 rfl rfl ?_
                refine a_if_eq 134 124 dX12_missed_121 rfl (by decide) (fun c_121 => ?_) (fun c_121 => absurd (if_neg hM) c_121)
                refine a_iload 136 dX12_missed_134 rfl rfl ?_
                refine a_istore 138 dX12_missed_136 rfl (by decide) ?_
                refine a_iload 140 dX12_missed_138 rfl rfl ?_
                refine a_if_eq 153 143 dX12_missed_140 rfl (by decide) (fun c_140 => ?_) (fun c_140 => absurd (if_neg hM) c_140)
                refine a_iload 155 dX12_missed_153 rfl rfl ?_
                refine a_istore 157 dX12_missed_155 rfl (by decide) ?_
                refine a_iload 159 dX12_missed_157 rfl rfl ?_
                refine a_iload 161 dX12_missed_159 rfl rfl ?_
                refine a_if_eq 168 164 dX12_missed_161 rfl (by decide) (fun c_161 => ?_) (fun c_161 => absurd (if_neg hM) c_161)
                refine a_iconst (0) 169 dX12_missed_168 rfl (by decide) ?_
                refine a_iadd 170 dX12_missed_169 rfl ?_
                refine a_istore 172 dX12_missed_170 rfl (by decide) ?_
                refine a_iinc _ 175 dX12_missed_172 rfl rfl (by decide) rfl ?_
                refine a_goto 94 dX12_missed_175 (by decide) ?_
                exact ih2 (y + 1) w _ _ _ _ _ _ (by omega) hw2.symm (Int32.add_zero _) rfl rfl (nI_1 y) q2 hf3
          refine a_iload 54 dX12_missed_52 rfl rfl ?_
          refine a_aload_n 55 dX12_missed_54 rfl rfl ?_
          refine a_callV ok_X12_lastMinute ln_X12_240 in_X12_lastMinute rfl 58 dX12_missed_55 rfl (k_X12_lastMinute q1.2.2.2.1) (by repeat (first | assumption | (refine rg_ne (by first | decide | omega) ?_) | apply rg_eq | refine rg_fr (by assumption) (by first | decide | (simp; omega)) ?_)) rfl rfl rfl ⟨(Nat.le_of_ble_eq_true rfl), (Nat.le_of_ble_eq_true rfl)⟩ (Nat.le_of_ble_eq_true rfl) ⟨(Nat.le_of_ble_eq_true rfl), (Nat.le_of_ble_eq_true rfl)⟩ ?_
          rintro _ _ ⟨rfl, rfl⟩
          rw [if_neg (show ¬ T.ny = 0 by omega)]
          refine a_icmp_gt 184 61 dX12_missed_58 rfl (by decide) (fun c_58 => absurd c_58 (nI_nlt (by omega) (by omega))) (fun c_58 => ?_)
          refine a_aload_n 62 dX12_missed_61 rfl rfl ?_
          refine a_get fd_X12_47 rfl 65 dX12_missed_62 rfl (by repeat (first | assumption | (refine rg_ne (by first | decide | omega) ?_) | apply rg_eq | refine rg_fr (by assumption) (by first | decide | (simp; omega)) ?_)) rfl ?_
          refine a_iload_n 66 dX12_missed_65 rfl rfl ?_
          refine a_iaload 67 dX12_missed_66 rfl (by repeat (first | assumption | (refine rg_ne (by first | decide | omega) ?_) | apply rg_eq | refine rg_fr (by assumption) (by first | decide | (simp; omega)) ?_)) vb ?_
          rw [eb, h5b]
          refine a_iload 69 dX12_missed_67 rfl rfl ?_
          refine a_isub 70 dX12_missed_69 rfl ?_
          refine a_i2l 71 dX12_missed_70 rfl ?_
          refine a_aload_n 72 dX12_missed_71 rfl rfl ?_
          refine a_iload_n 73 dX12_missed_72 rfl rfl ?_
          refine a_iconst (5) 74 dX12_missed_73 rfl (by decide) ?_
          refine a_callV ok_X12_of ln_X12_215 in_X12_of rfl 77 dX12_missed_74 rfl (k_X12_ofN q1.2.2.1 hz (w := 5) (by decide)) (by repeat (first | assumption | (refine rg_ne (by first | decide | omega) ?_) | apply rg_eq | refine rg_fr (by assumption) (by first | decide | (simp; omega)) ?_)) rfl rfl rfl ⟨(Nat.le_of_ble_eq_true rfl), (Nat.le_of_ble_eq_true rfl)⟩ (Nat.le_of_ble_eq_true rfl) ⟨(Nat.le_of_ble_eq_true rfl), (Nat.le_of_ble_eq_true rfl)⟩ ?_
          rintro _ _ ⟨rfl, rfl⟩
          refine a_i2l 78 dX12_missed_77 rfl ?_
          refine a_aload_n 79 dX12_missed_78 rfl rfl ?_
          refine a_iload_n 80 dX12_missed_79 rfl rfl ?_
          refine a_bipush (6) 82 dX12_missed_80 rfl (by decide) ?_
          refine a_callV ok_X12_of ln_X12_215 in_X12_of rfl 85 dX12_missed_82 rfl (k_X12_ofN q1.2.2.1 hz (w := 6) (by decide)) (by repeat (first | assumption | (refine rg_ne (by first | decide | omega) ?_) | apply rg_eq | refine rg_fr (by assumption) (by first | decide | (simp; omega)) ?_)) rfl rfl rfl ⟨(Nat.le_of_ble_eq_true rfl), (Nat.le_of_ble_eq_true rfl)⟩ (Nat.le_of_ble_eq_true rfl) ⟨(Nat.le_of_ble_eq_true rfl), (Nat.le_of_ble_eq_true rfl)⟩ ?_
          rintro _ _ ⟨rfl, rfl⟩
          refine a_i2l 86 dX12_missed_85 rfl ?_
          refine a_callS ok_X12_in ln_X12_97 is_X12_in rfl 89 dX12_missed_86 rfl (k_X12_in _ _ _) rfl rfl ⟨(Nat.le_of_ble_eq_true rfl), (Nat.le_of_ble_eq_true rfl)⟩ (Nat.le_of_ble_eq_true rfl) ⟨(Nat.le_of_ble_eq_true rfl), (Nat.le_of_ble_eq_true rfl)⟩ ?_
          rintro _ _ ⟨rfl, rfl⟩
          rw [if_pos (hne.mpr hn)]
          refine a_istore 91 dX12_missed_89 rfl (by decide) ?_
          refine a_iconst (0) 92 dX12_missed_91 rfl (by decide) ?_
          refine a_istore 94 dX12_missed_92 rfl (by decide) ?_
          exact L2 T.m 0 v _ _ _ _ _ _ (by omega) rfl rfl rfl rfl rfl q1 hf1
        · have hvs : misG T z (T.ym b - T.nu z 6) (T.ym b + 1 - T.nu z 5) (t + 1) (0, -9, -9) = v := by rw [misG, if_neg (by omega), ← hv]
          refine a_iload 54 dX12_missed_52 rfl rfl ?_
          refine a_aload_n 55 dX12_missed_54 rfl rfl ?_
          refine a_callV ok_X12_lastMinute ln_X12_240 in_X12_lastMinute rfl 58 dX12_missed_55 rfl (k_X12_lastMinute q1.2.2.2.1) (by repeat (first | assumption | (refine rg_ne (by first | decide | omega) ?_) | apply rg_eq | refine rg_fr (by assumption) (by first | decide | (simp; omega)) ?_)) rfl rfl rfl ⟨(Nat.le_of_ble_eq_true rfl), (Nat.le_of_ble_eq_true rfl)⟩ (Nat.le_of_ble_eq_true rfl) ⟨(Nat.le_of_ble_eq_true rfl), (Nat.le_of_ble_eq_true rfl)⟩ ?_
          rintro _ _ ⟨rfl, rfl⟩
          rw [if_neg (show ¬ T.ny = 0 by omega)]
          refine a_icmp_gt 184 61 dX12_missed_58 rfl (by decide) (fun c_58 => absurd c_58 (nI_nlt (by omega) (by omega))) (fun c_58 => ?_)
          refine a_aload_n 62 dX12_missed_61 rfl rfl ?_
          refine a_get fd_X12_47 rfl 65 dX12_missed_62 rfl (by repeat (first | assumption | (refine rg_ne (by first | decide | omega) ?_) | apply rg_eq | refine rg_fr (by assumption) (by first | decide | (simp; omega)) ?_)) rfl ?_
          refine a_iload_n 66 dX12_missed_65 rfl rfl ?_
          refine a_iaload 67 dX12_missed_66 rfl (by repeat (first | assumption | (refine rg_ne (by first | decide | omega) ?_) | apply rg_eq | refine rg_fr (by assumption) (by first | decide | (simp; omega)) ?_)) vb ?_
          rw [eb, h5b]
          refine a_iload 69 dX12_missed_67 rfl rfl ?_
          refine a_isub 70 dX12_missed_69 rfl ?_
          refine a_i2l 71 dX12_missed_70 rfl ?_
          refine a_aload_n 72 dX12_missed_71 rfl rfl ?_
          refine a_iload_n 73 dX12_missed_72 rfl rfl ?_
          refine a_iconst (5) 74 dX12_missed_73 rfl (by decide) ?_
          refine a_callV ok_X12_of ln_X12_215 in_X12_of rfl 77 dX12_missed_74 rfl (k_X12_ofN q1.2.2.1 hz (w := 5) (by decide)) (by repeat (first | assumption | (refine rg_ne (by first | decide | omega) ?_) | apply rg_eq | refine rg_fr (by assumption) (by first | decide | (simp; omega)) ?_)) rfl rfl rfl ⟨(Nat.le_of_ble_eq_true rfl), (Nat.le_of_ble_eq_true rfl)⟩ (Nat.le_of_ble_eq_true rfl) ⟨(Nat.le_of_ble_eq_true rfl), (Nat.le_of_ble_eq_true rfl)⟩ ?_
          rintro _ _ ⟨rfl, rfl⟩
          refine a_i2l 78 dX12_missed_77 rfl ?_
          refine a_aload_n 79 dX12_missed_78 rfl rfl ?_
          refine a_iload_n 80 dX12_missed_79 rfl rfl ?_
          refine a_bipush (6) 82 dX12_missed_80 rfl (by decide) ?_
          refine a_callV ok_X12_of ln_X12_215 in_X12_of rfl 85 dX12_missed_82 rfl (k_X12_ofN q1.2.2.1 hz (w := 6) (by decide)) (by repeat (first | assumption | (refine rg_ne (by first | decide | omega) ?_) | apply rg_eq | refine rg_fr (by assumption) (by first | decide | (simp; omega)) ?_)) rfl rfl rfl ⟨(Nat.le_of_ble_eq_true rfl), (Nat.le_of_ble_eq_true rfl)⟩ (Nat.le_of_ble_eq_true rfl) ⟨(Nat.le_of_ble_eq_true rfl), (Nat.le_of_ble_eq_true rfl)⟩ ?_
          rintro _ _ ⟨rfl, rfl⟩
          refine a_i2l 86 dX12_missed_85 rfl ?_
          refine a_callS ok_X12_in ln_X12_97 is_X12_in rfl 89 dX12_missed_86 rfl (k_X12_in _ _ _) rfl rfl ⟨(Nat.le_of_ble_eq_true rfl), (Nat.le_of_ble_eq_true rfl)⟩ (Nat.le_of_ble_eq_true rfl) ⟨(Nat.le_of_ble_eq_true rfl), (Nat.le_of_ble_eq_true rfl)⟩ ?_
          rintro _ _ ⟨rfl, rfl⟩
          rw [if_neg (fun w => hn (hne.mp w))]
          refine a_istore 91 dX12_missed_89 rfl (by decide) ?_
          refine a_iconst (0) 92 dX12_missed_91 rfl (by decide) ?_
          refine a_istore 94 dX12_missed_92 rfl (by decide) ?_
          refine a_iload 96 dX12_missed_94 rfl rfl ?_
          refine a_aload_n 97 dX12_missed_96 rfl rfl ?_
          refine a_get fd_X12_160 rfl 100 dX12_missed_97 rfl (by repeat (first | assumption | (refine rg_ne (by first | decide | omega) ?_) | apply rg_eq | refine rg_fr (by assumption) (by first | decide | (simp; omega)) ?_)) rfl ?_
          refine a_icmp_ge 178 103 dX12_missed_100 rfl (by decide) (fun c_100 => ?_) (fun c_100 => ?_)
          · refine a_iinc _ 181 dX12_missed_178 rfl rfl (by decide) rfl ?_
            refine a_goto 52 dX12_missed_181 (by decide) ?_
            exact ih (t + 1) v _ _ _ _ _ _ _ _ (by omega) hvs.symm rfl rfl rfl (nI_1 t) q1 hf1 hd
          · refine a_iload 105 dX12_missed_103 rfl rfl ?_
            refine a_if_eq 178 108 dX12_missed_105 rfl (by decide) (fun c_105 => ?_) (fun c_105 => absurd rfl c_105)
            refine a_iinc _ 181 dX12_missed_178 rfl rfl (by decide) rfl ?_
            refine a_goto 52 dX12_missed_181 (by decide) ?_
            exact ih (t + 1) v _ _ _ _ _ _ _ _ (by omega) hvs.symm rfl rfl rfl (nI_1 t) q1 hf1 hd
    refine rM_start (by decide) (Nat.le_of_ble_eq_true rfl) ?_
    refine a_aload_n 1 dX12_missed_0 rfl rfl ?_
    refine a_iload_n 2 dX12_missed_1 rfl rfl ?_
    refine a_callV ok_X12_noLaw ln_X12_218 in_X12_noLaw rfl 5 dX12_missed_2 rfl (m_noLaw q (nI z)) (by repeat (first | assumption | (refine rg_ne (by first | decide | omega) ?_) | apply rg_eq | refine rg_fr (by assumption) (by first | decide | (simp; omega)) ?_)) rfl rfl rfl ⟨(Nat.le_of_ble_eq_true rfl), (Nat.le_of_ble_eq_true rfl)⟩ (Nat.le_of_ble_eq_true rfl) ⟨(Nat.le_of_ble_eq_true rfl), (Nat.le_of_ble_eq_true rfl)⟩ ?_
    rintro _ _ ⟨rfl, rfl⟩
    refine a_if_eq 10 8 dX12_missed_5 rfl (by decide) (fun c_5 => ?_) (fun c_5 => absurd (if_pos (oT_yes hz (by omega))) c_5)
    refine a_iload_n 11 dX12_missed_10 rfl rfl ?_
    refine a_i2l 12 dX12_missed_11 rfl ?_
    refine a_lconst (0) 13 dX12_missed_12 rfl (by decide) ?_
    refine a_ldc2 (2) 16 dX12_missed_13 rfl lk_X12_95 ?_
    refine a_callS ok_X12_in ln_X12_97 is_X12_in rfl 19 dX12_missed_16 rfl (k_X12_in _ _ _) rfl rfl ⟨(Nat.le_of_ble_eq_true rfl), (Nat.le_of_ble_eq_true rfl)⟩ (Nat.le_of_ble_eq_true rfl) ⟨(Nat.le_of_ble_eq_true rfl), (Nat.le_of_ble_eq_true rfl)⟩ ?_
    rintro _ _ ⟨rfl, rfl⟩
    refine a_if_ne 25 22 dX12_missed_19 rfl (by decide) (fun c_19 => ?_) (fun c_19 => ?_)
    · refine a_aload_n 26 dX12_missed_25 rfl rfl ?_
      refine a_iload_n 27 dX12_missed_26 rfl rfl ?_
      refine a_callV ok_X12_firstBarred ln_X12_260 in_X12_firstBarred rfl 30 dX12_missed_27 rfl (m_bar q hz) (by repeat (first | assumption | (refine rg_ne (by first | decide | omega) ?_) | apply rg_eq | refine rg_fr (by assumption) (by first | decide | (simp; omega)) ?_)) rfl rfl rfl ⟨(Nat.le_of_ble_eq_true rfl), (Nat.le_of_ble_eq_true rfl)⟩ (Nat.le_of_ble_eq_true rfl) ⟨(Nat.le_of_ble_eq_true rfl), (Nat.le_of_ble_eq_true rfl)⟩ ?_
      rintro h2 v ⟨rfl, hc2, hf2⟩
      rw [hb]
      refine a_istore_n 31 dX12_missed_30 rfl (by decide) ?_
      refine a_iload_n 32 dX12_missed_31 rfl rfl ?_
      refine a_if_ge 38 35 dX12_missed_32 rfl (by decide) (fun c_32 => ?_) (fun c_32 => absurd hb0 c_32)
      refine a_iconst (0) 39 dX12_missed_38 rfl (by decide) ?_
      refine a_istore 41 dX12_missed_39 rfl (by decide) ?_
      refine a_bipush (-9) 43 dX12_missed_41 rfl (by decide) ?_
      refine a_istore 45 dX12_missed_43 rfl (by decide) ?_
      refine a_bipush (-9) 47 dX12_missed_45 rfl (by decide) ?_
      refine a_istore 49 dX12_missed_47 rfl (by decide) ?_
      refine a_iconst (0) 50 dX12_missed_49 rfl (by decide) ?_
      refine a_istore 52 dX12_missed_50 rfl (by decide) ?_
      exact L _ 0 (0, -9, -9) _ _ _ _ _ _ _ _ (Nat.zero_add _) rfl rfl rfl rfl rfl (q.line hc2 hf2) hf2 (Decidable.not_not.mp (fun v => c_19 (hBR.mpr v)))
    · refine a_bipush (-2) 24 dX12_missed_22 rfl (by decide) ?_
      exact a_ireturn dX12_missed_24 rfl rfl (Nat.le_of_ble_eq_true rfl) (Nat.le_of_ble_eq_true rfl) ⟨by rw [ea, if_neg (hBR.mp c_19)], ⟨i, j, q⟩, fun _ _ _ => rfl⟩
end MMISS2
