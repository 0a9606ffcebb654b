/-! THE CLASS: shares in least terms, chains, the yawn missed -/
theorem irem_N {a b : Nat} (ha : a < 2 ^ 31) (hb0 : 0 < b) (hb : b < 2 ^ 31) : nI a - nI a / nI b * nI b = nI (a % b) := pk_rem ha hb0 hb
theorem gcd_step {g l p s : Nat} (hl : 0 < l) (hg : l < g) (hp : g * l * 2 ^ s < 2 ^ 60) : l * (g % l) * 2 ^ (s + 1) < 2 ^ 60 := by
  have h1 : 2 * (g % l) ≤ g := by
    have e := Nat.div_add_mod g l
    have h2 : 1 ≤ g / l := Nat.div_pos (Nat.le_of_lt hg) hl
    have h3 := Nat.mod_lt g hl
    have h4 : l * 1 ≤ l * (g / l) := Nat.mul_le_mul_left l h2
    omega
  refine Nat.lt_of_le_of_lt ?_ hp
  rw [Nat.pow_succ, show l * (g % l) * (2 ^ s * 2) = (l * (2 * (g % l))) * 2 ^ s by rw [Nat.mul_comm (2 ^ s) 2, ← Nat.mul_assoc, Nat.mul_assoc l, Nat.mul_comm (g % l) 2]]
  refine Nat.mul_le_mul_right _ ?_
  rw [Nat.mul_comm g l]
  exact Nat.mul_le_mul_left l h1
theorem gcd_end {g l : Nat} (hl : l < g) (hp : g * l * 2 ^ 63 < 2 ^ 60) : l = 0 := by
  rcases Nat.eq_zero_or_pos l with e | e
  · exact e
  · have h1 : 1 ≤ g * l := Nat.mul_pos (by omega) e
    have h2 : 1 * 2 ^ 63 ≤ g * l * 2 ^ 63 := Nat.mul_le_mul_right _ h1
    omega
theorem nI_0eq {k : Nat} (hk : k < 2 ^ 31) : nI k = 0 ↔ k = 0 := by rw [← nI_0]; exact nI_eq hk (by omega)
abbrev tolN (up down : Nat) (w : Int32) : Int64 := lN ((if w = 0 then up else down) / Nat.gcd up down)
theorem gcd_1 {a b : Nat} (ha : a < 2 ^ 30) (hb : b < 2 ^ 30) (h0 : 0 < b) : a % b < b ∧ b * (a % b) * 2 ^ 0 < 2 ^ 60 := by
  have h1 := Nat.mod_lt a h0
  refine ⟨h1, ?_⟩
  have := mul_lt hb (show a % b < 2 ^ 30 by omega)
  omega
section GCD
variable {l : Launch} {G : rG} {h : rH}
set_option maxRecDepth 100000 in
set_option maxHeartbeats 400000 in
theorem k_X11_commonDivisor {a b : Nat} (ha : a < 2 ^ 30) (hb : b < 2 ^ 30) : rM l G 0 mX11_commonDivisor 0 0 [.int (nI a), .int (nI b)] h (rV h (some (.int (nI (Nat.gcd a b))))) := by
  refine rM_start (by decide) (Nat.le_of_ble_eq_true rfl) ?_
  have L : ∀ (r s g d : Nat) (x2 x3 y : Int32) (o5 : Option Value), s + r = 64 → g < 2 ^ 30 → d < 2 ^ 30 → Nat.gcd g d = Nat.gcd a b → (s = 0 ∨ d < g ∧ ∃ t, s = t + 1 ∧ g * d * 2 ^ t < 2 ^ 60) → x2 = nI g → x3 = nI d → y = nI s → rW l G (rRm 0 0 0) mX11_commonDivisor (rZ G (rV h (some (.int (nI (Nat.gcd a b))))) 0 0) 0 0 7 [some (.int (nI a)), some (.int (nI b)), some (.int x2), some (.int x3), some (.int y), o5] [] h := by
    intro r
    induction r with
    | zero =>
      intro s g d x2 x3 y o5 hs hg hd he hi h2 h3 h4
      subst h2; subst h3; subst h4
      have e : s = 64 := by omega
      subst e
      have d0 : d = 0 := by
        rcases hi with hi | ⟨hi, t, ht, hp⟩
        · omega
        · rw [show t = 63 by omega] at hp; exact gcd_end hi hp
      subst d0
      rw [Nat.gcd_zero_right] at he
      refine a_iload 9 dX11_commonDivisor_7 rfl rfl ?_
      refine a_bipush (64) 11 dX11_commonDivisor_9 rfl (by decide) ?_
      refine a_icmp_ge 34 14 dX11_commonDivisor_11 rfl (by decide) (fun c_11 => ?_) (fun c_11 => absurd (by decide) c_11)
      refine a_iload_n 35 dX11_commonDivisor_34 rfl rfl ?_
      exact a_ireturn dX11_commonDivisor_35 rfl rfl (Nat.le_of_ble_eq_true rfl) (Nat.le_of_ble_eq_true rfl) ⟨rfl, by rw [← he]⟩
    | succ r ih =>
      intro s g d x2 x3 y o5 hs hg hd he hi h2 h3 h4
      subst h2; subst h3; subst h4
      have dz := nI_0eq (k := d) (by omega)
      refine a_iload 9 dX11_commonDivisor_7 rfl rfl ?_
      refine a_bipush (64) 11 dX11_commonDivisor_9 rfl (by decide) ?_
      refine a_icmp_ge 34 14 dX11_commonDivisor_11 rfl (by decide) (fun c_11 => absurd c_11 (nI_ge (a := s) (b := 64) (by omega) (by decide))) (fun c_11 => ?_)
      refine a_iload_n 15 dX11_commonDivisor_14 rfl rfl ?_
      refine a_if_eq 34 18 dX11_commonDivisor_15 rfl (by decide) (fun c_15 => ?_) (fun c_15 => ?_)
      · refine a_iload_n 35 dX11_commonDivisor_34 rfl rfl ?_
        exact a_ireturn dX11_commonDivisor_35 rfl rfl (Nat.le_of_ble_eq_true rfl) (Nat.le_of_ble_eq_true rfl) ⟨rfl, by rw [← he, dz.mp c_15, Nat.gcd_zero_right]⟩
      · refine a_iload_n 19 dX11_commonDivisor_18 rfl rfl ?_
        refine a_iload_n 20 dX11_commonDivisor_19 rfl rfl ?_
        refine a_irem 21 dX11_commonDivisor_20 rfl c_15 ?_
        have d0 : 0 < d := Nat.pos_of_ne_zero (fun e => c_15 (dz.mpr e))
        rw [irem_N (by omega) d0 (by omega)]
        refine a_istore 23 dX11_commonDivisor_21 rfl (by decide) ?_
        refine a_iload_n 24 dX11_commonDivisor_23 rfl rfl ?_
        refine a_istore_n 25 dX11_commonDivisor_24 rfl (by decide) ?_
        refine a_iload 27 dX11_commonDivisor_25 rfl rfl ?_
        refine a_istore_n 28 dX11_commonDivisor_27 rfl (by decide) ?_
        refine a_iinc _ 31 dX11_commonDivisor_28 rfl rfl (by decide) rfl ?_
        refine a_goto 7 dX11_commonDivisor_31 (by decide) ?_
        exact ih (s + 1) d (g % d) _ _ _ _ (by omega) hd (by have := Nat.mod_lt g d0; omega) (by rw [Nat.gcd_comm, ← Nat.gcd_rec, Nat.gcd_comm]; exact he) (Or.inr (by rcases hi with hi | ⟨hi, t, ht, hp⟩; exact ⟨(gcd_1 hg hd d0).1, 0, by omega, (gcd_1 hg hd d0).2⟩; exact ⟨Nat.mod_lt g d0, t + 1, by omega, gcd_step (p := 0) d0 hi hp⟩)) rfl rfl (nI_1 s)
  refine a_iload_n 1 dX11_commonDivisor_0 rfl rfl ?_
  refine a_istore_n 2 dX11_commonDivisor_1 rfl (by decide) ?_
  refine a_iload_n 3 dX11_commonDivisor_2 rfl rfl ?_
  refine a_istore_n 4 dX11_commonDivisor_3 rfl (by decide) ?_
  refine a_iconst (0) 5 dX11_commonDivisor_4 rfl (by decide) ?_
  refine a_istore 7 dX11_commonDivisor_5 rfl (by decide) ?_
  exact L 64 0 a b _ _ _ _ (by omega) ha hb rfl (Or.inl rfl) rfl rfl rfl
set_option maxRecDepth 100000 in
set_option maxHeartbeats 400000 in
theorem k_X11_leastTerm {a b : Nat} (ha : a < 2 ^ 30) (hb : b < 2 ^ 30) (h0 : 0 < b) (w : Int32) : rM l G 1 mX11_leastTerm 0 0 [.int (nI a), .int (nI b), .int w] h (rV h (some (.long (tolN a b w)))) := by
  have g0 : 0 < Nat.gcd a b := Nat.gcd_pos_of_pos_right a h0
  have g1 : Nat.gcd a b ≤ b := Nat.le_of_dvd h0 (Nat.gcd_dvd_right a b)
  have da : a / Nat.gcd a b ≤ a := Nat.div_le_self _ _
  have db : b / Nat.gcd a b ≤ b := Nat.div_le_self _ _
  refine rM_start (by decide) (Nat.le_of_ble_eq_true rfl) ?_
  refine a_iload_n 1 dX11_leastTerm_0 rfl rfl ?_
  refine a_iload_n 2 dX11_leastTerm_1 rfl rfl ?_
  refine a_callS ok_X11_commonDivisor ln_X11_434 is_X11_commonDivisor rfl 5 dX11_leastTerm_2 rfl (k_X11_commonDivisor ha hb) rfl rfl ⟨(Nat.le_of_ble_eq_true rfl), (Nat.le_of_ble_eq_true rfl)⟩ (Nat.le_of_ble_eq_true rfl) ⟨(Nat.le_of_ble_eq_true rfl), (Nat.le_of_ble_eq_true rfl)⟩ ?_
  rintro _ _ ⟨rfl, rfl⟩
  refine a_istore_n 6 dX11_leastTerm_5 rfl (by decide) ?_
  refine a_iload_n 7 dX11_leastTerm_6 rfl rfl ?_
  refine a_if_gt 14 10 dX11_leastTerm_7 rfl (by decide) (fun c_7 => ?_) (fun c_7 => absurd (Int32.not_le.mp (nI_nle g0 (by omega))) c_7)
  refine a_iload_n 15 dX11_leastTerm_14 rfl rfl ?_
  refine a_if_ne 22 18 dX11_leastTerm_15 rfl (by decide) (fun c_15 => ?_) (fun c_15 => ?_)
  · refine a_iload_n 23 dX11_leastTerm_22 rfl rfl ?_
    refine a_iload_n 24 dX11_leastTerm_23 rfl rfl ?_
    refine a_idiv 25 dX11_leastTerm_24 rfl (nI_ne0 g0 (by omega)) ?_
    rw [pk_div (by omega) g0 (by omega)]
    refine a_i2l 26 dX11_leastTerm_25 rfl ?_
    rw [nI_l (by omega)]
    exact a_lreturn dX11_leastTerm_26 rfl (Nat.le_of_ble_eq_true rfl) (Nat.le_of_ble_eq_true rfl) ⟨rfl, by rw [tolN, if_neg c_15]⟩
  · refine a_iload_n 19 dX11_leastTerm_18 rfl rfl ?_
    refine a_goto 23 dX11_leastTerm_19 (by decide) ?_
    refine a_iload_n 24 dX11_leastTerm_23 rfl rfl ?_
    refine a_idiv 25 dX11_leastTerm_24 rfl (nI_ne0 g0 (by omega)) ?_
    rw [pk_div (by omega) g0 (by omega)]
    refine a_i2l 26 dX11_leastTerm_25 rfl ?_
    rw [nI_l (by omega)]
    exact a_lreturn dX11_leastTerm_26 rfl (Nat.le_of_ble_eq_true rfl) (Nat.le_of_ble_eq_true rfl) ⟨rfl, by rw [tolN, if_pos c_15]⟩
end GCD
def lost64 : Int64 := -9223372036854775808
def aShare (T : Tn) (c d i w : Int32) : Int64 := match oT T.nl c, oT T.ny d with
  | some z, some q => (match (if i = -9 then some (T.own z (T.yw q)) else (oT T.ny i).map (T.src z q)) with
    | some p => if (w = 0 ∨ w = 1) ∧ ¬ T.all z q = 0 then tolN p (T.all z q) w else lost64
    | none => lost64)
  | _, _ => lost64
section CPUB3
variable {l : Launch} {G : rG} {h : rH} {T : Tn}
set_option maxRecDepth 100000 in
set_option maxHeartbeats 400000 in
theorem c_share (q : cAll G h T) (o : T.ok) (c d i w : Int32) : rM l G 12 mX11_share 0 0 [.ref (gN G + 0), .int c, .int d, .int i, .int w] h (fun h' v => v = some (.long (aShare T c d i w)) ∧ cAll G h' T ∧ kp h h' cL) := by
  have hnl := o.nl6
  have hny := o.ny24
  have hy := q.1.1
  rcases oT_cases (n := T.nl) (by omega) c with ⟨e, hc⟩ | ⟨z, hz, rfl, e⟩
  · have ea : aShare T c d i w = lost64 := by unfold aShare; rw [e]
    refine rM_start (by decide) (Nat.le_of_ble_eq_true rfl) ?_
    refine a_aload_n 1 dX11_share_0 rfl rfl ?_
    refine a_iload_n 2 dX11_share_1 rfl rfl ?_
    refine a_callV ok_X11_weighedLaw ln_X11_217 in_X11_weighedLaw rfl 5 dX11_share_2 rfl (k_X11_weighedLawN q.1 hc) (by repeat (first | assumption | (refine rg_ne (by first | decide | omega) ?_) | apply rg_eq | refine rg_fr (by assumption) (by first | decide | (simp; omega)) ?_)) rfl rfl rfl ⟨(Nat.le_of_ble_eq_true rfl), (Nat.le_of_ble_eq_true rfl)⟩ (Nat.le_of_ble_eq_true rfl) ⟨(Nat.le_of_ble_eq_true rfl), (Nat.le_of_ble_eq_true rfl)⟩ ?_
    rintro _ _ ⟨rfl, rfl⟩
    refine a_astoreN 7 dX11_share_5 rfl (by decide) ?_
    refine a_aloadN 9 dX11_share_7 rfl rfl ?_
    refine a_ifnullN 40 dX11_share_9 (by decide) ?_
    refine a_ldc2 (-9223372036854775808) 43 dX11_share_40 rfl lk_X11_224 ?_
    exact a_lreturn dX11_share_43 rfl (Nat.le_of_ble_eq_true rfl) (Nat.le_of_ble_eq_true rfl) ⟨by rw [ea]; rfl, q, fun _ _ _ => rfl⟩
  · rcases oT_cases (n := T.ny) (by omega) d with ⟨e2, hd⟩ | ⟨j, hj, rfl, e2⟩
    · have ea : aShare T (nI z) d i w = lost64 := by unfold aShare; rw [e, e2]
      refine rM_start (by decide) (Nat.le_of_ble_eq_true rfl) ?_
      refine a_aload_n 1 dX11_share_0 rfl rfl ?_
      refine a_iload_n 2 dX11_share_1 rfl rfl ?_
      refine a_callV ok_X11_weighedLaw ln_X11_217 in_X11_weighedLaw rfl 5 dX11_share_2 rfl (k_X11_weighedLaw q.1 o q.2.1 hz) (by repeat (first | assumption | (refine rg_ne (by first | decide | omega) ?_) | apply rg_eq | refine rg_fr (by assumption) (by first | decide | (simp; omega)) ?_)) rfl rfl rfl ⟨(Nat.le_of_ble_eq_true rfl), (Nat.le_of_ble_eq_true rfl)⟩ (Nat.le_of_ble_eq_true rfl) ⟨(Nat.le_of_ble_eq_true rfl), (Nat.le_of_ble_eq_true rfl)⟩ ?_
      rintro h1 _ ⟨rfl, w1, hf1⟩
      have hy1 := w1.1.1
      have r1 := (wg_row w1).1
      have qa := wg_all q w1 hf1
      refine a_astore 7 dX11_share_5 rfl (by decide) ?_
      refine a_aload 9 dX11_share_7 rfl rfl ?_
      refine a_ifnull 12 dX11_share_9 rfl ?_
      refine a_aload_n 13 dX11_share_12 rfl rfl ?_
      refine a_get fd_X11_53 rfl 16 dX11_share_13 rfl (by repeat (first | assumption | (refine rg_ne (by first | decide | omega) ?_) | apply rg_eq | refine rg_fr (by assumption) (by first | decide | (simp; omega)) ?_)) rfl ?_
      refine a_iload_n 17 dX11_share_16 rfl rfl ?_
      refine a_callV ok_X10_has ln_X11_208 in_X10_has rfl 20 dX11_share_17 rfl (c_has w1.1 d) (by repeat (first | assumption | (refine rg_ne (by first | decide | omega) ?_) | apply rg_eq | refine rg_fr (by assumption) (by first | decide | (simp; omega)) ?_)) rfl rfl rfl ⟨(Nat.le_of_ble_eq_true rfl), (Nat.le_of_ble_eq_true rfl)⟩ (Nat.le_of_ble_eq_true rfl) ⟨(Nat.le_of_ble_eq_true rfl), (Nat.le_of_ble_eq_true rfl)⟩ ?_
      rintro _ _ ⟨rfl, rfl⟩
      refine a_if_eq 40 23 dX11_share_20 rfl (by decide) (fun c_20 => ?_) (fun c_20 => absurd (if_neg hd) c_20)
      refine a_ldc2 (-9223372036854775808) 43 dX11_share_40 rfl lk_X11_224 ?_
      exact a_lreturn dX11_share_43 rfl (Nat.le_of_ble_eq_true rfl) (Nat.le_of_ble_eq_true rfl) ⟨by rw [ea]; rfl, qa, kp_mono (kp_fr hf1) (by decide)⟩
    · have hal := all_lt o (q := j) hz hj
      have hle := nI_le0 (k := T.all z j) (by omega)
      have hown := own_lt o (x := T.yw j) hz
      have ew : ∀ p, (if (w = 0 ∨ w = 1) ∧ ¬ T.all z j = 0 then tolN p (T.all z j) w else lost64) = if (w = 0 ∨ w = 1) ∧ ¬ T.all z j = 0 then tolN p (T.all z j) w else lost64 := fun _ => rfl
      by_cases hi : i = -9
      · subst hi
        have ea : aShare T (nI z) (nI j) (-9) w = if (w = 0 ∨ w = 1) ∧ ¬ T.all z j = 0 then tolN (T.own z (T.yw j)) (T.all z j) w else lost64 := by unfold aShare; rw [e, e2]; dsimp only; rw [if_pos rfl]
        refine rM_start (by decide) (Nat.le_of_ble_eq_true rfl) ?_
        refine a_aload_n 1 dX11_share_0 rfl rfl ?_
        refine a_iload_n 2 dX11_share_1 rfl rfl ?_
        refine a_callV ok_X11_weighedLaw ln_X11_217 in_X11_weighedLaw rfl 5 dX11_share_2 rfl (k_X11_weighedLaw q.1 o q.2.1 hz) (by repeat (first | assumption | (refine rg_ne (by first | decide | omega) ?_) | apply rg_eq | refine rg_fr (by assumption) (by first | decide | (simp; omega)) ?_)) rfl rfl rfl ⟨(Nat.le_of_ble_eq_true rfl), (Nat.le_of_ble_eq_true rfl)⟩ (Nat.le_of_ble_eq_true rfl) ⟨(Nat.le_of_ble_eq_true rfl), (Nat.le_of_ble_eq_true rfl)⟩ ?_
        rintro h1 _ ⟨rfl, w1, hf1⟩
        have hy1 := w1.1.1
        have r1 := (wg_row w1).1
        have qa := wg_all q w1 hf1
        refine a_astore 7 dX11_share_5 rfl (by decide) ?_
        refine a_aload 9 dX11_share_7 rfl rfl ?_
        refine a_ifnull 12 dX11_share_9 rfl ?_
        refine a_aload_n 13 dX11_share_12 rfl rfl ?_
        refine a_get fd_X11_53 rfl 16 dX11_share_13 rfl (by repeat (first | assumption | (refine rg_ne (by first | decide | omega) ?_) | apply rg_eq | refine rg_fr (by assumption) (by first | decide | (simp; omega)) ?_)) rfl ?_
        refine a_iload_n 17 dX11_share_16 rfl rfl ?_
        refine a_callV ok_X10_has ln_X11_208 in_X10_has rfl 20 dX11_share_17 rfl (c_has w1.1 (nI j)) (by repeat (first | assumption | (refine rg_ne (by first | decide | omega) ?_) | apply rg_eq | refine rg_fr (by assumption) (by first | decide | (simp; omega)) ?_)) rfl rfl rfl ⟨(Nat.le_of_ble_eq_true rfl), (Nat.le_of_ble_eq_true rfl)⟩ (Nat.le_of_ble_eq_true rfl) ⟨(Nat.le_of_ble_eq_true rfl), (Nat.le_of_ble_eq_true rfl)⟩ ?_
        rintro _ _ ⟨rfl, rfl⟩
        refine a_if_eq 40 23 dX11_share_20 rfl (by decide) (fun c_20 => absurd c_20 (by rw [if_pos (oT_yes hj (by omega))]; decide)) (fun c_20 => ?_)
        refine a_iload_n 24 dX11_share_23 rfl rfl ?_
        refine a_bipush (-9) 26 dX11_share_24 rfl (by decide) ?_
        refine a_icmp_eq 44 29 dX11_share_26 rfl (by decide) (fun c_26 => ?_) (fun c_26 => absurd rfl c_26)
        refine a_iload 46 dX11_share_44 rfl rfl ?_
        refine a_if_eq 59 49 dX11_share_46 rfl (by decide) (fun c_46 => ?_) (fun c_46 => ?_)
        · refine a_aload_n 60 dX11_share_59 rfl rfl ?_
          refine a_aload 62 dX11_share_60 rfl rfl ?_
          refine a_iload_n 63 dX11_share_62 rfl rfl ?_
          refine a_callV ok_X11_wholeMight ln_X11_226 in_X11_wholeMight rfl 66 dX11_share_63 rfl (k_X11_wholeMight w1 o hj) (by repeat (first | assumption | (refine rg_ne (by first | decide | omega) ?_) | apply rg_eq | refine rg_fr (by assumption) (by first | decide | (simp; omega)) ?_)) rfl rfl rfl ⟨(Nat.le_of_ble_eq_true rfl), (Nat.le_of_ble_eq_true rfl)⟩ (Nat.le_of_ble_eq_true rfl) ⟨(Nat.le_of_ble_eq_true rfl), (Nat.le_of_ble_eq_true rfl)⟩ ?_
          rintro _ _ ⟨rfl, rfl⟩
          refine a_istore 68 dX11_share_66 rfl (by decide) ?_
          refine a_iload 70 dX11_share_68 rfl rfl ?_
          refine a_if_gt 77 73 dX11_share_70 rfl (by decide) (fun c_70 => ?_) (fun c_70 => ?_)
          · refine a_iload_n 78 dX11_share_77 rfl rfl ?_
            refine a_bipush (-9) 80 dX11_share_78 rfl (by decide) ?_
            refine a_icmp_ne 98 83 dX11_share_80 rfl (by decide) (fun c_80 => absurd c_80 (fun z => z rfl)) (fun c_80 => ?_)
            refine a_aload_n 84 dX11_share_83 rfl rfl ?_
            refine a_aload_n 85 dX11_share_84 rfl rfl ?_
            refine a_get fd_X11_53 rfl 88 dX11_share_85 rfl (by repeat (first | assumption | (refine rg_ne (by first | decide | omega) ?_) | apply rg_eq | refine rg_fr (by assumption) (by first | decide | (simp; omega)) ?_)) rfl ?_
            refine a_iload_n 89 dX11_share_88 rfl rfl ?_
            refine a_callV ok_X10_whoOf ln_X11_214 in_X10_whoOf rfl 92 dX11_share_89 rfl (c_who w1.1 o hj) (by repeat (first | assumption | (refine rg_ne (by first | decide | omega) ?_) | apply rg_eq | refine rg_fr (by assumption) (by first | decide | (simp; omega)) ?_)) rfl rfl rfl ⟨(Nat.le_of_ble_eq_true rfl), (Nat.le_of_ble_eq_true rfl)⟩ (Nat.le_of_ble_eq_true rfl) ⟨(Nat.le_of_ble_eq_true rfl), (Nat.le_of_ble_eq_true rfl)⟩ ?_
            rintro _ _ ⟨rfl, rfl⟩
            refine a_callV ok_X11_weighedOwn ln_X11_230 in_X11_weighedOwn rfl 95 dX11_share_92 rfl (wg_own w1 o (o.yw hj)) (by repeat (first | assumption | (refine rg_ne (by first | decide | omega) ?_) | apply rg_eq | refine rg_fr (by assumption) (by first | decide | (simp; omega)) ?_)) rfl rfl rfl ⟨(Nat.le_of_ble_eq_true rfl), (Nat.le_of_ble_eq_true rfl)⟩ (Nat.le_of_ble_eq_true rfl) ⟨(Nat.le_of_ble_eq_true rfl), (Nat.le_of_ble_eq_true rfl)⟩ ?_
            rintro _ _ ⟨rfl, rfl⟩
            refine a_goto 106 dX11_share_95 (by decide) ?_
            refine a_istore 108 dX11_share_106 rfl (by decide) ?_
            refine a_iload 110 dX11_share_108 rfl rfl ?_
            refine a_iload 112 dX11_share_110 rfl rfl ?_
            refine a_iload 114 dX11_share_112 rfl rfl ?_
            refine a_callS ok_X11_leastTerm ln_X11_233 is_X11_leastTerm rfl 117 dX11_share_114 rfl (k_X11_leastTerm (by omega) (by omega) (Nat.pos_of_ne_zero (fun e => (Int32.not_le.mpr c_70) (hle.mpr e))) w) rfl rfl ⟨(Nat.le_of_ble_eq_true rfl), (Nat.le_of_ble_eq_true rfl)⟩ (Nat.le_of_ble_eq_true rfl) ⟨(Nat.le_of_ble_eq_true rfl), (Nat.le_of_ble_eq_true rfl)⟩ ?_
            rintro _ _ ⟨rfl, rfl⟩
            exact a_lreturn dX11_share_117 rfl (Nat.le_of_ble_eq_true rfl) (Nat.le_of_ble_eq_true rfl) ⟨by rw [ea, if_pos ⟨Or.inl c_46, fun e => (Int32.not_le.mpr c_70) (hle.mpr e)⟩], qa, kp_mono (kp_fr hf1) (by decide)⟩
          · refine a_ldc2 (-9223372036854775808) 76 dX11_share_73 rfl lk_X11_224 ?_
            exact a_lreturn dX11_share_76 rfl (Nat.le_of_ble_eq_true rfl) (Nat.le_of_ble_eq_true rfl) ⟨by rw [ea, if_neg (fun z => z.2 (hle.mp (Int32.not_lt.mp c_70)))]; rfl, qa, kp_mono (kp_fr hf1) (by decide)⟩
        · refine a_iload 51 dX11_share_49 rfl rfl ?_
          refine a_iconst (1) 52 dX11_share_51 rfl (by decide) ?_
          refine a_icmp_eq 59 55 dX11_share_52 rfl (by decide) (fun c_52 => ?_) (fun c_52 => ?_)
          · refine a_aload_n 60 dX11_share_59 rfl rfl ?_
            refine a_aload 62 dX11_share_60 rfl rfl ?_
            refine a_iload_n 63 dX11_share_62 rfl rfl ?_
            refine a_callV ok_X11_wholeMight ln_X11_226 in_X11_wholeMight rfl 66 dX11_share_63 rfl (k_X11_wholeMight w1 o hj) (by repeat (first | assumption | (refine rg_ne (by first | decide | omega) ?_) | apply rg_eq | refine rg_fr (by assumption) (by first | decide | (simp; omega)) ?_)) rfl rfl rfl ⟨(Nat.le_of_ble_eq_true rfl), (Nat.le_of_ble_eq_true rfl)⟩ (Nat.le_of_ble_eq_true rfl) ⟨(Nat.le_of_ble_eq_true rfl), (Nat.le_of_ble_eq_true rfl)⟩ ?_
            rintro _ _ ⟨rfl, rfl⟩
            refine a_istore 68 dX11_share_66 rfl (by decide) ?_
            refine a_iload 70 dX11_share_68 rfl rfl ?_
            refine a_if_gt 77 73 dX11_share_70 rfl (by decide) (fun c_70 => ?_) (fun c_70 => ?_)
            · refine a_iload_n 78 dX11_share_77 rfl rfl ?_
              refine a_bipush (-9) 80 dX11_share_78 rfl (by decide) ?_
              refine a_icmp_ne 98 83 dX11_share_80 rfl (by decide) (fun c_80 => absurd c_80 (fun z => z rfl)) (fun c_80 => ?_)
              refine a_aload_n 84 dX11_share_83 rfl rfl ?_
              refine a_aload_n 85 dX11_share_84 rfl rfl ?_
              refine a_get fd_X11_53 rfl 88 dX11_share_85 rfl (by repeat (first | assumption | (refine rg_ne (by first | decide | omega) ?_) | apply rg_eq | refine rg_fr (by assumption) (by first | decide | (simp; omega)) ?_)) rfl ?_
              refine a_iload_n 89 dX11_share_88 rfl rfl ?_
              refine a_callV ok_X10_whoOf ln_X11_214 in_X10_whoOf rfl 92 dX11_share_89 rfl (c_who w1.1 o hj) (by repeat (first | assumption | (refine rg_ne (by first | decide | omega) ?_) | apply rg_eq | refine rg_fr (by assumption) (by first | decide | (simp; omega)) ?_)) rfl rfl rfl ⟨(Nat.le_of_ble_eq_true rfl), (Nat.le_of_ble_eq_true rfl)⟩ (Nat.le_of_ble_eq_true rfl) ⟨(Nat.le_of_ble_eq_true rfl), (Nat.le_of_ble_eq_true rfl)⟩ ?_
              rintro _ _ ⟨rfl, rfl⟩
              refine a_callV ok_X11_weighedOwn ln_X11_230 in_X11_weighedOwn rfl 95 dX11_share_92 rfl (wg_own w1 o (o.yw hj)) (by repeat (first | assumption | (refine rg_ne (by first | decide | omega) ?_) | apply rg_eq | refine rg_fr (by assumption) (by first | decide | (simp; omega)) ?_)) rfl rfl rfl ⟨(Nat.le_of_ble_eq_true rfl), (Nat.le_of_ble_eq_true rfl)⟩ (Nat.le_of_ble_eq_true rfl) ⟨(Nat.le_of_ble_eq_true rfl), (Nat.le_of_ble_eq_true rfl)⟩ ?_
              rintro _ _ ⟨rfl, rfl⟩
              refine a_goto 106 dX11_share_95 (by decide) ?_
              refine a_istore 108 dX11_share_106 rfl (by decide) ?_
              refine a_iload 110 dX11_share_108 rfl rfl ?_
              refine a_iload 112 dX11_share_110 rfl rfl ?_
              refine a_iload 114 dX11_share_112 rfl rfl ?_
              refine a_callS ok_X11_leastTerm ln_X11_233 is_X11_leastTerm rfl 117 dX11_share_114 rfl (k_X11_leastTerm (by omega) (by omega) (Nat.pos_of_ne_zero (fun e => (Int32.not_le.mpr c_70) (hle.mpr e))) w) rfl rfl ⟨(Nat.le_of_ble_eq_true rfl), (Nat.le_of_ble_eq_true rfl)⟩ (Nat.le_of_ble_eq_true rfl) ⟨(Nat.le_of_ble_eq_true rfl), (Nat.le_of_ble_eq_true rfl)⟩ ?_
              rintro _ _ ⟨rfl, rfl⟩
              exact a_lreturn dX11_share_117 rfl (Nat.le_of_ble_eq_true rfl) (Nat.le_of_ble_eq_true rfl) ⟨by rw [ea, if_pos ⟨Or.inr c_52, fun e => (Int32.not_le.mpr c_70) (hle.mpr e)⟩], qa, kp_mono (kp_fr hf1) (by decide)⟩
            · refine a_ldc2 (-9223372036854775808) 76 dX11_share_73 rfl lk_X11_224 ?_
              exact a_lreturn dX11_share_76 rfl (Nat.le_of_ble_eq_true rfl) (Nat.le_of_ble_eq_true rfl) ⟨by rw [ea, if_neg (fun z => z.2 (hle.mp (Int32.not_lt.mp c_70)))]; rfl, qa, kp_mono (kp_fr hf1) (by decide)⟩
          · refine a_ldc2 (-9223372036854775808) 58 dX11_share_55 rfl lk_X11_224 ?_
            exact a_lreturn dX11_share_58 rfl (Nat.le_of_ble_eq_true rfl) (Nat.le_of_ble_eq_true rfl) ⟨by rw [ea, if_neg (fun z => by rcases z.1 with z | z; exact c_46 z; exact c_52 z)]; rfl, qa, kp_mono (kp_fr hf1) (by decide)⟩
      · rcases oT_cases (n := T.ny) (by omega) i with ⟨e3, hd⟩ | ⟨k, hk, rfl, e3⟩
        · have ea : aShare T (nI z) (nI j) i w = lost64 := by unfold aShare; rw [e, e2]; dsimp only; rw [if_neg hi, e3]; rfl
          refine rM_start (by decide) (Nat.le_of_ble_eq_true rfl) ?_
          refine a_aload_n 1 dX11_share_0 rfl rfl ?_
          refine a_iload_n 2 dX11_share_1 rfl rfl ?_
          refine a_callV ok_X11_weighedLaw ln_X11_217 in_X11_weighedLaw rfl 5 dX11_share_2 rfl (k_X11_weighedLaw q.1 o q.2.1 hz) (by repeat (first | assumption | (refine rg_ne (by first | decide | omega) ?_) | apply rg_eq | refine rg_fr (by assumption) (by first | decide | (simp; omega)) ?_)) rfl rfl rfl ⟨(Nat.le_of_ble_eq_true rfl), (Nat.le_of_ble_eq_true rfl)⟩ (Nat.le_of_ble_eq_true rfl) ⟨(Nat.le_of_ble_eq_true rfl), (Nat.le_of_ble_eq_true rfl)⟩ ?_
          rintro h1 _ ⟨rfl, w1, hf1⟩
          have hy1 := w1.1.1
          have r1 := (wg_row w1).1
          have qa := wg_all q w1 hf1
          refine a_astore 7 dX11_share_5 rfl (by decide) ?_
          refine a_aload 9 dX11_share_7 rfl rfl ?_
          refine a_ifnull 12 dX11_share_9 rfl ?_
          refine a_aload_n 13 dX11_share_12 rfl rfl ?_
          refine a_get fd_X11_53 rfl 16 dX11_share_13 rfl (by repeat (first | assumption | (refine rg_ne (by first | decide | omega) ?_) | apply rg_eq | refine rg_fr (by assumption) (by first | decide | (simp; omega)) ?_)) rfl ?_
          refine a_iload_n 17 dX11_share_16 rfl rfl ?_
          refine a_callV ok_X10_has ln_X11_208 in_X10_has rfl 20 dX11_share_17 rfl (c_has w1.1 (nI j)) (by repeat (first | assumption | (refine rg_ne (by first | decide | omega) ?_) | apply rg_eq | refine rg_fr (by assumption) (by first | decide | (simp; omega)) ?_)) rfl rfl rfl ⟨(Nat.le_of_ble_eq_true rfl), (Nat.le_of_ble_eq_true rfl)⟩ (Nat.le_of_ble_eq_true rfl) ⟨(Nat.le_of_ble_eq_true rfl), (Nat.le_of_ble_eq_true rfl)⟩ ?_
          rintro _ _ ⟨rfl, rfl⟩
          refine a_if_eq 40 23 dX11_share_20 rfl (by decide) (fun c_20 => absurd c_20 (by rw [if_pos (oT_yes hj (by omega))]; decide)) (fun c_20 => ?_)
          refine a_iload_n 24 dX11_share_23 rfl rfl ?_
          refine a_bipush (-9) 26 dX11_share_24 rfl (by decide) ?_
          refine a_icmp_eq 44 29 dX11_share_26 rfl (by decide) (fun c_26 => absurd c_26 hi) (fun c_26 => ?_)
          refine a_aload_n 30 dX11_share_29 rfl rfl ?_
          refine a_get fd_X11_53 rfl 33 dX11_share_30 rfl (by repeat (first | assumption | (refine rg_ne (by first | decide | omega) ?_) | apply rg_eq | refine rg_fr (by assumption) (by first | decide | (simp; omega)) ?_)) rfl ?_
          refine a_iload_n 34 dX11_share_33 rfl rfl ?_
          refine a_callV ok_X10_has ln_X11_208 in_X10_has rfl 37 dX11_share_34 rfl (c_has w1.1 i) (by repeat (first | assumption | (refine rg_ne (by first | decide | omega) ?_) | apply rg_eq | refine rg_fr (by assumption) (by first | decide | (simp; omega)) ?_)) rfl rfl rfl ⟨(Nat.le_of_ble_eq_true rfl), (Nat.le_of_ble_eq_true rfl)⟩ (Nat.le_of_ble_eq_true rfl) ⟨(Nat.le_of_ble_eq_true rfl), (Nat.le_of_ble_eq_true rfl)⟩ ?_
          rintro _ _ ⟨rfl, rfl⟩
          refine a_if_ne 44 40 dX11_share_37 rfl (by decide) (fun c_37 => absurd (if_neg hd) c_37) (fun c_37 => ?_)
          refine a_ldc2 (-9223372036854775808) 43 dX11_share_40 rfl lk_X11_224 ?_
          exact a_lreturn dX11_share_43 rfl (Nat.le_of_ble_eq_true rfl) (Nat.le_of_ble_eq_true rfl) ⟨by rw [ea]; rfl, qa, kp_mono (kp_fr hf1) (by decide)⟩
        · have hsr := src_lt o (j := j) (i := k) hz
          have ea : aShare T (nI z) (nI j) (nI k) w = if (w = 0 ∨ w = 1) ∧ ¬ T.all z j = 0 then tolN (T.src z j k) (T.all z j) w else lost64 := by unfold aShare; rw [e, e2]; dsimp only; rw [if_neg hi, e3]; rfl
          refine rM_start (by decide) (Nat.le_of_ble_eq_true rfl) ?_
          refine a_aload_n 1 dX11_share_0 rfl rfl ?_
          refine a_iload_n 2 dX11_share_1 rfl rfl ?_
          refine a_callV ok_X11_weighedLaw ln_X11_217 in_X11_weighedLaw rfl 5 dX11_share_2 rfl (k_X11_weighedLaw q.1 o q.2.1 hz) (by repeat (first | assumption | (refine rg_ne (by first | decide | omega) ?_) | apply rg_eq | refine rg_fr (by assumption) (by first | decide | (simp; omega)) ?_)) rfl rfl rfl ⟨(Nat.le_of_ble_eq_true rfl), (Nat.le_of_ble_eq_true rfl)⟩ (Nat.le_of_ble_eq_true rfl) ⟨(Nat.le_of_ble_eq_true rfl), (Nat.le_of_ble_eq_true rfl)⟩ ?_
          rintro h1 _ ⟨rfl, w1, hf1⟩
          have hy1 := w1.1.1
          have r1 := (wg_row w1).1
          have qa := wg_all q w1 hf1
          refine a_astore 7 dX11_share_5 rfl (by decide) ?_
          refine a_aload 9 dX11_share_7 rfl rfl ?_
          refine a_ifnull 12 dX11_share_9 rfl ?_
          refine a_aload_n 13 dX11_share_12 rfl rfl ?_
          refine a_get fd_X11_53 rfl 16 dX11_share_13 rfl (by repeat (first | assumption | (refine rg_ne (by first | decide | omega) ?_) | apply rg_eq | refine rg_fr (by assumption) (by first | decide | (simp; omega)) ?_)) rfl ?_
          refine a_iload_n 17 dX11_share_16 rfl rfl ?_
          refine a_callV ok_X10_has ln_X11_208 in_X10_has rfl 20 dX11_share_17 rfl (c_has w1.1 (nI j)) (by repeat (first | assumption | (refine rg_ne (by first | decide | omega) ?_) | apply rg_eq | refine rg_fr (by assumption) (by first | decide | (simp; omega)) ?_)) rfl rfl rfl ⟨(Nat.le_of_ble_eq_true rfl), (Nat.le_of_ble_eq_true rfl)⟩ (Nat.le_of_ble_eq_true rfl) ⟨(Nat.le_of_ble_eq_true rfl), (Nat.le_of_ble_eq_true rfl)⟩ ?_
          rintro _ _ ⟨rfl, rfl⟩
          refine a_if_eq 40 23 dX11_share_20 rfl (by decide) (fun c_20 => absurd c_20 (by rw [if_pos (oT_yes hj (by omega))]; decide)) (fun c_20 => ?_)
          refine a_iload_n 24 dX11_share_23 rfl rfl ?_
          refine a_bipush (-9) 26 dX11_share_24 rfl (by decide) ?_
          refine a_icmp_eq 44 29 dX11_share_26 rfl (by decide) (fun c_26 => absurd c_26 hi) (fun c_26 => ?_)
          refine a_aload_n 30 dX11_share_29 rfl rfl ?_
          refine a_get fd_X11_53 rfl 33 dX11_share_30 rfl (by repeat (first | assumption | (refine rg_ne (by first | decide | omega) ?_) | apply rg_eq | refine rg_fr (by assumption) (by first | decide | (simp; omega)) ?_)) rfl ?_
          refine a_iload_n 34 dX11_share_33 rfl rfl ?_
          refine a_callV ok_X10_has ln_X11_208 in_X10_has rfl 37 dX11_share_34 rfl (c_has w1.1 (nI k)) (by repeat (first | assumption | (refine rg_ne (by first | decide | omega) ?_) | apply rg_eq | refine rg_fr (by assumption) (by first | decide | (simp; omega)) ?_)) rfl rfl rfl ⟨(Nat.le_of_ble_eq_true rfl), (Nat.le_of_ble_eq_true rfl)⟩ (Nat.le_of_ble_eq_true rfl) ⟨(Nat.le_of_ble_eq_true rfl), (Nat.le_of_ble_eq_true rfl)⟩ ?_
          rintro _ _ ⟨rfl, rfl⟩
          refine a_if_ne 44 40 dX11_share_37 rfl (by decide) (fun c_37 => ?_) (fun c_37 => absurd c_37 (by rw [if_pos (oT_yes hk (by omega))]; decide))
          refine a_iload 46 dX11_share_44 rfl rfl ?_
          refine a_if_eq 59 49 dX11_share_46 rfl (by decide) (fun c_46 => ?_) (fun c_46 => ?_)
          · refine a_aload_n 60 dX11_share_59 rfl rfl ?_
            refine a_aload 62 dX11_share_60 rfl rfl ?_
            refine a_iload_n 63 dX11_share_62 rfl rfl ?_
            refine a_callV ok_X11_wholeMight ln_X11_226 in_X11_wholeMight rfl 66 dX11_share_63 rfl (k_X11_wholeMight w1 o hj) (by repeat (first | assumption | (refine rg_ne (by first | decide | omega) ?_) | apply rg_eq | refine rg_fr (by assumption) (by first | decide | (simp; omega)) ?_)) rfl rfl rfl ⟨(Nat.le_of_ble_eq_true rfl), (Nat.le_of_ble_eq_true rfl)⟩ (Nat.le_of_ble_eq_true rfl) ⟨(Nat.le_of_ble_eq_true rfl), (Nat.le_of_ble_eq_true rfl)⟩ ?_
            rintro _ _ ⟨rfl, rfl⟩
            refine a_istore 68 dX11_share_66 rfl (by decide) ?_
            refine a_iload 70 dX11_share_68 rfl rfl ?_
            refine a_if_gt 77 73 dX11_share_70 rfl (by decide) (fun c_70 => ?_) (fun c_70 => ?_)
            · refine a_iload_n 78 dX11_share_77 rfl rfl ?_
              refine a_bipush (-9) 80 dX11_share_78 rfl (by decide) ?_
              refine a_icmp_ne 98 83 dX11_share_80 rfl (by decide) (fun c_80 => ?_) (fun c_80 => absurd c_80 hi)
              refine a_aload_n 99 dX11_share_98 rfl rfl ?_
              refine a_aload 101 dX11_share_99 rfl rfl ?_
              refine a_iload_n 102 dX11_share_101 rfl rfl ?_
              refine a_iload_n 103 dX11_share_102 rfl rfl ?_
              refine a_callV ok_X11_sourceMight ln_X11_220 in_X11_sourceMight rfl 106 dX11_share_103 rfl (k_X11_sourceMight w1 o hj hk) (by repeat (first | assumption | (refine rg_ne (by first | decide | omega) ?_) | apply rg_eq | refine rg_fr (by assumption) (by first | decide | (simp; omega)) ?_)) rfl rfl rfl ⟨(Nat.le_of_ble_eq_true rfl), (Nat.le_of_ble_eq_true rfl)⟩ (Nat.le_of_ble_eq_true rfl) ⟨(Nat.le_of_ble_eq_true rfl), (Nat.le_of_ble_eq_true rfl)⟩ ?_
              rintro _ _ ⟨rfl, rfl⟩
              refine a_istore 108 dX11_share_106 rfl (by decide) ?_
              refine a_iload 110 dX11_share_108 rfl rfl ?_
              refine a_iload 112 dX11_share_110 rfl rfl ?_
              refine a_iload 114 dX11_share_112 rfl rfl ?_
              refine a_callS ok_X11_leastTerm ln_X11_233 is_X11_leastTerm rfl 117 dX11_share_114 rfl (k_X11_leastTerm (by omega) (by omega) (Nat.pos_of_ne_zero (fun e => (Int32.not_le.mpr c_70) (hle.mpr e))) w) rfl rfl ⟨(Nat.le_of_ble_eq_true rfl), (Nat.le_of_ble_eq_true rfl)⟩ (Nat.le_of_ble_eq_true rfl) ⟨(Nat.le_of_ble_eq_true rfl), (Nat.le_of_ble_eq_true rfl)⟩ ?_
              rintro _ _ ⟨rfl, rfl⟩
              exact a_lreturn dX11_share_117 rfl (Nat.le_of_ble_eq_true rfl) (Nat.le_of_ble_eq_true rfl) ⟨by rw [ea, if_pos ⟨Or.inl c_46, fun e => (Int32.not_le.mpr c_70) (hle.mpr e)⟩], qa, kp_mono (kp_fr hf1) (by decide)⟩
            · refine a_ldc2 (-9223372036854775808) 76 dX11_share_73 rfl lk_X11_224 ?_
              exact a_lreturn dX11_share_76 rfl (Nat.le_of_ble_eq_true rfl) (Nat.le_of_ble_eq_true rfl) ⟨by rw [ea, if_neg (fun z => z.2 (hle.mp (Int32.not_lt.mp c_70)))]; rfl, qa, kp_mono (kp_fr hf1) (by decide)⟩
          · refine a_iload 51 dX11_share_49 rfl rfl ?_
            refine a_iconst (1) 52 dX11_share_51 rfl (by decide) ?_
            refine a_icmp_eq 59 55 dX11_share_52 rfl (by decide) (fun c_52 => ?_) (fun c_52 => ?_)
            · refine a_aload_n 60 dX11_share_59 rfl rfl ?_
              refine a_aload 62 dX11_share_60 rfl rfl ?_
              refine a_iload_n 63 dX11_share_62 rfl rfl ?_
              refine a_callV ok_X11_wholeMight ln_X11_226 in_X11_wholeMight rfl 66 dX11_share_63 rfl (k_X11_wholeMight w1 o hj) (by repeat (first | assumption | (refine rg_ne (by first | decide | omega) ?_) | apply rg_eq | refine rg_fr (by assumption) (by first | decide | (simp; omega)) ?_)) rfl rfl rfl ⟨(Nat.le_of_ble_eq_true rfl), (Nat.le_of_ble_eq_true rfl)⟩ (Nat.le_of_ble_eq_true rfl) ⟨(Nat.le_of_ble_eq_true rfl), (Nat.le_of_ble_eq_true rfl)⟩ ?_
              rintro _ _ ⟨rfl, rfl⟩
              refine a_istore 68 dX11_share_66 rfl (by decide) ?_
              refine a_iload 70 dX11_share_68 rfl rfl ?_
              refine a_if_gt 77 73 dX11_share_70 rfl (by decide) (fun c_70 => ?_) (fun c_70 => ?_)
              · refine a_iload_n 78 dX11_share_77 rfl rfl ?_
                refine a_bipush (-9) 80 dX11_share_78 rfl (by decide) ?_
                refine a_icmp_ne 98 83 dX11_share_80 rfl (by decide) (fun c_80 => ?_) (fun c_80 => absurd c_80 hi)
                refine a_aload_n 99 dX11_share_98 rfl rfl ?_
                refine a_aload 101 dX11_share_99 rfl rfl ?_
                refine a_iload_n 102 dX11_share_101 rfl rfl ?_
                refine a_iload_n 103 dX11_share_102 rfl rfl ?_
                refine a_callV ok_X11_sourceMight ln_X11_220 in_X11_sourceMight rfl 106 dX11_share_103 rfl (k_X11_sourceMight w1 o hj hk) (by repeat (first | assumption | (refine rg_ne (by first | decide | omega) ?_) | apply rg_eq | refine rg_fr (by assumption) (by first | decide | (simp; omega)) ?_)) rfl rfl rfl ⟨(Nat.le_of_ble_eq_true rfl), (Nat.le_of_ble_eq_true rfl)⟩ (Nat.le_of_ble_eq_true rfl) ⟨(Nat.le_of_ble_eq_true rfl), (Nat.le_of_ble_eq_true rfl)⟩ ?_
                rintro _ _ ⟨rfl, rfl⟩
                refine a_istore 108 dX11_share_106 rfl (by decide) ?_
                refine a_iload 110 dX11_share_108 rfl rfl ?_
                refine a_iload 112 dX11_share_110 rfl rfl ?_
                refine a_iload 114 dX11_share_112 rfl rfl ?_
                refine a_callS ok_X11_leastTerm ln_X11_233 is_X11_leastTerm rfl 117 dX11_share_114 rfl (k_X11_leastTerm (by omega) (by omega) (Nat.pos_of_ne_zero (fun e => (Int32.not_le.mpr c_70) (hle.mpr e))) w) rfl rfl ⟨(Nat.le_of_ble_eq_true rfl), (Nat.le_of_ble_eq_true rfl)⟩ (Nat.le_of_ble_eq_true rfl) ⟨(Nat.le_of_ble_eq_true rfl), (Nat.le_of_ble_eq_true rfl)⟩ ?_
                rintro _ _ ⟨rfl, rfl⟩
                exact a_lreturn dX11_share_117 rfl (Nat.le_of_ble_eq_true rfl) (Nat.le_of_ble_eq_true rfl) ⟨by rw [ea, if_pos ⟨Or.inr c_52, fun e => (Int32.not_le.mpr c_70) (hle.mpr e)⟩], qa, kp_mono (kp_fr hf1) (by decide)⟩
              · refine a_ldc2 (-9223372036854775808) 76 dX11_share_73 rfl lk_X11_224 ?_
                exact a_lreturn dX11_share_76 rfl (Nat.le_of_ble_eq_true rfl) (Nat.le_of_ble_eq_true rfl) ⟨by rw [ea, if_neg (fun z => z.2 (hle.mp (Int32.not_lt.mp c_70)))]; rfl, qa, kp_mono (kp_fr hf1) (by decide)⟩
            · refine a_ldc2 (-9223372036854775808) 58 dX11_share_55 rfl lk_X11_224 ?_
              exact a_lreturn dX11_share_58 rfl (Nat.le_of_ble_eq_true rfl) (Nat.le_of_ble_eq_true rfl) ⟨by rw [ea, if_neg (fun z => by rcases z.1 with z | z; exact c_46 z; exact c_52 z)]; rfl, qa, kp_mono (kp_fr hf1) (by decide)⟩
end CPUB3
