/-! THE CLASS: carriage, blind -/
abbrev codeT (T : Tn) (z a : Nat) : Nat → Int32 := fun p => T.ce z (a + p)
theorem refF_ok {T : Tn} (o : T.ok) {c d i n : Int32} (h : (refF T c d i n).1 = 0) : ∃ z a N, z < 4 ∧ c = nI z ∧ oT 4 c = some z ∧ i = nI a ∧ n = nI N ∧ a + N ≤ T.sz z ∧ (refF T c d i n).2 = 0 ∧ T.has z = true ∧ T.ln z = d := by
  rcases oT_cases (n := 4) (by decide) c with ⟨e, hc⟩ | ⟨z, hz, rfl, e⟩
  · unfold refF at h; rw [e] at h; exact absurd h (show ¬ (-1 : Int32) = 0 by decide)
  · have er : refF T (nI z) d i n = if laneI d then (if T.has z then (if T.ln z = d then (if n < 0 then (-14, 4) else if hasC (T.sz z) i n then (0, 0) else (-13, 3)) else (-12, 2)) else (-11, 1)) else (-2, 0) := by unfold refF; rw [e]
    rw [er] at h ⊢
    by_cases h1 : laneI d
    · rw [if_pos h1] at h ⊢
      by_cases h2 : T.has z = true
      · rw [if_pos h2] at h ⊢
        by_cases h3 : T.ln z = d
        · rw [if_pos h3] at h ⊢
          by_cases h4 : n < 0
          · rw [if_pos h4] at h; exact absurd h (show ¬ (-14 : Int32) = 0 by decide)
          · rw [if_neg h4] at h ⊢
            by_cases h5 : hasC (T.sz z) i n
            · rw [if_pos h5]
              obtain ⟨a, b, e1, e2, e3⟩ := hasC_N (o.sz60 hz) h5
              exact ⟨z, a, b, hz, rfl, e, e1, e2, e3, rfl, h2, h3⟩
            · rw [if_neg h5] at h; exact absurd h (show ¬ (-13 : Int32) = 0 by decide)
        · rw [if_neg h3] at h; exact absurd h (show ¬ (-12 : Int32) = 0 by decide)
      · rw [if_neg h2] at h; exact absurd h (show ¬ (-11 : Int32) = 0 by decide)
    · rw [if_neg h1] at h; exact absurd h (show ¬ (-2 : Int32) = 0 by decide)
abbrev newCar (T : Tn) (code : Nat → Int32) (le wi : Nat) (mir : Bool) : Tn := (((fun k w => if k < le * wi then besN wi le k w else T.nb k w), zB T.B 64, wi, le, mir, (fun c => if c < 32 then (if c < le * wi then (faceBI (code (carK mir + c))).toNatClampNeg else 0) else T.face c)), (0, T.kd, T.se, T.sl, T.ki, T.pa), T.2.2.1, (0, T.ym, T.yw), T.2.2.2.2.1, 0, T.tr)
def carR (T : Tn) (code : Nat → Int32) (X : Sum Nat (Nat × Nat × Bool)) : Int32 × Tn := match X with
  | .inl p => (-100 - nI p, setFT T 0 T.tr)
  | .inr (le, wi, mir) => (nI (le * wi), newCar T code le wi mir)
def aCar (T : Tn) (c d i n : Int32) : Int32 × Tn := if (refF T c d i n).1 = 0 then (match oT 4 c with
    | some z => carR T (codeT T z i.toNatClampNeg) (carS (codeT T z i.toNatClampNeg) n.toNatClampNeg)
    | none => (0, T)) else ((refF T c d i n).1, setFT T (refF T c d i n).2 T.tr)
theorem sum_zB (B : Nat → Int32) : ∀ k, k ≤ 64 → sumN (fun g => if zB B 64 g = 0 then 0 else 1) k = 0
  | 0, _ => rfl
  | k + 1, hk => by
    rw [sumN, sum_zB B k (by omega), show zB B 64 k = 0 from if_pos (by omega)]
    rfl
theorem all_txt {G : rG} {h h' : rH} {T : Tn} {s : ctS} (q : cAll G h T) (e : ctAt G h' s) (hf : fr h h' [2, 3]) : cAll G h' T := by
  obtain ⟨⟨h0, h1, ⟨s2, t1, t2, t3⟩, h3, h4, h5, h6, h7⟩, q2, q3⟩ := q
  have hk := kp_fr hf
  exact ⟨⟨kp_get hk (by decide) h0, ⟨s, e⟩, ⟨s2, kp_get hk (by decide) t1, kp_get hk (by decide) t2, kp_get hk (by decide) t3⟩, h3.kp hk (by decide), h4.kp hk (by decide), h5.kp hk (by decide), h6.kp hk (by decide), h7.kp hk (by decide)⟩, q2.kp hk (by decide), q3.kp hk (by decide)⟩
theorem car_new {G : rG} {h h3 : rH} {T : Tn} {code : Nat → Int32} {le wi : Nat} {mir : Bool} {f4 s4 L4 fb : Nat → Int32} (q : cAll G h (setFT T 0 T.tr)) (l2 : le < 9) (w2 : wi < 5) (hc : ccAt G h3 (nI wi) (nI (le * wi)) (bI mir) 0 f4 s4 L4 (zB T.B 64)) (hx : ∀ c, c < 32 → f4 c = fb c ∧ s4 c = -9) (hl : isLns (nI wi) (nI (le * wi)) (bI mir) (zB T.B 64) f4 L4 (le * wi)) (hfb : ∀ j, j < le * wi → fb j = faceBI (code (carK mir + j)) ∧ 0 ≤ faceBI (code (carK mir + j))) (hf : fr h h3 [7, 8, 9, 10, 11]) : cAll G ((h3.set 0 (ytc G 0 (nI T.nl) 0 T.tr)).set 14 (.inr (9, [.ref (gN G + 15), .ref (gN G + 16), .int 0]))) (newCar T code le wi mir) := by
  obtain ⟨⟨h0, t1, t2, h3', h4, h5, h6, h7⟩, q2, q3⟩ := q
  have hlw : le * wi ≤ 8 * 4 := Nat.mul_le_mul (by omega) (by omega)
  have hk : kp h ((h3.set 0 (ytc G 0 (nI T.nl) 0 T.tr)).set 14 (.inr (9, [.ref (gN G + 15), .ref (gN G + 16), .int 0]))) [0, 7, 8, 9, 10, 11, 14] := kp_fr (fr_set (fr_set (fr_mono hf (by decide)) (by decide)) (by decide))
  have tt := cTxt.kp ⟨t1, t2⟩ hk (by decide)
  obtain ⟨g7, g8, g9, g10, g11⟩ := hc
  have hface : ∀ c, c < le * wi → f4 c = nI (faceBI (code (carK mir + c))).toNatClampNeg := by
    intro c hcn
    rw [(hx c (by omega)).1, (hfb c hcn).1]
    rcases faceBI_cases (code (carK mir + c)) with e | ⟨k, hk, e⟩
    · exact absurd (hfb c hcn).2 ((faceBI_n _).mpr e)
    · rw [e, nI_clamp (by omega)]
  have hfc : ∀ c, c < le * wi → f4 c = nI ((newCar T code le wi mir).face c) := by
    intro c hcn
    show f4 c = nI (if c < 32 then (if c < le * wi then (faceBI (code (carK mir + c))).toNatClampNeg else 0) else T.face c)
    rw [if_pos (by omega), if_pos hcn]
    exact hface c hcn
  obtain ⟨r14, ⟨fy, r15, -⟩, gy, r16, -⟩ := h6
  obtain ⟨p, hp, -⟩ := h4
  refine ⟨⟨rg_ne (by decide) (rg_eq (rg_fr hf (by decide) h0)), tt.1, tt.2, ⟨f4, s4, L4, ⟨?_, rg_ne (by decide) (rg_ne (by decide) g8), rg_ne (by decide) (rg_ne (by decide) g9), rg_ne (by decide) (rg_ne (by decide) g10), rg_ne (by decide) (rg_ne (by decide) g11)⟩, hfc, fun c hc => (hx c (Nat.lt_of_lt_of_le hc hlw)).2, fun c hcn => ?_⟩, ⟨p, kp_get hk (by decide) hp, fun x hx => absurd hx (Nat.not_lt_zero x)⟩, h5.kp hk (by decide), ⟨rg_eq (rg_ne (by decide) (rg_fr hf (by decide) r14)), ⟨fy, kp_get hk (by decide) r15, fun x hx => absurd hx (Nat.not_lt_zero x)⟩, gy, kp_get hk (by decide) r16, fun x hx => absurd hx (Nat.not_lt_zero x)⟩, h7.kp hk (by decide)⟩, q2.kp hk (by decide), q3.kp hk (by decide)⟩
  · have e0 : nI (sumN (fun g => if zB T.B 64 g = 0 then 0 else 1) 64) = 0 := by rw [sum_zB T.B 64 (by omega)]; rfl
    show _ = some (Sum.inr (1, [Value.ref (gN G + 8), Value.ref (gN G + 9), Value.ref (gN G + 10), Value.ref (gN G + 11), Value.int (nI wi), Value.int (nI (le * wi)), Value.int (bI mir), Value.int (nI (sumN (fun g => if zB T.B 64 g = 0 then 0 else 1) 64))]))
    rw [e0]
    exact rg_ne (by decide) (rg_ne (by decide) g7)
  · rw [hl c hcn, hfc c hcn]
section CAR3
variable {l : Launch} {G : rG} {h : rH} {T : Tn}
set_option maxRecDepth 100000 in
set_option maxHeartbeats 400000 in
theorem c_carriage (q : cAll G h T) (o : T.ok) (c d i n : Int32) : rM l G 12 mX11_carriage 0 0 [.ref (gN G + 0), .int c, .int d, .int i, .int n] h (fun h' v => v = some (.int (aCar T c d i n).1) ∧ cAll G h' (aCar T c d i n).2 ∧ kp h h' cL) := by
  have hy := q.1.1
  by_cases hr : (refF T c d i n).1 = 0
  · obtain ⟨z, a, N, hz, rfl, ez, rfl, rfl, haN, er, -, -⟩ := refF_ok o hr
    have hsz := o.sz60 hz
    have ea : aCar T (nI z) d (nI a) (nI N) = carR T (codeT T z a) (carS (codeT T z a) N) := by
      unfold aCar
      rw [if_pos hr, ez, nI_clamp (by omega), nI_clamp (by omega)]
    have hrc := c_refusal (l := l) q (nI z) d (nI a) (nI N)
    rw [hr, er] at hrc
    have hW := fun fa => ctGo_carS (code := codeT T z a) (N := N) (by omega) fa
    cases hX : carS (codeT T z a) N with
    | inl p =>
      rw [hX] at ea
      have ea1 : aCar T (nI z) d (nI a) (nI N) = (-100 - nI p, setFT T 0 T.tr) := ea
      have hW2 : ∀ fa, ctAns N (ctGo (codeT T z a) N 0 (0, 0, 0, 0, 0, fa)) = nI p ∧ p ≤ 60 := fun fa => by have := hW fa; rw [hX] at this; exact this
      rw [ea1]
      refine rM_start (by decide) (Nat.le_of_ble_eq_true rfl) ?_
      refine a_aload_n 1 dX11_carriage_0 rfl rfl ?_
      refine a_iload_n 2 dX11_carriage_1 rfl rfl ?_
      refine a_iload_n 3 dX11_carriage_2 rfl rfl ?_
      refine a_iload_n 4 dX11_carriage_3 rfl rfl ?_
      refine a_iload 6 dX11_carriage_4 rfl rfl ?_
      refine a_callV ok_X11_refusalOfCells ln_X11_82 in_X11_refusalOfCells rfl 9 dX11_carriage_6 rfl (hrc) (by repeat (first | assumption | (refine rg_ne (by first | decide | omega) ?_) | apply rg_eq | refine rg_fr (by assumption) (by first | decide | (simp; omega)) ?_)) rfl rfl rfl ⟨(Nat.le_of_ble_eq_true rfl), (Nat.le_of_ble_eq_true rfl)⟩ (Nat.le_of_ble_eq_true rfl) ⟨(Nat.le_of_ble_eq_true rfl), (Nat.le_of_ble_eq_true rfl)⟩ ?_
      rintro h1 _ ⟨rfl, q1, hf1⟩
      have hy1 := q1.1.1
      obtain ⟨hs, f, hf, hfx⟩ := sh_at q1 hz
      obtain ⟨s0, hs0⟩ := q1.1.2.1
      have ht2 := hs0.1
      refine a_istore 11 dX11_carriage_9 rfl (by decide) ?_
      refine a_iload 13 dX11_carriage_11 rfl rfl ?_
      refine a_if_eq 19 16 dX11_carriage_13 rfl (by decide) (fun c_13 => ?_) (fun c_13 => absurd rfl c_13)
      refine a_aload_n 20 dX11_carriage_19 rfl rfl ?_
      refine a_get fd_X11_20 rfl 23 dX11_carriage_20 rfl (by repeat (first | assumption | (refine rg_ne (by first | decide | omega) ?_) | apply rg_eq | refine rg_fr (by assumption) (by first | decide | (simp; omega)) ?_)) rfl ?_
      refine a_aload_n 24 dX11_carriage_23 rfl rfl ?_
      refine a_iload_n 25 dX11_carriage_24 rfl rfl ?_
      refine a_callV ok_X11_sheetAt ln_X11_86 in_X11_sheetAt rfl 28 dX11_carriage_25 rfl (c_sheet q1.1 hz) (by repeat (first | assumption | (refine rg_ne (by first | decide | omega) ?_) | apply rg_eq | refine rg_fr (by assumption) (by first | decide | (simp; omega)) ?_)) rfl rfl rfl ⟨(Nat.le_of_ble_eq_true rfl), (Nat.le_of_ble_eq_true rfl)⟩ (Nat.le_of_ble_eq_true rfl) ⟨(Nat.le_of_ble_eq_true rfl), (Nat.le_of_ble_eq_true rfl)⟩ ?_
      rintro _ _ ⟨rfl, rfl⟩
      refine a_iload_n 29 dX11_carriage_28 rfl rfl ?_
      refine a_iload 31 dX11_carriage_29 rfl rfl ?_
      refine a_callU ok_X9_firstFault cu_X11_90_X2 rfl 34 dX11_carriage_31 rfl (k_X9_ffC hs0 (by simp; omega) (by simp; omega) hs hf (by omega) (fun p hp => hfx (a + p) (by exact Nat.lt_of_lt_of_le (Nat.add_lt_add_left hp a) haN))) (by repeat (first | assumption | (refine rg_ne (by first | decide | omega) ?_) | apply rg_eq | refine rg_fr (by assumption) (by first | decide | (simp; omega)) ?_)) rfl rfl rfl ⟨(Nat.le_of_ble_eq_true rfl), (Nat.le_of_ble_eq_true rfl)⟩ (Nat.le_of_ble_eq_true rfl) ⟨(Nat.le_of_ble_eq_true rfl), (Nat.le_of_ble_eq_true rfl)⟩ ?_
      rintro h2 _ ⟨rfl, hs2, hf2⟩
      have hA := (hW2 s0.2.2.2.2.2).1
      have hp60 := (hW2 s0.2.2.2.2.2).2
      have q2 : cAll G h2 (setFT T 0 T.tr) := all_txt q1 hs2 hf2
      rw [show ctAns N (ctGo (fun p => (setFT T 0 T.tr).ce z (a + p)) N 0 (0, 0, 0, 0, 0, s0.2.2.2.2.2)) = nI p from hA]
      refine a_istore 36 dX11_carriage_34 rfl (by decide) ?_
      refine a_iload 38 dX11_carriage_36 rfl rfl ?_
      refine a_if_lt 47 41 dX11_carriage_38 rfl (by decide) (fun c_38 => absurd c_38 (nI_pos (by omega))) (fun c_38 => ?_)
      refine a_bipush (-100) 43 dX11_carriage_41 rfl (by decide) ?_
      refine a_iload 45 dX11_carriage_43 rfl rfl ?_
      refine a_isub 46 dX11_carriage_45 rfl ?_
      exact a_ireturn dX11_carriage_46 rfl rfl (Nat.le_of_ble_eq_true rfl) (Nat.le_of_ble_eq_true rfl) ⟨rfl, q2, kp_mono (kp_fr (fr_trans (fr_mono hf1 (T := [0, 2, 3]) (by decide)) hf2 (by decide))) (by decide)⟩
    | inr y =>
      obtain ⟨le, wi, mir⟩ := y
      rw [hX] at ea
      have ea1 : aCar T (nI z) d (nI a) (nI N) = (nI (le * wi), newCar T (codeT T z a) le wi mir) := ea
      have hW2 : ∀ fa, ctAns N (ctGo (codeT T z a) N 0 (0, 0, 0, 0, 0, fa)) = -9 ∧ 1 ≤ le ∧ le < 9 ∧ 1 ≤ wi ∧ wi < 5 ∧ ∃ fb, (ctGo (codeT T z a) N 0 (0, 0, 0, 0, 0, fa)).1 = (5, nI le, nI wi, bI mir, nI (le * wi), fb) ∧ ∀ j, j < le * wi → fb j = faceBI (codeT T z a (carK mir + j)) ∧ 0 ≤ faceBI (codeT T z a (carK mir + j)) := fun fa => by have := hW fa; rw [hX] at this; exact this
      rw [ea1]
      refine rM_start (by decide) (Nat.le_of_ble_eq_true rfl) ?_
      refine a_aload_n 1 dX11_carriage_0 rfl rfl ?_
      refine a_iload_n 2 dX11_carriage_1 rfl rfl ?_
      refine a_iload_n 3 dX11_carriage_2 rfl rfl ?_
      refine a_iload_n 4 dX11_carriage_3 rfl rfl ?_
      refine a_iload 6 dX11_carriage_4 rfl rfl ?_
      refine a_callV ok_X11_refusalOfCells ln_X11_82 in_X11_refusalOfCells rfl 9 dX11_carriage_6 rfl (hrc) (by repeat (first | assumption | (refine rg_ne (by first | decide | omega) ?_) | apply rg_eq | refine rg_fr (by assumption) (by first | decide | (simp; omega)) ?_)) rfl rfl rfl ⟨(Nat.le_of_ble_eq_true rfl), (Nat.le_of_ble_eq_true rfl)⟩ (Nat.le_of_ble_eq_true rfl) ⟨(Nat.le_of_ble_eq_true rfl), (Nat.le_of_ble_eq_true rfl)⟩ ?_
      rintro h1 _ ⟨rfl, q1, hf1⟩
      have hy1 := q1.1.1
      obtain ⟨hs, f, hf, hfx⟩ := sh_at q1 hz
      obtain ⟨s0, hs0⟩ := q1.1.2.1
      have ht2 := hs0.1
      refine a_istore 11 dX11_carriage_9 rfl (by decide) ?_
      refine a_iload 13 dX11_carriage_11 rfl rfl ?_
      refine a_if_eq 19 16 dX11_carriage_13 rfl (by decide) (fun c_13 => ?_) (fun c_13 => absurd rfl c_13)
      refine a_aload_n 20 dX11_carriage_19 rfl rfl ?_
      refine a_get fd_X11_20 rfl 23 dX11_carriage_20 rfl (by repeat (first | assumption | (refine rg_ne (by first | decide | omega) ?_) | apply rg_eq | refine rg_fr (by assumption) (by first | decide | (simp; omega)) ?_)) rfl ?_
      refine a_aload_n 24 dX11_carriage_23 rfl rfl ?_
      refine a_iload_n 25 dX11_carriage_24 rfl rfl ?_
      refine a_callV ok_X11_sheetAt ln_X11_86 in_X11_sheetAt rfl 28 dX11_carriage_25 rfl (c_sheet q1.1 hz) (by repeat (first | assumption | (refine rg_ne (by first | decide | omega) ?_) | apply rg_eq | refine rg_fr (by assumption) (by first | decide | (simp; omega)) ?_)) rfl rfl rfl ⟨(Nat.le_of_ble_eq_true rfl), (Nat.le_of_ble_eq_true rfl)⟩ (Nat.le_of_ble_eq_true rfl) ⟨(Nat.le_of_ble_eq_true rfl), (Nat.le_of_ble_eq_true rfl)⟩ ?_
      rintro _ _ ⟨rfl, rfl⟩
      refine a_iload_n 29 dX11_carriage_28 rfl rfl ?_
      refine a_iload 31 dX11_carriage_29 rfl rfl ?_
      refine a_callU ok_X9_firstFault cu_X11_90_X2 rfl 34 dX11_carriage_31 rfl (k_X9_ffC hs0 (by simp; omega) (by simp; omega) hs hf (by omega) (fun p hp => hfx (a + p) (by exact Nat.lt_of_lt_of_le (Nat.add_lt_add_left hp a) haN))) (by repeat (first | assumption | (refine rg_ne (by first | decide | omega) ?_) | apply rg_eq | refine rg_fr (by assumption) (by first | decide | (simp; omega)) ?_)) rfl rfl rfl ⟨(Nat.le_of_ble_eq_true rfl), (Nat.le_of_ble_eq_true rfl)⟩ (Nat.le_of_ble_eq_true rfl) ⟨(Nat.le_of_ble_eq_true rfl), (Nat.le_of_ble_eq_true rfl)⟩ ?_
      rintro h2 _ ⟨rfl, hs2, hf2⟩
      have q2 : cAll G h2 (setFT T 0 T.tr) := all_txt q1 hs2 hf2
      have hy2 := q2.1.1
      obtain ⟨hA, l1, l2, w1, w2, fb, hE, hfb⟩ := hW2 s0.2.2.2.2.2
      have hlw : le * wi ≤ 8 * 4 := Nat.mul_le_mul (by omega) (by omega)
      have hn32 : le * wi ≤ 32 := hlw
      have hs3 : ctAt G h2 (5, nI le, nI wi, bI mir, nI (le * wi), fb) := by rw [← hE]; exact hs2
      have ht3 := hs3.1
      obtain ⟨f0, s1, L0, hcc, -⟩ := q2.1.2.2.2.1
      have g72 := hcc.1
      rw [show ctAns N (ctGo (fun p => (setFT T 0 T.tr).ce z (a + p)) N 0 (0, 0, 0, 0, 0, s0.2.2.2.2.2)) = -9 from hA]
      refine a_istore 36 dX11_carriage_34 rfl (by decide) ?_
      refine a_iload 38 dX11_carriage_36 rfl rfl ?_
      refine a_if_lt 47 41 dX11_carriage_38 rfl (by decide) (fun c_38 => ?_) (fun c_38 => absurd (by decide) c_38)
      refine a_aload_n 48 dX11_carriage_47 rfl rfl ?_
      refine a_get fd_X11_34 rfl 51 dX11_carriage_48 rfl (by repeat (first | assumption | (refine rg_ne (by first | decide | omega) ?_) | apply rg_eq | refine rg_fr (by assumption) (by first | decide | (simp; omega)) ?_)) rfl ?_
      refine a_aload_n 52 dX11_carriage_51 rfl rfl ?_
      refine a_get fd_X11_20 rfl 55 dX11_carriage_52 rfl (by repeat (first | assumption | (refine rg_ne (by first | decide | omega) ?_) | apply rg_eq | refine rg_fr (by assumption) (by first | decide | (simp; omega)) ?_)) rfl ?_
      refine a_callV ok_X1_build ln_X11_94 in_X1_build rfl 58 dX11_carriage_55 rfl (k_X1_build hcc hs3 hn32) (by repeat (first | assumption | (refine rg_ne (by first | decide | omega) ?_) | apply rg_eq | refine rg_fr (by assumption) (by first | decide | (simp; omega)) ?_)) rfl rfl rfl ⟨(Nat.le_of_ble_eq_true rfl), (Nat.le_of_ble_eq_true rfl)⟩ (Nat.le_of_ble_eq_true rfl) ⟨(Nat.le_of_ble_eq_true rfl), (Nat.le_of_ble_eq_true rfl)⟩ ?_
      rintro h3 _ ⟨rfl, ⟨f4, s4, L4, hc4, hx4, hl4⟩, hf3⟩
      have hy3 := rg_fr hf3 (by decide) hy2
      have r14 := rg_fr hf3 (by decide) q2.1.2.2.2.2.2.2.1.1
      have g74 := hc4.1
      refine a_aload_n 59 dX11_carriage_58 rfl rfl ?_
      refine a_iconst (0) 60 dX11_carriage_59 rfl (by decide) ?_
      refine a_put fd_X11_98 cl_X11 rfl 63 dX11_carriage_60 rfl (by repeat (first | assumption | (refine rg_ne (by first | decide | omega) ?_) | apply rg_eq | refine rg_fr (by assumption) (by first | decide | (simp; omega)) ?_)) (Nat.le_of_ble_eq_true rfl) rfl rfl rfl ?_
      refine a_aload_n 64 dX11_carriage_63 rfl rfl ?_
      refine a_get fd_X11_53 rfl 67 dX11_carriage_64 rfl (by repeat (first | assumption | (refine rg_ne (by first | decide | omega) ?_) | apply rg_eq | refine rg_fr (by assumption) (by first | decide | (simp; omega)) ?_)) rfl ?_
      refine a_callV ok_X10_clear ln_X11_102 in_X10_clear rfl 70 dX11_carriage_67 rfl (k_X10_clear (by exact rg_ne (by decide) r14)) (by repeat (first | assumption | (refine rg_ne (by first | decide | omega) ?_) | apply rg_eq | refine rg_fr (by assumption) (by first | decide | (simp; omega)) ?_)) rfl rfl rfl ⟨(Nat.le_of_ble_eq_true rfl), (Nat.le_of_ble_eq_true rfl)⟩ (Nat.le_of_ble_eq_true rfl) ⟨(Nat.le_of_ble_eq_true rfl), (Nat.le_of_ble_eq_true rfl)⟩ ?_
      rintro _ _ ⟨rfl, rfl⟩
      refine a_aload_n 71 dX11_carriage_70 rfl rfl ?_
      refine a_get fd_X11_34 rfl 74 dX11_carriage_71 rfl (by repeat (first | assumption | (refine rg_ne (by first | decide | omega) ?_) | apply rg_eq | refine rg_fr (by assumption) (by first | decide | (simp; omega)) ?_)) rfl ?_
      refine a_get fd_X11_105 rfl 77 dX11_carriage_74 rfl (by repeat (first | assumption | (refine rg_ne (by first | decide | omega) ?_) | apply rg_eq | refine rg_fr (by assumption) (by first | decide | (simp; omega)) ?_)) rfl ?_
      exact a_ireturn dX11_carriage_77 rfl rfl (Nat.le_of_ble_eq_true rfl) (Nat.le_of_ble_eq_true rfl) ⟨rfl, car_new q2 l2 w2 hc4 hx4 hl4 hfb hf3, kp_mono (kp_fr (fr_set (fr_set (fr_trans (fr_trans (fr_mono hf1 (T := [0, 2, 3, 7, 8, 9, 10, 11, 14]) (by decide)) hf2 (by decide)) hf3 (by decide)) (by decide)) (by decide))) (by decide)⟩
  · have ea : aCar T c d i n = ((refF T c d i n).1, setFT T (refF T c d i n).2 T.tr) := by unfold aCar; rw [if_neg hr]
    rw [ea]
    refine rM_start (by decide) (Nat.le_of_ble_eq_true rfl) ?_
    refine a_aload_n 1 dX11_carriage_0 rfl rfl ?_
    refine a_iload_n 2 dX11_carriage_1 rfl rfl ?_
    refine a_iload_n 3 dX11_carriage_2 rfl rfl ?_
    refine a_iload_n 4 dX11_carriage_3 rfl rfl ?_
    refine a_iload 6 dX11_carriage_4 rfl rfl ?_
    refine a_callV ok_X11_refusalOfCells ln_X11_82 in_X11_refusalOfCells rfl 9 dX11_carriage_6 rfl (c_refusal q c d i n) (by repeat (first | assumption | (refine rg_ne (by first | decide | omega) ?_) | apply rg_eq | refine rg_fr (by assumption) (by first | decide | (simp; omega)) ?_)) rfl rfl rfl ⟨(Nat.le_of_ble_eq_true rfl), (Nat.le_of_ble_eq_true rfl)⟩ (Nat.le_of_ble_eq_true rfl) ⟨(Nat.le_of_ble_eq_true rfl), (Nat.le_of_ble_eq_true rfl)⟩ ?_
    rintro h1 _ ⟨rfl, q1, hf1⟩
    refine a_istore 11 dX11_carriage_9 rfl (by decide) ?_
    refine a_iload 13 dX11_carriage_11 rfl rfl ?_
    refine a_if_eq 19 16 dX11_carriage_13 rfl (by decide) (fun c_13 => absurd c_13 hr) (fun c_13 => ?_)
    refine a_iload 18 dX11_carriage_16 rfl rfl ?_
    exact a_ireturn dX11_carriage_18 rfl rfl (Nat.le_of_ble_eq_true rfl) (Nat.le_of_ble_eq_true rfl) ⟨rfl, q1, kp_0L hf1⟩
end CAR3
