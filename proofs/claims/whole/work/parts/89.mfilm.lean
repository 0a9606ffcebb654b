/-! THE MODEL: films -/
theorem odu_1 {a b : Nat} (h : b ≤ a) : (20 : Int64) * (lN a - lN b) = lN (oduN a b) := by
  rw [lN_sub h, show (20 : Int64) = lN 20 from rfl, lN_mul]
  congr 1
  show 20 * (a - b) = 20 * (max a b - min a b)
  rw [Nat.max_eq_left h, Nat.min_eq_right h]
theorem odu_2 {a b : Nat} (h : a ≤ b) : (20 : Int64) * (lN b - lN a) = lN (oduN a b) := by
  rw [lN_sub h, show (20 : Int64) = lN 20 from rfl, lN_mul]
  congr 1
  show 20 * (b - a) = 20 * (max a b - min a b)
  rw [Nat.max_eq_right h, Nat.min_eq_left h]
theorem odl_L {a b : Nat} : (lN a + 20) * (lN b + 20) = lN (odlN a b) := by
  rw [show (20 : Int64) = lN 20 from rfl, lN_add, lN_add, lN_mul]
theorem par_first {U L : Nat} (hU : U < 2 ^ 31) (hL : L < 2 ^ 31) (h0 : 0 < L) : (-1 : Int64) * lN L < lN U * 1 := by
  rw [Int64.lt_iff_toInt_lt, Int64.mul_one, lN_toInt hU, Int64.toInt_mul, lN_toInt hL]
  have e : (-1 : Int64).toInt = -1 := rfl
  rw [e]
  unfold Int.bmod
  simp only
  split <;> omega
section PARP
variable {T : Tn} {z w : Nat}
theorem parX_keep {y : Nat} : ∀ (x : Nat) (s : parS), s.1 ≠ none → (parX T z w y x s).1 ≠ none
  | 0, _, h => h
  | x + 1, s, h => by
    rw [parX]
    split
    · intro e; cases e
    · exact parX_keep x s h
theorem parT_keep : ∀ (y : Nat) (s : parS), s.1 ≠ none → (parT T z w y s).1 ≠ none
  | 0, _, h => h
  | y + 1, s, h => by
    rw [parT]
    exact parX_keep _ _ (parT_keep y s h)
theorem parX_0 (o : T.ok) (hz : z < T.nl) (hw : w < T.nl) : ∀ x, 2 ≤ x → (parX T z w 0 x (none, -1, 1)).1 ≠ none
  | 0, h => absurd h (by omega)
  | 1, h => absurd h (by omega)
  | x + 2, h => by
    by_cases hx : x = 0
    · subst hx
      have b1 := fi_lt o (x := 1) (y := 0) hz
      have b2 := fi_lt o (x := 1) (y := 0) hw
      have u1 := odu_lt b1 b2
      have l1 := odl_lt b1 b2
      have e0 : parX T z w 0 1 (none, -1, 1) = (none, -1, 1) := by rw [parX, if_neg (fun v => v.1 rfl)]; rfl
      rw [parX, e0, if_pos ⟨by decide, par_first (by omega) (by omega) odl_pos⟩]
      intro e; cases e
    · have ih := parX_0 o hz hw (x + 1) (by omega)
      rw [parX]
      split
      · intro e; cases e
      · exact ih
theorem parE_some (o : T.ok) (hz : z < T.nl) (hw : w < T.nl) (hm : 2 ≤ T.m) : (parE T z w).1 ≠ none := by
  have h1 : ∀ y, 1 ≤ y → (parT T z w y (none, -1, 1)).1 ≠ none := by
    intro y
    induction y with
    | zero => intro h; omega
    | succ y ih =>
      intro _
      rw [parT]
      by_cases e : y = 0
      · subst e; exact parX_0 o hz hw T.m hm
      · exact parX_keep _ _ (ih (by omega))
  exact h1 T.m (by omega)
end PARP
section MFILM
variable {l : Launch} {G : rG} {h : rH} {T : Tn} {i : Nat → Int32} {j : Nat → Int64}
theorem mX_j {h' : rH} {j' : Nat → Int64} (q : mX G h T i j) (e38 : h'[38]? = some (mo G i j')) (hf : fr h h' [38]) : mX G h' T i j' := by
  obtain ⟨⟨⟨fn, -, a2, a3, a4, a5, a6, a7, a8⟩, b1, b2, b3, b4, b5, ⟨s, b6, b7⟩, b8⟩, ⟨-, c2, c3, ⟨g1, c4, c5⟩, ⟨g2, c6, c7⟩, ⟨g3, c8, c9⟩, ⟨g4, c10, c11⟩⟩, ⟨-, d2, d3, g5, d4, d5⟩, ⟨-, e2, e3, ⟨g6, e4, e5⟩, ⟨g7, e6, e7⟩⟩, q5, q6, q7⟩ := q
  have hp := kp_fr hf
  exact ⟨⟨⟨fn, e38, a2, a3, rg_fr hf (by decide) a4, a5, rg_fr hf (by decide) a6, rg_fr hf (by decide) a7, a8⟩, b1, b2, b3, rg_fr hf (by decide) b4, b5, ⟨s, rg_fr hf (by decide) b6, b7⟩, b8⟩, ⟨e38, c2, c3, ⟨g1, rg_fr hf (by decide) c4, c5⟩, ⟨g2, rg_fr hf (by decide) c6, c7⟩, ⟨g3, rg_fr hf (by decide) c8, c9⟩, ⟨g4, rg_fr hf (by decide) c10, c11⟩⟩, ⟨e38, d2, d3, g5, rg_fr hf (by decide) d4, d5⟩, ⟨e38, e2, e3, ⟨g6, rg_fr hf (by decide) e4, e5⟩, ⟨g7, rg_fr hf (by decide) e6, e7⟩⟩, q5.kp hp (by decide), q6.kp hp (by decide), q7⟩
abbrev filJ (T : Tn) (z u x y : Nat) (j : Nat → Int64) : Nat → Int64 := vp_updL (vp_updL j 33 (lN (oduN (T.fi z x y) (T.fi u x y)))) 34 (lN (odlN (T.fi z x y) (T.fi u x y)))
set_option maxRecDepth 100000 in
set_option maxHeartbeats 400000 in
theorem k_X12_layFilm (q : mX G h T i j) (o : T.ok) {z u x y : Nat} (hz : z < T.nl) (hu : u < T.nl) (hx : x < T.m) (hy : y < T.m) : rM l G 5 mX12_layFilm 0 0 [.ref (gN G + 38), .int (nI z), .int (nI u), .int (nI y), .int (nI x)] h (fun h' v => v = none ∧ mX G h' T i (filJ T z u x y j) ∧ fr h h' [38]) := by
  have hm := q.at
  have b1 := fi_lt o (x := x) (y := y) hz
  have b2 := fi_lt o (x := x) (y := y) hu
  have c1 : rM l G 4 mX12_caught 0 0 [.ref (gN G + 38), .int (nI z), .int (nI x), .int (nI y), .int 1] h (rV h (some (.int (nI (T.fi z x y))))) := k_X12_caughtF (l := l) q.1 q.2.1 q.2.2.1 hz hx hy
  have c2 : rM l G 4 mX12_caught 0 0 [.ref (gN G + 38), .int (nI u), .int (nI x), .int (nI y), .int 1] h (rV h (some (.int (nI (T.fi u x y))))) := k_X12_caughtF (l := l) q.1 q.2.1 q.2.2.1 hu hx hy
  have hge : 0 ≤ lg_cmp (lN (T.fi z x y)) (lN (T.fi u x y)) ↔ T.fi u x y ≤ T.fi z x y := by rw [lg_cmp_ge, lN_le (by omega) (by omega)]
  have hfin : ∀ {h2 : rH}, h2[38]? = some (mo G i (filJ T z u x y j)) → fr h h2 [38] → mX G h2 T i (filJ T z u x y j) := fun e hf => mX_j q e hf
  by_cases hab : T.fi u x y ≤ T.fi z x y
  · skip
    refine rM_start (by decide) (Nat.le_of_ble_eq_true rfl) ?_
    refine a_aload_n 1 dX12_layFilm_0 rfl rfl ?_
    refine a_iload_n 2 dX12_layFilm_1 rfl rfl ?_
    refine a_iload 4 dX12_layFilm_2 rfl rfl ?_
    refine a_iload_n 5 dX12_layFilm_4 rfl rfl ?_
    refine a_iconst (1) 6 dX12_layFilm_5 rfl (by decide) ?_
    refine a_callV ok_X12_caught ln_X12_231 in_X12_caught rfl 9 dX12_layFilm_6 rfl (c1) (by repeat (first | assumption | (refine rg_ne (by first | decide | omega) ?_) | apply rg_eq | refine rg_fr (by assumption) (by first | decide | (simp; omega)) ?_)) rfl rfl rfl ⟨(Nat.le_of_ble_eq_true rfl), (Nat.le_of_ble_eq_true rfl)⟩ (Nat.le_of_ble_eq_true rfl) ⟨(Nat.le_of_ble_eq_true rfl), (Nat.le_of_ble_eq_true rfl)⟩ ?_
    rintro _ _ ⟨rfl, rfl⟩
    refine a_i2l 10 dX12_layFilm_9 rfl ?_
    rw [nI_l (show T.fi z x y < 2 ^ 31 by omega)]
    refine a_lstore 12 dX12_layFilm_10 rfl (by decide) ?_
    refine a_aload_n 13 dX12_layFilm_12 rfl rfl ?_
    refine a_iload_n 14 dX12_layFilm_13 rfl rfl ?_
    refine a_iload 16 dX12_layFilm_14 rfl rfl ?_
    refine a_iload_n 17 dX12_layFilm_16 rfl rfl ?_
    refine a_iconst (1) 18 dX12_layFilm_17 rfl (by decide) ?_
    refine a_callV ok_X12_caught ln_X12_231 in_X12_caught rfl 21 dX12_layFilm_18 rfl (c2) (by repeat (first | assumption | (refine rg_ne (by first | decide | omega) ?_) | apply rg_eq | refine rg_fr (by assumption) (by first | decide | (simp; omega)) ?_)) rfl rfl rfl ⟨(Nat.le_of_ble_eq_true rfl), (Nat.le_of_ble_eq_true rfl)⟩ (Nat.le_of_ble_eq_true rfl) ⟨(Nat.le_of_ble_eq_true rfl), (Nat.le_of_ble_eq_true rfl)⟩ ?_
    rintro _ _ ⟨rfl, rfl⟩
    refine a_i2l 22 dX12_layFilm_21 rfl ?_
    rw [nI_l (show T.fi u x y < 2 ^ 31 by omega)]
    refine a_lstore 24 dX12_layFilm_22 rfl (by decide) ?_
    refine a_aload_n 25 dX12_layFilm_24 rfl rfl ?_
    refine a_ldc2 (20) 28 dX12_layFilm_25 rfl lk_X12_308 ?_
    refine a_lload 30 dX12_layFilm_28 rfl rfl ?_
    refine a_lload 32 dX12_layFilm_30 rfl rfl ?_
    refine a_lcmp 33 dX12_layFilm_32 rfl ?_
    refine a_if_ge 44 36 dX12_layFilm_33 rfl (by decide) (fun c_33 => ?_) (fun c_33 => absurd (hge.mpr hab) c_33)
    refine a_lload 46 dX12_layFilm_44 rfl rfl ?_
    refine a_lload 48 dX12_layFilm_46 rfl rfl ?_
    refine a_lsub 49 dX12_layFilm_48 rfl ?_
    refine a_lmul 50 dX12_layFilm_49 rfl ?_
    rw [odu_1 hab]
    refine a_put fd_X12_310 cl_X12 rfl 53 dX12_layFilm_50 rfl (by repeat (first | assumption | (refine rg_ne (by first | decide | omega) ?_) | apply rg_eq | refine rg_fr (by assumption) (by first | decide | (simp; omega)) ?_)) (Nat.le_of_ble_eq_true rfl) rfl rfl rfl ?_
    refine a_aload_n 54 dX12_layFilm_53 rfl rfl ?_
    refine a_lload 56 dX12_layFilm_54 rfl rfl ?_
    refine a_ldc2 (20) 59 dX12_layFilm_56 rfl lk_X12_308 ?_
    refine a_ladd 60 dX12_layFilm_59 rfl ?_
    refine a_lload 62 dX12_layFilm_60 rfl rfl ?_
    refine a_ldc2 (20) 65 dX12_layFilm_62 rfl lk_X12_308 ?_
    refine a_ladd 66 dX12_layFilm_65 rfl ?_
    refine a_lmul 67 dX12_layFilm_66 rfl ?_
    rw [odl_L]
    refine a_put fd_X12_314 cl_X12 rfl 70 dX12_layFilm_67 rfl (by repeat (first | assumption | (refine rg_ne (by first | decide | omega) ?_) | apply rg_eq | refine rg_fr (by assumption) (by first | decide | (simp; omega)) ?_)) (Nat.le_of_ble_eq_true rfl) rfl rfl rfl ?_
    exact a_return dX12_layFilm_70 rfl (Nat.le_of_ble_eq_true rfl) (Nat.le_of_ble_eq_true rfl) ⟨rfl, hfin (rg_eq (rg_eq hm)) (fr_set (fr_set (fr_refl _ _) (by decide)) (by decide)), fr_set (fr_set (fr_refl _ _) (by decide)) (by decide)⟩
  · skip
    refine rM_start (by decide) (Nat.le_of_ble_eq_true rfl) ?_
    refine a_aload_n 1 dX12_layFilm_0 rfl rfl ?_
    refine a_iload_n 2 dX12_layFilm_1 rfl rfl ?_
    refine a_iload 4 dX12_layFilm_2 rfl rfl ?_
    refine a_iload_n 5 dX12_layFilm_4 rfl rfl ?_
    refine a_iconst (1) 6 dX12_layFilm_5 rfl (by decide) ?_
    refine a_callV ok_X12_caught ln_X12_231 in_X12_caught rfl 9 dX12_layFilm_6 rfl (c1) (by repeat (first | assumption | (refine rg_ne (by first | decide | omega) ?_) | apply rg_eq | refine rg_fr (by assumption) (by first | decide | (simp; omega)) ?_)) rfl rfl rfl ⟨(Nat.le_of_ble_eq_true rfl), (Nat.le_of_ble_eq_true rfl)⟩ (Nat.le_of_ble_eq_true rfl) ⟨(Nat.le_of_ble_eq_true rfl), (Nat.le_of_ble_eq_true rfl)⟩ ?_
    rintro _ _ ⟨rfl, rfl⟩
    refine a_i2l 10 dX12_layFilm_9 rfl ?_
    rw [nI_l (show T.fi z x y < 2 ^ 31 by omega)]
    refine a_lstore 12 dX12_layFilm_10 rfl (by decide) ?_
    refine a_aload_n 13 dX12_layFilm_12 rfl rfl ?_
    refine a_iload_n 14 dX12_layFilm_13 rfl rfl ?_
    refine a_iload 16 dX12_layFilm_14 rfl rfl ?_
    refine a_iload_n 17 dX12_layFilm_16 rfl rfl ?_
    refine a_iconst (1) 18 dX12_layFilm_17 rfl (by decide) ?_
    refine a_callV ok_X12_caught ln_X12_231 in_X12_caught rfl 21 dX12_layFilm_18 rfl (c2) (by repeat (first | assumption | (refine rg_ne (by first | decide | omega) ?_) | apply rg_eq | refine rg_fr (by assumption) (by first | decide | (simp; omega)) ?_)) rfl rfl rfl ⟨(Nat.le_of_ble_eq_true rfl), (Nat.le_of_ble_eq_true rfl)⟩ (Nat.le_of_ble_eq_true rfl) ⟨(Nat.le_of_ble_eq_true rfl), (Nat.le_of_ble_eq_true rfl)⟩ ?_
    rintro _ _ ⟨rfl, rfl⟩
    refine a_i2l 22 dX12_layFilm_21 rfl ?_
    rw [nI_l (show T.fi u x y < 2 ^ 31 by omega)]
    refine a_lstore 24 dX12_layFilm_22 rfl (by decide) ?_
    refine a_aload_n 25 dX12_layFilm_24 rfl rfl ?_
    refine a_ldc2 (20) 28 dX12_layFilm_25 rfl lk_X12_308 ?_
    refine a_lload 30 dX12_layFilm_28 rfl rfl ?_
    refine a_lload 32 dX12_layFilm_30 rfl rfl ?_
    refine a_lcmp 33 dX12_layFilm_32 rfl ?_
    refine a_if_ge 44 36 dX12_layFilm_33 rfl (by decide) (fun c_33 => absurd (hge.mp c_33) hab) (fun c_33 => ?_)
    refine a_lload 38 dX12_layFilm_36 rfl rfl ?_
    refine a_lload 40 dX12_layFilm_38 rfl rfl ?_
    refine a_lsub 41 dX12_layFilm_40 rfl ?_
    refine a_goto 49 dX12_layFilm_41 (by decide) ?_
    refine a_lmul 50 dX12_layFilm_49 rfl ?_
    rw [odu_2 (by omega)]
    refine a_put fd_X12_310 cl_X12 rfl 53 dX12_layFilm_50 rfl (by repeat (first | assumption | (refine rg_ne (by first | decide | omega) ?_) | apply rg_eq | refine rg_fr (by assumption) (by first | decide | (simp; omega)) ?_)) (Nat.le_of_ble_eq_true rfl) rfl rfl rfl ?_
    refine a_aload_n 54 dX12_layFilm_53 rfl rfl ?_
    refine a_lload 56 dX12_layFilm_54 rfl rfl ?_
    refine a_ldc2 (20) 59 dX12_layFilm_56 rfl lk_X12_308 ?_
    refine a_ladd 60 dX12_layFilm_59 rfl ?_
    refine a_lload 62 dX12_layFilm_60 rfl rfl ?_
    refine a_ldc2 (20) 65 dX12_layFilm_62 rfl lk_X12_308 ?_
    refine a_ladd 66 dX12_layFilm_65 rfl ?_
    refine a_lmul 67 dX12_layFilm_66 rfl ?_
    rw [odl_L]
    refine a_put fd_X12_314 cl_X12 rfl 70 dX12_layFilm_67 rfl (by repeat (first | assumption | (refine rg_ne (by first | decide | omega) ?_) | apply rg_eq | refine rg_fr (by assumption) (by first | decide | (simp; omega)) ?_)) (Nat.le_of_ble_eq_true rfl) rfl rfl rfl ?_
    exact a_return dX12_layFilm_70 rfl (Nat.le_of_ble_eq_true rfl) (Nat.le_of_ble_eq_true rfl) ⟨rfl, hfin (rg_eq (rg_eq hm)) (fr_set (fr_set (fr_refl _ _) (by decide)) (by decide)), fr_set (fr_set (fr_refl _ _) (by decide)) (by decide)⟩
theorem film_no2 {c d a b w : Int32} (hx : oT T.nl c = none ∨ oT T.nl d = none ∨ oT T.m a = none ∨ oT T.m b = none) : some (Value.long (-9223372036854775808)) = some (.long (aFilm T c d a b w)) := film_eq (film_no hx)
set_option maxRecDepth 100000 in
set_option maxHeartbeats 400000 in
theorem m_film (q : mAll G h T) (o : T.ok) (c d a b w : Int32) : rM l G 12 mX12_film 0 0 [.ref (gN G + 38), .int c, .int d, .int a, .int b, .int w] h (fun h' v => v = some (.long (aFilm T c d a b w)) ∧ mAll G h' T ∧ kp h h' mL) := by
  obtain ⟨i, j, q⟩ := q
  have hnl := o.nl6
  have hm12 := o.m12
  have hm := q.at
  rcases oT_cases (n := T.nl) (by omega) c with ⟨e1, hc⟩ | ⟨z, hz, rfl, e1⟩
  · skip
    refine rM_start (by decide) (Nat.le_of_ble_eq_true rfl) ?_
    refine a_aload_n 1 dX12_film_0 rfl rfl ?_
    refine a_iload_n 2 dX12_film_1 rfl rfl ?_
    refine a_callV ok_X12_noLaw ln_X12_218 in_X12_noLaw rfl 5 dX12_film_2 rfl (m_noLaw q c) (by repeat (first | assumption | (refine rg_ne (by first | decide | omega) ?_) | apply rg_eq | refine rg_fr (by assumption) (by first | decide | (simp; omega)) ?_)) rfl rfl rfl ⟨(Nat.le_of_ble_eq_true rfl), (Nat.le_of_ble_eq_true rfl)⟩ (Nat.le_of_ble_eq_true rfl) ⟨(Nat.le_of_ble_eq_true rfl), (Nat.le_of_ble_eq_true rfl)⟩ ?_
    rintro _ _ ⟨rfl, rfl⟩
    refine a_if_ne 50 8 dX12_film_5 rfl (by decide) (fun c_5 => ?_) (fun c_5 => absurd c_5 (by rw [if_neg hc]; decide))
    refine a_callS ok_X12_lost ln_X12_83 is_X12_lost rfl 53 dX12_film_50 rfl (k_X12_lost) rfl rfl ⟨(Nat.le_of_ble_eq_true rfl), (Nat.le_of_ble_eq_true rfl)⟩ (Nat.le_of_ble_eq_true rfl) ⟨(Nat.le_of_ble_eq_true rfl), (Nat.le_of_ble_eq_true rfl)⟩ ?_
    rintro _ _ ⟨rfl, rfl⟩
    exact a_lreturn dX12_film_53 rfl (Nat.le_of_ble_eq_true rfl) (Nat.le_of_ble_eq_true rfl) ⟨film_no2 (Or.inl e1), ⟨i, j, q⟩, fun _ _ _ => rfl⟩
  rcases oT_cases (n := T.nl) (by omega) d with ⟨e2, hd⟩ | ⟨u, hu, rfl, e2⟩
  · skip
    refine rM_start (by decide) (Nat.le_of_ble_eq_true rfl) ?_
    refine a_aload_n 1 dX12_film_0 rfl rfl ?_
    refine a_iload_n 2 dX12_film_1 rfl rfl ?_
    refine a_callV ok_X12_noLaw ln_X12_218 in_X12_noLaw rfl 5 dX12_film_2 rfl (m_noLaw q (nI z)) (by repeat (first | assumption | (refine rg_ne (by first | decide | omega) ?_) | apply rg_eq | refine rg_fr (by assumption) (by first | decide | (simp; omega)) ?_)) rfl rfl rfl ⟨(Nat.le_of_ble_eq_true rfl), (Nat.le_of_ble_eq_true rfl)⟩ (Nat.le_of_ble_eq_true rfl) ⟨(Nat.le_of_ble_eq_true rfl), (Nat.le_of_ble_eq_true rfl)⟩ ?_
    rintro _ _ ⟨rfl, rfl⟩
    refine a_if_ne 50 8 dX12_film_5 rfl (by decide) (fun c_5 => absurd (if_pos (oT_yes hz (by omega))) c_5) (fun c_5 => ?_)
    refine a_aload_n 9 dX12_film_8 rfl rfl ?_
    refine a_iload_n 10 dX12_film_9 rfl rfl ?_
    refine a_callV ok_X12_noLaw ln_X12_218 in_X12_noLaw rfl 13 dX12_film_10 rfl (m_noLaw q d) (by repeat (first | assumption | (refine rg_ne (by first | decide | omega) ?_) | apply rg_eq | refine rg_fr (by assumption) (by first | decide | (simp; omega)) ?_)) rfl rfl rfl ⟨(Nat.le_of_ble_eq_true rfl), (Nat.le_of_ble_eq_true rfl)⟩ (Nat.le_of_ble_eq_true rfl) ⟨(Nat.le_of_ble_eq_true rfl), (Nat.le_of_ble_eq_true rfl)⟩ ?_
    rintro _ _ ⟨rfl, rfl⟩
    refine a_if_ne 50 16 dX12_film_13 rfl (by decide) (fun c_13 => ?_) (fun c_13 => absurd c_13 (by rw [if_neg hd]; decide))
    refine a_callS ok_X12_lost ln_X12_83 is_X12_lost rfl 53 dX12_film_50 rfl (k_X12_lost) rfl rfl ⟨(Nat.le_of_ble_eq_true rfl), (Nat.le_of_ble_eq_true rfl)⟩ (Nat.le_of_ble_eq_true rfl) ⟨(Nat.le_of_ble_eq_true rfl), (Nat.le_of_ble_eq_true rfl)⟩ ?_
    rintro _ _ ⟨rfl, rfl⟩
    exact a_lreturn dX12_film_53 rfl (Nat.le_of_ble_eq_true rfl) (Nat.le_of_ble_eq_true rfl) ⟨film_no2 (Or.inr (Or.inl e2)), ⟨i, j, q⟩, fun _ _ _ => rfl⟩
  rcases oT_cases (n := T.m) (by omega) a with ⟨e3, ha⟩ | ⟨y, hy, rfl, e3⟩
  · skip
    refine rM_start (by decide) (Nat.le_of_ble_eq_true rfl) ?_
    refine a_aload_n 1 dX12_film_0 rfl rfl ?_
    refine a_iload_n 2 dX12_film_1 rfl rfl ?_
    refine a_callV ok_X12_noLaw ln_X12_218 in_X12_noLaw rfl 5 dX12_film_2 rfl (m_noLaw q (nI z)) (by repeat (first | assumption | (refine rg_ne (by first | decide | omega) ?_) | apply rg_eq | refine rg_fr (by assumption) (by first | decide | (simp; omega)) ?_)) rfl rfl rfl ⟨(Nat.le_of_ble_eq_true rfl), (Nat.le_of_ble_eq_true rfl)⟩ (Nat.le_of_ble_eq_true rfl) ⟨(Nat.le_of_ble_eq_true rfl), (Nat.le_of_ble_eq_true rfl)⟩ ?_
    rintro _ _ ⟨rfl, rfl⟩
    refine a_if_ne 50 8 dX12_film_5 rfl (by decide) (fun c_5 => absurd (if_pos (oT_yes hz (by omega))) c_5) (fun c_5 => ?_)
    refine a_aload_n 9 dX12_film_8 rfl rfl ?_
    refine a_iload_n 10 dX12_film_9 rfl rfl ?_
    refine a_callV ok_X12_noLaw ln_X12_218 in_X12_noLaw rfl 13 dX12_film_10 rfl (m_noLaw q (nI u)) (by repeat (first | assumption | (refine rg_ne (by first | decide | omega) ?_) | apply rg_eq | refine rg_fr (by assumption) (by first | decide | (simp; omega)) ?_)) rfl rfl rfl ⟨(Nat.le_of_ble_eq_true rfl), (Nat.le_of_ble_eq_true rfl)⟩ (Nat.le_of_ble_eq_true rfl) ⟨(Nat.le_of_ble_eq_true rfl), (Nat.le_of_ble_eq_true rfl)⟩ ?_
    rintro _ _ ⟨rfl, rfl⟩
    refine a_if_ne 50 16 dX12_film_13 rfl (by decide) (fun c_13 => absurd (if_pos (oT_yes hu (by omega))) c_13) (fun c_13 => ?_)
    refine a_aload_n 17 dX12_film_16 rfl rfl ?_
    refine a_iload_n 18 dX12_film_17 rfl rfl ?_
    refine a_callV ok_X12_noOne ln_X12_194 in_X12_noOne rfl 21 dX12_film_18 rfl (m_noOne q a) (by repeat (first | assumption | (refine rg_ne (by first | decide | omega) ?_) | apply rg_eq | refine rg_fr (by assumption) (by first | decide | (simp; omega)) ?_)) rfl rfl rfl ⟨(Nat.le_of_ble_eq_true rfl), (Nat.le_of_ble_eq_true rfl)⟩ (Nat.le_of_ble_eq_true rfl) ⟨(Nat.le_of_ble_eq_true rfl), (Nat.le_of_ble_eq_true rfl)⟩ ?_
    rintro _ _ ⟨rfl, rfl⟩
    refine a_if_ne 50 24 dX12_film_21 rfl (by decide) (fun c_21 => ?_) (fun c_21 => absurd c_21 (by rw [if_neg ha]; decide))
    refine a_callS ok_X12_lost ln_X12_83 is_X12_lost rfl 53 dX12_film_50 rfl (k_X12_lost) rfl rfl ⟨(Nat.le_of_ble_eq_true rfl), (Nat.le_of_ble_eq_true rfl)⟩ (Nat.le_of_ble_eq_true rfl) ⟨(Nat.le_of_ble_eq_true rfl), (Nat.le_of_ble_eq_true rfl)⟩ ?_
    rintro _ _ ⟨rfl, rfl⟩
    exact a_lreturn dX12_film_53 rfl (Nat.le_of_ble_eq_true rfl) (Nat.le_of_ble_eq_true rfl) ⟨film_no2 (Or.inr (Or.inr (Or.inl e3))), ⟨i, j, q⟩, fun _ _ _ => rfl⟩
  rcases oT_cases (n := T.m) (by omega) b with ⟨e4, hb⟩ | ⟨x, hx, rfl, e4⟩
  · skip
    refine rM_start (by decide) (Nat.le_of_ble_eq_true rfl) ?_
    refine a_aload_n 1 dX12_film_0 rfl rfl ?_
    refine a_iload_n 2 dX12_film_1 rfl rfl ?_
    refine a_callV ok_X12_noLaw ln_X12_218 in_X12_noLaw rfl 5 dX12_film_2 rfl (m_noLaw q (nI z)) (by repeat (first | assumption | (refine rg_ne (by first | decide | omega) ?_) | apply rg_eq | refine rg_fr (by assumption) (by first | decide | (simp; omega)) ?_)) rfl rfl rfl ⟨(Nat.le_of_ble_eq_true rfl), (Nat.le_of_ble_eq_true rfl)⟩ (Nat.le_of_ble_eq_true rfl) ⟨(Nat.le_of_ble_eq_true rfl), (Nat.le_of_ble_eq_true rfl)⟩ ?_
    rintro _ _ ⟨rfl, rfl⟩
    refine a_if_ne 50 8 dX12_film_5 rfl (by decide) (fun c_5 => absurd (if_pos (oT_yes hz (by omega))) c_5) (fun c_5 => ?_)
    refine a_aload_n 9 dX12_film_8 rfl rfl ?_
    refine a_iload_n 10 dX12_film_9 rfl rfl ?_
    refine a_callV ok_X12_noLaw ln_X12_218 in_X12_noLaw rfl 13 dX12_film_10 rfl (m_noLaw q (nI u)) (by repeat (first | assumption | (refine rg_ne (by first | decide | omega) ?_) | apply rg_eq | refine rg_fr (by assumption) (by first | decide | (simp; omega)) ?_)) rfl rfl rfl ⟨(Nat.le_of_ble_eq_true rfl), (Nat.le_of_ble_eq_true rfl)⟩ (Nat.le_of_ble_eq_true rfl) ⟨(Nat.le_of_ble_eq_true rfl), (Nat.le_of_ble_eq_true rfl)⟩ ?_
    rintro _ _ ⟨rfl, rfl⟩
    refine a_if_ne 50 16 dX12_film_13 rfl (by decide) (fun c_13 => absurd (if_pos (oT_yes hu (by omega))) c_13) (fun c_13 => ?_)
    refine a_aload_n 17 dX12_film_16 rfl rfl ?_
    refine a_iload_n 18 dX12_film_17 rfl rfl ?_
    refine a_callV ok_X12_noOne ln_X12_194 in_X12_noOne rfl 21 dX12_film_18 rfl (m_noOne q (nI y)) (by repeat (first | assumption | (refine rg_ne (by first | decide | omega) ?_) | apply rg_eq | refine rg_fr (by assumption) (by first | decide | (simp; omega)) ?_)) rfl rfl rfl ⟨(Nat.le_of_ble_eq_true rfl), (Nat.le_of_ble_eq_true rfl)⟩ (Nat.le_of_ble_eq_true rfl) ⟨(Nat.le_of_ble_eq_true rfl), (Nat.le_of_ble_eq_true rfl)⟩ ?_
    rintro _ _ ⟨rfl, rfl⟩
    refine a_if_ne 50 24 dX12_film_21 rfl (by decide) (fun c_21 => absurd (if_pos (oT_yes hy (by omega))) c_21) (fun c_21 => ?_)
    refine a_aload_n 25 dX12_film_24 rfl rfl ?_
    refine a_iload 27 dX12_film_25 rfl rfl ?_
    refine a_callV ok_X12_noOne ln_X12_194 in_X12_noOne rfl 30 dX12_film_27 rfl (m_noOne q b) (by repeat (first | assumption | (refine rg_ne (by first | decide | omega) ?_) | apply rg_eq | refine rg_fr (by assumption) (by first | decide | (simp; omega)) ?_)) rfl rfl rfl ⟨(Nat.le_of_ble_eq_true rfl), (Nat.le_of_ble_eq_true rfl)⟩ (Nat.le_of_ble_eq_true rfl) ⟨(Nat.le_of_ble_eq_true rfl), (Nat.le_of_ble_eq_true rfl)⟩ ?_
    rintro _ _ ⟨rfl, rfl⟩
    refine a_if_ne 50 33 dX12_film_30 rfl (by decide) (fun c_30 => ?_) (fun c_30 => absurd c_30 (by rw [if_neg hb]; decide))
    refine a_callS ok_X12_lost ln_X12_83 is_X12_lost rfl 53 dX12_film_50 rfl (k_X12_lost) rfl rfl ⟨(Nat.le_of_ble_eq_true rfl), (Nat.le_of_ble_eq_true rfl)⟩ (Nat.le_of_ble_eq_true rfl) ⟨(Nat.le_of_ble_eq_true rfl), (Nat.le_of_ble_eq_true rfl)⟩ ?_
    rintro _ _ ⟨rfl, rfl⟩
    exact a_lreturn dX12_film_53 rfl (Nat.le_of_ble_eq_true rfl) (Nat.le_of_ble_eq_true rfl) ⟨film_no2 (Or.inr (Or.inr (Or.inr e4))), ⟨i, j, q⟩, fun _ _ _ => rfl⟩
  have ea : aFilm T (nI z) (nI u) (nI y) (nI x) w = if x ≠ y ∧ (w = 0 ∨ w = 1) then tolN (oduN (T.fi z x y) (T.fi u x y)) (odlN (T.fi z x y) (T.fi u x y)) w else lost64 := by unfold aFilm; rw [e1, e2, e3, e4]
  have hxy : nI x = nI y ↔ x = y := nI_eq (by omega) (by omega)
  have b1 := fi_lt o (x := x) (y := y) hz
  have b2 := fi_lt o (x := x) (y := y) hu
  have u1 := odu_lt b1 b2
  have l1 := odl_lt b1 b2
  have hBR : (if (0 : Int64) ≤ w.toInt64 ∧ w.toInt64 ≤ 1 then (1 : Int32) else 0) = 0 ↔ ¬ (w = 0 ∨ w = 1) := by rw [b_eq0, in01 w]
  refine rM_start (by decide) (Nat.le_of_ble_eq_true rfl) ?_
  refine a_aload_n 1 dX12_film_0 rfl rfl ?_
  refine a_iload_n 2 dX12_film_1 rfl rfl ?_
  refine a_callV ok_X12_noLaw ln_X12_218 in_X12_noLaw rfl 5 dX12_film_2 rfl (m_noLaw q (nI z)) (by repeat (first | assumption | (refine rg_ne (by first | decide | omega) ?_) | apply rg_eq | refine rg_fr (by assumption) (by first | decide | (simp; omega)) ?_)) rfl rfl rfl ⟨(Nat.le_of_ble_eq_true rfl), (Nat.le_of_ble_eq_true rfl)⟩ (Nat.le_of_ble_eq_true rfl) ⟨(Nat.le_of_ble_eq_true rfl), (Nat.le_of_ble_eq_true rfl)⟩ ?_
  rintro _ _ ⟨rfl, rfl⟩
  refine a_if_ne 50 8 dX12_film_5 rfl (by decide) (fun c_5 => absurd (if_pos (oT_yes hz (by omega))) c_5) (fun c_5 => ?_)
  refine a_aload_n 9 dX12_film_8 rfl rfl ?_
  refine a_iload_n 10 dX12_film_9 rfl rfl ?_
  refine a_callV ok_X12_noLaw ln_X12_218 in_X12_noLaw rfl 13 dX12_film_10 rfl (m_noLaw q (nI u)) (by repeat (first | assumption | (refine rg_ne (by first | decide | omega) ?_) | apply rg_eq | refine rg_fr (by assumption) (by first | decide | (simp; omega)) ?_)) rfl rfl rfl ⟨(Nat.le_of_ble_eq_true rfl), (Nat.le_of_ble_eq_true rfl)⟩ (Nat.le_of_ble_eq_true rfl) ⟨(Nat.le_of_ble_eq_true rfl), (Nat.le_of_ble_eq_true rfl)⟩ ?_
  rintro _ _ ⟨rfl, rfl⟩
  refine a_if_ne 50 16 dX12_film_13 rfl (by decide) (fun c_13 => absurd (if_pos (oT_yes hu (by omega))) c_13) (fun c_13 => ?_)
  refine a_aload_n 17 dX12_film_16 rfl rfl ?_
  refine a_iload_n 18 dX12_film_17 rfl rfl ?_
  refine a_callV ok_X12_noOne ln_X12_194 in_X12_noOne rfl 21 dX12_film_18 rfl (m_noOne q (nI y)) (by repeat (first | assumption | (refine rg_ne (by first | decide | omega) ?_) | apply rg_eq | refine rg_fr (by assumption) (by first | decide | (simp; omega)) ?_)) rfl rfl rfl ⟨(Nat.le_of_ble_eq_true rfl), (Nat.le_of_ble_eq_true rfl)⟩ (Nat.le_of_ble_eq_true rfl) ⟨(Nat.le_of_ble_eq_true rfl), (Nat.le_of_ble_eq_true rfl)⟩ ?_
  rintro _ _ ⟨rfl, rfl⟩
  refine a_if_ne 50 24 dX12_film_21 rfl (by decide) (fun c_21 => absurd (if_pos (oT_yes hy (by omega))) c_21) (fun c_21 => ?_)
  refine a_aload_n 25 dX12_film_24 rfl rfl ?_
  refine a_iload 27 dX12_film_25 rfl rfl ?_
  refine a_callV ok_X12_noOne ln_X12_194 in_X12_noOne rfl 30 dX12_film_27 rfl (m_noOne q (nI x)) (by repeat (first | assumption | (refine rg_ne (by first | decide | omega) ?_) | apply rg_eq | refine rg_fr (by assumption) (by first | decide | (simp; omega)) ?_)) rfl rfl rfl ⟨(Nat.le_of_ble_eq_true rfl), (Nat.le_of_ble_eq_true rfl)⟩ (Nat.le_of_ble_eq_true rfl) ⟨(Nat.le_of_ble_eq_true rfl), (Nat.le_of_ble_eq_true rfl)⟩ ?_
  rintro _ _ ⟨rfl, rfl⟩
  refine a_if_ne 50 33 dX12_film_30 rfl (by decide) (fun c_30 => absurd (if_pos (oT_yes hx (by omega))) c_30) (fun c_30 => ?_)
  refine a_iload 35 dX12_film_33 rfl rfl ?_
  refine a_iload_n 36 dX12_film_35 rfl rfl ?_
  refine a_icmp_eq 50 39 dX12_film_36 rfl (by decide) (fun c_36 => ?_) (fun c_36 => ?_)
  · refine a_callS ok_X12_lost ln_X12_83 is_X12_lost rfl 53 dX12_film_50 rfl (k_X12_lost) rfl rfl ⟨(Nat.le_of_ble_eq_true rfl), (Nat.le_of_ble_eq_true rfl)⟩ (Nat.le_of_ble_eq_true rfl) ⟨(Nat.le_of_ble_eq_true rfl), (Nat.le_of_ble_eq_true rfl)⟩ ?_
    rintro _ _ ⟨rfl, rfl⟩
    exact a_lreturn dX12_film_53 rfl (Nat.le_of_ble_eq_true rfl) (Nat.le_of_ble_eq_true rfl) ⟨by rw [ea, if_neg (fun v => v.1 (hxy.mp c_36))]; rfl, ⟨i, j, q⟩, fun _ _ _ => rfl⟩
  · refine a_iload 41 dX12_film_39 rfl rfl ?_
    refine a_i2l 42 dX12_film_41 rfl ?_
    refine a_lconst (0) 43 dX12_film_42 rfl (by decide) ?_
    refine a_lconst (1) 44 dX12_film_43 rfl (by decide) ?_
    refine a_callS ok_X12_in ln_X12_97 is_X12_in rfl 47 dX12_film_44 rfl (k_X12_in _ _ _) rfl rfl ⟨(Nat.le_of_ble_eq_true rfl), (Nat.le_of_ble_eq_true rfl)⟩ (Nat.le_of_ble_eq_true rfl) ⟨(Nat.le_of_ble_eq_true rfl), (Nat.le_of_ble_eq_true rfl)⟩ ?_
    rintro _ _ ⟨rfl, rfl⟩
    refine a_if_ne 54 50 dX12_film_47 rfl (by decide) (fun c_47 => ?_) (fun c_47 => ?_)
    · refine a_aload_n 55 dX12_film_54 rfl rfl ?_
      refine a_iload_n 56 dX12_film_55 rfl rfl ?_
      refine a_iload_n 57 dX12_film_56 rfl rfl ?_
      refine a_iload_n 58 dX12_film_57 rfl rfl ?_
      refine a_iload 60 dX12_film_58 rfl rfl ?_
      refine a_callV ok_X12_layFilm ln_X12_317 in_X12_layFilm rfl 63 dX12_film_60 rfl (k_X12_layFilm q o hz hu hx hy) (by repeat (first | assumption | (refine rg_ne (by first | decide | omega) ?_) | apply rg_eq | refine rg_fr (by assumption) (by first | decide | (simp; omega)) ?_)) rfl rfl rfl ⟨(Nat.le_of_ble_eq_true rfl), (Nat.le_of_ble_eq_true rfl)⟩ (Nat.le_of_ble_eq_true rfl) ⟨(Nat.le_of_ble_eq_true rfl), (Nat.le_of_ble_eq_true rfl)⟩ ?_
      rintro h2 v ⟨rfl, q2, hf2⟩
      have hm2 := q2.at
      refine a_aload_n 64 dX12_film_63 rfl rfl ?_
      refine a_get fd_X12_310 rfl 67 dX12_film_64 rfl (by repeat (first | assumption | (refine rg_ne (by first | decide | omega) ?_) | apply rg_eq | refine rg_fr (by assumption) (by first | decide | (simp; omega)) ?_)) rfl ?_
      refine a_aload_n 68 dX12_film_67 rfl rfl ?_
      refine a_get fd_X12_314 rfl 71 dX12_film_68 rfl (by repeat (first | assumption | (refine rg_ne (by first | decide | omega) ?_) | apply rg_eq | refine rg_fr (by assumption) (by first | decide | (simp; omega)) ?_)) rfl ?_
      refine a_iload 73 dX12_film_71 rfl rfl ?_
      refine a_callS ok_X12_told ln_X12_256 is_X12_told rfl 76 dX12_film_73 rfl (k_X12_told (a := oduN (T.fi z x y) (T.fi u x y)) (b := odlN (T.fi z x y) (T.fi u x y)) (by omega) (by omega) odl_pos w) rfl rfl ⟨(Nat.le_of_ble_eq_true rfl), (Nat.le_of_ble_eq_true rfl)⟩ (Nat.le_of_ble_eq_true rfl) ⟨(Nat.le_of_ble_eq_true rfl), (Nat.le_of_ble_eq_true rfl)⟩ ?_
      rintro _ _ ⟨rfl, rfl⟩
      exact a_lreturn dX12_film_76 rfl (Nat.le_of_ble_eq_true rfl) (Nat.le_of_ble_eq_true rfl) ⟨by rw [ea, if_pos ⟨fun v => c_36 (hxy.mpr v), Decidable.not_not.mp (fun v => c_47 (hBR.mpr v))⟩], ⟨i, _, q2⟩, kp_mono (kp_fr hf2) (by decide)⟩
    · refine a_callS ok_X12_lost ln_X12_83 is_X12_lost rfl 53 dX12_film_50 rfl (k_X12_lost) rfl rfl ⟨(Nat.le_of_ble_eq_true rfl), (Nat.le_of_ble_eq_true rfl)⟩ (Nat.le_of_ble_eq_true rfl) ⟨(Nat.le_of_ble_eq_true rfl), (Nat.le_of_ble_eq_true rfl)⟩ ?_
      rintro _ _ ⟨rfl, rfl⟩
      exact a_lreturn dX12_film_53 rfl (Nat.le_of_ble_eq_true rfl) (Nat.le_of_ble_eq_true rfl) ⟨by rw [ea, if_neg (fun v => hBR.mp c_47 v.2)]; rfl, ⟨i, j, q⟩, fun _ _ _ => rfl⟩
abbrev parY (s : parS) : Int32 := match s.1 with
  | some (y, _) => nI y
  | none => 0
abbrev parZ (s : parS) : Int32 := match s.1 with
  | some (_, x) => nI x
  | none => 0
theorem parB_Y {s : parS} {w : Int32} (h : s.1 ≠ none) (e : w = 0) : parY s = parB s w := by
  subst e
  obtain ⟨s1, s2, s3⟩ := s
  cases s1 with
  | none => exact absurd rfl h
  | some p => rfl
theorem parB_Z {s : parS} {w : Int32} (h : s.1 ≠ none) (e : ¬ w = 0) : parZ s = parB s w := by
  obtain ⟨s1, s2, s3⟩ := s
  cases s1 with
  | none => exact absurd rfl h
  | some p => show _ = if w = 0 then nI p.1 else nI p.2; rw [if_neg e]
set_option maxRecDepth 100000 in
set_option maxHeartbeats 400000 in
theorem m_parts (q : mAll G h T) (o : T.ok) (c d w : Int32) : rM l G 12 mX12_parts 0 0 [.ref (gN G + 38), .int c, .int d, .int w] h (fun h' v => v = some (.int (aParts T c d w)) ∧ mAll G h' T ∧ kp h h' mL) := by
  obtain ⟨i, j, q⟩ := q
  have hnl := o.nl6
  have hm12 := o.m12
  have hm := q.at
  have e15 := q.2.1.2.1
  rcases oT_cases (n := T.nl) (by omega) c with ⟨e1, hc⟩ | ⟨z, hz, rfl, e1⟩
  · have ea : aParts T c d w = -1 := by unfold aParts; rw [e1]
    refine rM_start (by decide) (Nat.le_of_ble_eq_true rfl) ?_
    refine a_aload_n 1 dX12_parts_0 rfl rfl ?_
    refine a_iload_n 2 dX12_parts_1 rfl rfl ?_
    refine a_callV ok_X12_noLaw ln_X12_218 in_X12_noLaw rfl 5 dX12_parts_2 rfl (m_noLaw q c) (by repeat (first | assumption | (refine rg_ne (by first | decide | omega) ?_) | apply rg_eq | refine rg_fr (by assumption) (by first | decide | (simp; omega)) ?_)) rfl rfl rfl ⟨(Nat.le_of_ble_eq_true rfl), (Nat.le_of_ble_eq_true rfl)⟩ (Nat.le_of_ble_eq_true rfl) ⟨(Nat.le_of_ble_eq_true rfl), (Nat.le_of_ble_eq_true rfl)⟩ ?_
    rintro _ _ ⟨rfl, rfl⟩
    refine a_if_ne 16 8 dX12_parts_5 rfl (by decide) (fun c_5 => ?_) (fun c_5 => absurd c_5 (by rw [if_neg hc]; decide))
    refine a_iconst (-1) 17 dX12_parts_16 rfl (by decide) ?_
    exact a_ireturn dX12_parts_17 rfl rfl (Nat.le_of_ble_eq_true rfl) (Nat.le_of_ble_eq_true rfl) ⟨by rw [ea], ⟨i, j, q⟩, fun _ _ _ => rfl⟩
  rcases oT_cases (n := T.nl) (by omega) d with ⟨e2, hd⟩ | ⟨u, hu, rfl, e2⟩
  · have ea : aParts T (nI z) d w = -1 := by unfold aParts; rw [e1, e2]
    refine rM_start (by decide) (Nat.le_of_ble_eq_true rfl) ?_
    refine a_aload_n 1 dX12_parts_0 rfl rfl ?_
    refine a_iload_n 2 dX12_parts_1 rfl rfl ?_
    refine a_callV ok_X12_noLaw ln_X12_218 in_X12_noLaw rfl 5 dX12_parts_2 rfl (m_noLaw q (nI z)) (by repeat (first | assumption | (refine rg_ne (by first | decide | omega) ?_) | apply rg_eq | refine rg_fr (by assumption) (by first | decide | (simp; omega)) ?_)) rfl rfl rfl ⟨(Nat.le_of_ble_eq_true rfl), (Nat.le_of_ble_eq_true rfl)⟩ (Nat.le_of_ble_eq_true rfl) ⟨(Nat.le_of_ble_eq_true rfl), (Nat.le_of_ble_eq_true rfl)⟩ ?_
    rintro _ _ ⟨rfl, rfl⟩
    refine a_if_ne 16 8 dX12_parts_5 rfl (by decide) (fun c_5 => absurd (if_pos (oT_yes hz (by omega))) c_5) (fun c_5 => ?_)
    refine a_aload_n 9 dX12_parts_8 rfl rfl ?_
    refine a_iload_n 10 dX12_parts_9 rfl rfl ?_
    refine a_callV ok_X12_noLaw ln_X12_218 in_X12_noLaw rfl 13 dX12_parts_10 rfl (m_noLaw q d) (by repeat (first | assumption | (refine rg_ne (by first | decide | omega) ?_) | apply rg_eq | refine rg_fr (by assumption) (by first | decide | (simp; omega)) ?_)) rfl rfl rfl ⟨(Nat.le_of_ble_eq_true rfl), (Nat.le_of_ble_eq_true rfl)⟩ (Nat.le_of_ble_eq_true rfl) ⟨(Nat.le_of_ble_eq_true rfl), (Nat.le_of_ble_eq_true rfl)⟩ ?_
    rintro _ _ ⟨rfl, rfl⟩
    refine a_if_eq 18 16 dX12_parts_13 rfl (by decide) (fun c_13 => absurd c_13 (by rw [if_neg hd]; decide)) (fun c_13 => ?_)
    refine a_iconst (-1) 17 dX12_parts_16 rfl (by decide) ?_
    exact a_ireturn dX12_parts_17 rfl rfl (Nat.le_of_ble_eq_true rfl) (Nat.le_of_ble_eq_true rfl) ⟨by rw [ea], ⟨i, j, q⟩, fun _ _ _ => rfl⟩
  have ea : aParts T (nI z) (nI u) w = if w = 0 ∨ w = 1 then (if T.m < 2 then -3 else parB (parE T z u) w) else -2 := by unfold aParts; rw [e1, e2]
  have e2m : (2 : Int32) ≤ nI T.m ↔ ¬ T.m < 2 := by
    rw [show (2 : Int32) = nI 2 from rfl, nI_leI (by omega) (by omega)]
    omega
  have hBR : (if (0 : Int64) ≤ w.toInt64 ∧ w.toInt64 ≤ 1 then (1 : Int32) else 0) = 0 ↔ ¬ (w = 0 ∨ w = 1) := by rw [b_eq0, in01 w]
  have A : ∀ (r y : Nat) (s : parS) (y8 y9 y10 : Int32) (o11 : Option Value) (h1 : rH) (j1 : Nat → Int64), mX G h1 T i j1 → fr h h1 [38] → ¬ T.m < 2 → (w = 0 ∨ w = 1) → y + r = T.m → s = parT T z u y (none, -1, 1) → y8 = parY s → y9 = parZ s → y10 = nI y → rW l G (rRm 12 0 0) mX12_parts (rZ G (fun h' v => v = some (.int (aParts T (nI z) (nI u) w)) ∧ mAll G h' T ∧ kp h h' mL) 0 0) 0 0 59 [some (.ref (gN G + 38)), some (.int (nI z)), some (.int (nI u)), some (.int w), some (.long s.2.1), none, some (.long s.2.2), none, some (.int y8), some (.int y9), some (.int y10), o11] [] h1 := by
    intro r
    induction r with
    | zero =>
      intro y s y8 y9 y10 o11 h1 j1 q1 hf1 hm2 hw hr hs h8 h9 h10
      subst h8; subst h9; subst h10
      have e : y = T.m := by omega
      subst e
      have hm1 := q1.at
      have es : s = parE T z u := hs
      have hn : s.1 ≠ none := by rw [es]; exact parE_some o hz hu (by omega)
      have ea2 : aParts T (nI z) (nI u) w = parB s w := by rw [ea, if_pos hw, if_neg hm2, es]
      refine a_iload 61 dX12_parts_59 rfl rfl ?_
      refine a_aload_n 62 dX12_parts_61 rfl rfl ?_
      refine a_get fd_X12_160 rfl 65 dX12_parts_62 rfl (by repeat (first | assumption | (refine rg_ne (by first | decide | omega) ?_) | apply rg_eq | refine rg_fr (by assumption) (by first | decide | (simp; omega)) ?_)) rfl ?_
      refine a_icmp_ge 147 68 dX12_parts_65 rfl (by decide) (fun c_65 => ?_) (fun c_65 => absurd (by rw [e15]; exact Int32.le_refl _) c_65)
      refine a_iload_n 148 dX12_parts_147 rfl rfl ?_
      refine a_if_ne 156 151 dX12_parts_148 rfl (by decide) (fun c_148 => ?_) (fun c_148 => ?_)
      · refine a_iload 158 dX12_parts_156 rfl rfl ?_
        exact a_ireturn dX12_parts_158 rfl rfl (Nat.le_of_ble_eq_true rfl) (Nat.le_of_ble_eq_true rfl) ⟨by rw [ea2, parB_Z hn c_148], ⟨i, _, q1⟩, kp_mono (kp_fr hf1) (by decide)⟩
      · refine a_iload 153 dX12_parts_151 rfl rfl ?_
        refine a_goto 158 dX12_parts_153 (by decide) ?_
        exact a_ireturn dX12_parts_158 rfl rfl (Nat.le_of_ble_eq_true rfl) (Nat.le_of_ble_eq_true rfl) ⟨by rw [ea2, parB_Y hn c_148], ⟨i, _, q1⟩, kp_mono (kp_fr hf1) (by decide)⟩
    | succ r ih =>
      intro y s y8 y9 y10 o11 h1 j1 q1 hf1 hm2 hw hr hs h8 h9 h10
      subst h8; subst h9; subst h10
      have hym : y < T.m := by omega
      have hm1 := q1.at
      have A2 : ∀ (r2 x : Nat) (v : parS) (y8 y9 y11 : Int32) (h1 : rH) (j1 : Nat → Int64), mX G h1 T i j1 → fr h h1 [38] → x + r2 = T.m → v = parX T z u y x s → y8 = parY v → y9 = parZ v → y11 = nI x → rW l G (rRm 12 0 0) mX12_parts (rZ G (fun h' v => v = some (.int (aParts T (nI z) (nI u) w)) ∧ mAll G h' T ∧ kp h h' mL) 0 0) 0 0 71 [some (.ref (gN G + 38)), some (.int (nI z)), some (.int (nI u)), some (.int w), some (.long v.2.1), none, some (.long v.2.2), none, some (.int y8), some (.int y9), some (.int (nI y)), some (.int y11)] [] h1 := by
        intro r2
        induction r2 with
        | zero =>
          intro x v y8 y9 y11 h1 j1 q1 hf1 hr2 hv h8 h9 h11
          subst h8; subst h9; subst h11
          have e : x = T.m := by omega
          subst e
          have hm1 := q1.at
          refine a_iload 73 dX12_parts_71 rfl rfl ?_
          refine a_aload_n 74 dX12_parts_73 rfl rfl ?_
          refine a_get fd_X12_160 rfl 77 dX12_parts_74 rfl (by repeat (first | assumption | (refine rg_ne (by first | decide | omega) ?_) | apply rg_eq | refine rg_fr (by assumption) (by first | decide | (simp; omega)) ?_)) rfl ?_
          refine a_icmp_ge 141 80 dX12_parts_77 rfl (by decide) (fun c_77 => ?_) (fun c_77 => absurd (by rw [e15]; exact Int32.le_refl _) c_77)
          refine a_iinc _ 144 dX12_parts_141 rfl rfl (by decide) rfl ?_
          refine a_goto 59 dX12_parts_144 (by decide) ?_
          exact ih (y + 1) v _ _ _ _ _ _ q1 hf1 hm2 hw (by omega) (by rw [parT, ← hs]; exact hv) rfl rfl (nI_1 y)
        | succ r2 ih2 =>
          intro x v y8 y9 y11 h1 j1 q1 hf1 hr2 hv h8 h9 h11
          subst h8; subst h9; subst h11
          have hxm : x < T.m := by omega
          have hm1 := q1.at
          have hne := nI_eq (a := x) (b := y) (by omega) (by omega)
          have hsx : parX T z u y (x + 1) s = if x ≠ y ∧ v.2.1 * lN (odlN (T.fi z x y) (T.fi u x y)) < lN (oduN (T.fi z x y) (T.fi u x y)) * v.2.2 then (some (y, x), lN (oduN (T.fi z x y) (T.fi u x y)), lN (odlN (T.fi z x y) (T.fi u x y))) else v := by rw [hv]; rfl
          refine a_iload 73 dX12_parts_71 rfl rfl ?_
          refine a_aload_n 74 dX12_parts_73 rfl rfl ?_
          refine a_get fd_X12_160 rfl 77 dX12_parts_74 rfl (by repeat (first | assumption | (refine rg_ne (by first | decide | omega) ?_) | apply rg_eq | refine rg_fr (by assumption) (by first | decide | (simp; omega)) ?_)) rfl ?_
          refine a_icmp_ge 141 80 dX12_parts_77 rfl (by decide) (fun c_77 => absurd c_77 (by rw [e15]; exact nI_ge (a := x) (b := T.m) (by omega) (by omega))) (fun c_77 => ?_)
          refine a_iload 82 dX12_parts_80 rfl rfl ?_
          refine a_iload 84 dX12_parts_82 rfl rfl ?_
          refine a_icmp_eq 135 87 dX12_parts_84 rfl (by decide) (fun c_84 => ?_) (fun c_84 => ?_)
          · refine a_iinc _ 138 dX12_parts_135 rfl rfl (by decide) rfl ?_
            refine a_goto 71 dX12_parts_138 (by decide) ?_
            exact ih2 (x + 1) v _ _ _ _ _ q1 hf1 (by omega) (by rw [hsx, if_neg (fun w => w.1 (hne.mp c_84))]) rfl rfl (nI_1 x)
          · refine a_aload_n 88 dX12_parts_87 rfl rfl ?_
            refine a_iload_n 89 dX12_parts_88 rfl rfl ?_
            refine a_iload_n 90 dX12_parts_89 rfl rfl ?_
            refine a_iload 92 dX12_parts_90 rfl rfl ?_
            refine a_iload 94 dX12_parts_92 rfl rfl ?_
            refine a_callV ok_X12_layFilm ln_X12_317 in_X12_layFilm rfl 97 dX12_parts_94 rfl (k_X12_layFilm q1 o hz hu hxm hym) (by repeat (first | assumption | (refine rg_ne (by first | decide | omega) ?_) | apply rg_eq | refine rg_fr (by assumption) (by first | decide | (simp; omega)) ?_)) rfl rfl rfl ⟨(Nat.le_of_ble_eq_true rfl), (Nat.le_of_ble_eq_true rfl)⟩ (Nat.le_of_ble_eq_true rfl) ⟨(Nat.le_of_ble_eq_true rfl), (Nat.le_of_ble_eq_true rfl)⟩ ?_
            rintro h2 v2 ⟨rfl, q2, hf2⟩
            have hm2 := q2.at
            have hf3 := fr_trans hf1 hf2 (fun _ q => q)
            refine a_aload_n 98 dX12_parts_97 rfl rfl ?_
            refine a_get fd_X12_310 rfl 101 dX12_parts_98 rfl (by repeat (first | assumption | (refine rg_ne (by first | decide | omega) ?_) | apply rg_eq | refine rg_fr (by assumption) (by first | decide | (simp; omega)) ?_)) rfl ?_
            refine a_lload 103 dX12_parts_101 rfl rfl ?_
            refine a_lmul 104 dX12_parts_103 rfl ?_
            refine a_lload 106 dX12_parts_104 rfl rfl ?_
            refine a_aload_n 107 dX12_parts_106 rfl rfl ?_
            refine a_get fd_X12_314 rfl 110 dX12_parts_107 rfl (by repeat (first | assumption | (refine rg_ne (by first | decide | omega) ?_) | apply rg_eq | refine rg_fr (by assumption) (by first | decide | (simp; omega)) ?_)) rfl ?_
            refine a_lmul 111 dX12_parts_110 rfl ?_
            refine a_lcmp 112 dX12_parts_111 rfl ?_
            refine a_if_le 135 115 dX12_parts_112 rfl (by decide) (fun c_112 => ?_) (fun c_112 => ?_)
            · refine a_iinc _ 138 dX12_parts_135 rfl rfl (by decide) rfl ?_
              refine a_goto 71 dX12_parts_138 (by decide) ?_
              exact ih2 (x + 1) v _ _ _ _ _ q2 hf3 (by omega) (by rw [hsx, if_neg (fun w => absurd ((lg_cmp_le _ _).mp c_112) (Int64.not_le.mpr w.2))]) rfl rfl (nI_1 x)
            · refine a_aload_n 116 dX12_parts_115 rfl rfl ?_
              refine a_get fd_X12_310 rfl 119 dX12_parts_116 rfl (by repeat (first | assumption | (refine rg_ne (by first | decide | omega) ?_) | apply rg_eq | refine rg_fr (by assumption) (by first | decide | (simp; omega)) ?_)) rfl ?_
              refine a_lstore 121 dX12_parts_119 rfl (by decide) ?_
              refine a_aload_n 122 dX12_parts_121 rfl rfl ?_
              refine a_get fd_X12_314 rfl 125 dX12_parts_122 rfl (by repeat (first | assumption | (refine rg_ne (by first | decide | omega) ?_) | apply rg_eq | refine rg_fr (by assumption) (by first | decide | (simp; omega)) ?_)) rfl ?_
              refine a_lstore 127 dX12_parts_125 rfl (by decide) ?_
              refine a_iload 129 dX12_parts_127 rfl rfl ?_
              refine a_istore 131 dX12_parts_129 rfl (by decide) ?_
              refine a_iload 133 dX12_parts_131 rfl rfl ?_
              refine a_istore 135 dX12_parts_133 rfl (by decide) ?_
              refine a_iinc _ 138 dX12_parts_135 rfl rfl (by decide) rfl ?_
              refine a_goto 71 dX12_parts_138 (by decide) ?_
              exact ih2 (x + 1) (some (y, x), lN (oduN (T.fi z x y) (T.fi u x y)), lN (odlN (T.fi z x y) (T.fi u x y))) _ _ _ _ _ q2 hf3 (by omega) (by rw [hsx, if_pos ⟨fun w => c_84 (hne.mpr w), Int64.not_le.mp (fun w => c_112 ((lg_cmp_le _ _).mpr w))⟩]) rfl rfl (nI_1 x)
      refine a_iload 61 dX12_parts_59 rfl rfl ?_
      refine a_aload_n 62 dX12_parts_61 rfl rfl ?_
      refine a_get fd_X12_160 rfl 65 dX12_parts_62 rfl (by repeat (first | assumption | (refine rg_ne (by first | decide | omega) ?_) | apply rg_eq | refine rg_fr (by assumption) (by first | decide | (simp; omega)) ?_)) rfl ?_
      refine a_icmp_ge 147 68 dX12_parts_65 rfl (by decide) (fun c_65 => absurd c_65 (by rw [e15]; exact nI_ge (a := y) (b := T.m) (by omega) (by omega))) (fun c_65 => ?_)
      refine a_iconst (0) 69 dX12_parts_68 rfl (by decide) ?_
      refine a_istore 71 dX12_parts_69 rfl (by decide) ?_
      exact A2 T.m 0 s _ _ _ _ _ q1 hf1 (by omega) rfl rfl rfl rfl
  refine rM_start (by decide) (Nat.le_of_ble_eq_true rfl) ?_
  refine a_aload_n 1 dX12_parts_0 rfl rfl ?_
  refine a_iload_n 2 dX12_parts_1 rfl rfl ?_
  refine a_callV ok_X12_noLaw ln_X12_218 in_X12_noLaw rfl 5 dX12_parts_2 rfl (m_noLaw q (nI z)) (by repeat (first | assumption | (refine rg_ne (by first | decide | omega) ?_) | apply rg_eq | refine rg_fr (by assumption) (by first | decide | (simp; omega)) ?_)) rfl rfl rfl ⟨(Nat.le_of_ble_eq_true rfl), (Nat.le_of_ble_eq_true rfl)⟩ (Nat.le_of_ble_eq_true rfl) ⟨(Nat.le_of_ble_eq_true rfl), (Nat.le_of_ble_eq_true rfl)⟩ ?_
  rintro _ _ ⟨rfl, rfl⟩
  refine a_if_ne 16 8 dX12_parts_5 rfl (by decide) (fun c_5 => absurd (if_pos (oT_yes hz (by omega))) c_5) (fun c_5 => ?_)
  refine a_aload_n 9 dX12_parts_8 rfl rfl ?_
  refine a_iload_n 10 dX12_parts_9 rfl rfl ?_
  refine a_callV ok_X12_noLaw ln_X12_218 in_X12_noLaw rfl 13 dX12_parts_10 rfl (m_noLaw q (nI u)) (by repeat (first | assumption | (refine rg_ne (by first | decide | omega) ?_) | apply rg_eq | refine rg_fr (by assumption) (by first | decide | (simp; omega)) ?_)) rfl rfl rfl ⟨(Nat.le_of_ble_eq_true rfl), (Nat.le_of_ble_eq_true rfl)⟩ (Nat.le_of_ble_eq_true rfl) ⟨(Nat.le_of_ble_eq_true rfl), (Nat.le_of_ble_eq_true rfl)⟩ ?_
  rintro _ _ ⟨rfl, rfl⟩
  refine a_if_eq 18 16 dX12_parts_13 rfl (by decide) (fun c_13 => ?_) (fun c_13 => absurd (if_pos (oT_yes hu (by omega))) c_13)
  refine a_iload_n 19 dX12_parts_18 rfl rfl ?_
  refine a_i2l 20 dX12_parts_19 rfl ?_
  refine a_lconst (0) 21 dX12_parts_20 rfl (by decide) ?_
  refine a_lconst (1) 22 dX12_parts_21 rfl (by decide) ?_
  refine a_callS ok_X12_in ln_X12_97 is_X12_in rfl 25 dX12_parts_22 rfl (k_X12_in _ _ _) rfl rfl ⟨(Nat.le_of_ble_eq_true rfl), (Nat.le_of_ble_eq_true rfl)⟩ (Nat.le_of_ble_eq_true rfl) ⟨(Nat.le_of_ble_eq_true rfl), (Nat.le_of_ble_eq_true rfl)⟩ ?_
  rintro _ _ ⟨rfl, rfl⟩
  refine a_if_ne 31 28 dX12_parts_25 rfl (by decide) (fun c_25 => ?_) (fun c_25 => ?_)
  · refine a_aload_n 32 dX12_parts_31 rfl rfl ?_
    refine a_get fd_X12_160 rfl 35 dX12_parts_32 rfl (by repeat (first | assumption | (refine rg_ne (by first | decide | omega) ?_) | apply rg_eq | refine rg_fr (by assumption) (by first | decide | (simp; omega)) ?_)) rfl ?_
    refine a_iconst (2) 36 dX12_parts_35 rfl (by decide) ?_
    refine a_icmp_ge 42 39 dX12_parts_36 rfl (by decide) (fun c_36 => ?_) (fun c_36 => ?_)
    · refine a_ldc2 (-1) 45 dX12_parts_42 rfl lk_X12_299 ?_
      refine a_lstore 47 dX12_parts_45 rfl (by decide) ?_
      refine a_lconst (1) 48 dX12_parts_47 rfl (by decide) ?_
      refine a_lstore 50 dX12_parts_48 rfl (by decide) ?_
      refine a_iconst (0) 51 dX12_parts_50 rfl (by decide) ?_
      refine a_istore 53 dX12_parts_51 rfl (by decide) ?_
      refine a_iconst (0) 54 dX12_parts_53 rfl (by decide) ?_
      refine a_istore 56 dX12_parts_54 rfl (by decide) ?_
      refine a_iconst (0) 57 dX12_parts_56 rfl (by decide) ?_
      refine a_istore 59 dX12_parts_57 rfl (by decide) ?_
      exact A T.m 0 (none, -1, 1) _ _ _ _ _ j q (fr_refl _ _) (e2m.mp (e15 ▸ c_36)) (Decidable.not_not.mp (fun v => c_25 (hBR.mpr v))) (by omega) rfl rfl rfl rfl
    · refine a_bipush (-3) 41 dX12_parts_39 rfl (by decide) ?_
      exact a_ireturn dX12_parts_41 rfl rfl (Nat.le_of_ble_eq_true rfl) (Nat.le_of_ble_eq_true rfl) ⟨by rw [ea, if_pos (Decidable.not_not.mp (fun v => c_25 (hBR.mpr v))), if_pos (Decidable.not_not.mp (fun v => c_36 (e15 ▸ e2m.mpr v)))], ⟨i, j, q⟩, fun _ _ _ => rfl⟩
  · refine a_bipush (-2) 30 dX12_parts_28 rfl (by decide) ?_
    exact a_ireturn dX12_parts_30 rfl rfl (Nat.le_of_ble_eq_true rfl) (Nat.le_of_ble_eq_true rfl) ⟨by rw [ea, if_neg (hBR.mp c_25)], ⟨i, j, q⟩, fun _ _ _ => rfl⟩
end MFILM
