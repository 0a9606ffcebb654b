/-! THE MODEL: carriage -/
section MCARB3
variable {l : Launch} {G : rG} {h : rH} {T : Tn} {i : Nat → Int32} {j : Nat → Int64}
set_option maxRecDepth 100000 in
set_option maxHeartbeats 400000 in
theorem m_carriage (q : mAll G h T) (o : T.ok) (c d a n : Int32) : rM l G 12 mX12_carriage 0 0 [.ref (gN G + 38), .int c, .int d, .int a, .int n] h (fun h' v => v = some (.int (aCar T c d a n).1) ∧ mAll G h' (aCar T c d a n).2 ∧ kp h h' mL) := by
  obtain ⟨i, j, q⟩ := q
  have hm := q.at
  by_cases hr : (refF T c d a n).1 = 0
  · have hk0 := m_kept0 (l := l) q o hr
    obtain ⟨z, b, N, hz, rfl, ez, rfl, rfl, hbN, er, hh, hl⟩ := refF_ok o hr
    have hsz := o.sz60 hz
    obtain ⟨f, g, w, h57, h58, h59, hx⟩ := q.2.2.2.2.1
    obtain ⟨⟨f42, p42⟩, -⟩ := q.2.2.2.2.2.1
    have hcd : ∀ p, p < N → codW w (60 * z + b) p = codeT T z b p := fun p hp => by
      show w (60 * z + b + p) = T.ce z (b + p)
      rw [Nat.add_assoc]; exact (hx z hz).2.2 _ (show b + p < T.sz z by omega)
    have ea : aCar T (nI z) d (nI b) (nI N) = carR T (codeT T z b) (carS (codW w (60 * z + b)) N) := by
      unfold aCar
      rw [if_pos hr, ez, nI_clamp (by omega), nI_clamp (by omega), carS_cg hcd]
    have e26 : (60 : Int32) * nI z + nI b = nI (60 * z + b) := by rw [show (60 : Int32) = nI 60 from rfl, pk_mul, nI_add]
    have hR := k_X12_readsCarriage (l := l) (s := 60 * z + b) (N := N) hm h59 p42 (by omega) (by omega)
    rw [ea]
    cases hX : carS (codW w (60 * z + b)) N with
    | inl p =>
      rw [hX] at hR
      refine rM_start (by decide) (Nat.le_of_ble_eq_true rfl) ?_
      refine a_aload_n 1 dX12_carriage_0 rfl rfl ?_
      refine a_iload_n 2 dX12_carriage_1 rfl rfl ?_
      refine a_iload_n 3 dX12_carriage_2 rfl rfl ?_
      refine a_iload_n 4 dX12_carriage_3 rfl rfl ?_
      refine a_iload 6 dX12_carriage_4 rfl rfl ?_
      refine a_i2l 7 dX12_carriage_6 rfl ?_
      refine a_callV ok_X12_kept ln_X12_145 in_X12_kept rfl 10 dX12_carriage_7 rfl (hk0) (by repeat (first | assumption | (refine rg_ne (by first | decide | omega) ?_) | apply rg_eq | refine rg_fr (by assumption) (by first | decide | (simp; omega)) ?_)) rfl rfl rfl ⟨(Nat.le_of_ble_eq_true rfl), (Nat.le_of_ble_eq_true rfl)⟩ (Nat.le_of_ble_eq_true rfl) ⟨(Nat.le_of_ble_eq_true rfl), (Nat.le_of_ble_eq_true rfl)⟩ ?_
      rintro _ _ ⟨rfl, rfl⟩
      refine a_istore 12 dX12_carriage_10 rfl (by decide) ?_
      refine a_iload 14 dX12_carriage_12 rfl rfl ?_
      refine a_if_ge 20 17 dX12_carriage_14 rfl (by decide) (fun c_14 => ?_) (fun c_14 => absurd (Int32.le_refl _) c_14)
      refine a_aload_n 21 dX12_carriage_20 rfl rfl ?_
      refine a_bipush (60) 23 dX12_carriage_21 rfl (by decide) ?_
      refine a_iload_n 24 dX12_carriage_23 rfl rfl ?_
      refine a_imul 25 dX12_carriage_24 rfl ?_
      refine a_iload_n 26 dX12_carriage_25 rfl rfl ?_
      refine a_iadd 27 dX12_carriage_26 rfl ?_
      refine a_iload 29 dX12_carriage_27 rfl rfl ?_
      rw [e26]
      refine a_callV ok_X12_readsCarriage ln_X12_149 in_X12_readsCarriage rfl 32 dX12_carriage_29 rfl (hR) (by repeat (first | assumption | (refine rg_ne (by first | decide | omega) ?_) | apply rg_eq | refine rg_fr (by assumption) (by first | decide | (simp; omega)) ?_)) rfl rfl rfl ⟨(Nat.le_of_ble_eq_true rfl), (Nat.le_of_ble_eq_true rfl)⟩ (Nat.le_of_ble_eq_true rfl) ⟨(Nat.le_of_ble_eq_true rfl), (Nat.le_of_ble_eq_true rfl)⟩ ?_
      rintro h1 v ⟨i1, fa, e1, e42, s1, f1, rfl, g7, hp60⟩
      have F60 := f1
      refine a_if_ne 47 35 dX12_carriage_32 rfl (by decide) (fun c_32 => absurd rfl c_32) (fun c_32 => ?_)
      refine a_aload_n 36 dX12_carriage_35 rfl rfl ?_
      refine a_bipush (-100) 38 dX12_carriage_36 rfl (by decide) ?_
      refine a_aload_n 39 dX12_carriage_38 rfl rfl ?_
      refine a_get fd_X12_118 rfl 42 dX12_carriage_39 rfl (by repeat (first | assumption | (refine rg_ne (by first | decide | omega) ?_) | apply rg_eq | refine rg_fr (by assumption) (by first | decide | (simp; omega)) ?_)) rfl ?_
      refine a_isub 43 dX12_carriage_42 rfl ?_
      rw [g7]
      refine a_callV ok_X12_refused ln_X12_91 in_X12_refused rfl 46 dX12_carriage_43 rfl (k_X12_refused e1 _) (by repeat (first | assumption | (refine rg_ne (by first | decide | omega) ?_) | apply rg_eq | refine rg_fr (by assumption) (by first | decide | (simp; omega)) ?_)) rfl rfl rfl ⟨(Nat.le_of_ble_eq_true rfl), (Nat.le_of_ble_eq_true rfl)⟩ (Nat.le_of_ble_eq_true rfl) ⟨(Nat.le_of_ble_eq_true rfl), (Nat.le_of_ble_eq_true rfl)⟩ ?_
      rintro h2 v ⟨rfl, e2, f2⟩
      exact a_ireturn dX12_carriage_46 rfl rfl (Nat.le_of_ble_eq_true rfl) (Nat.le_of_ble_eq_true rfl) ⟨rfl, ⟨_, j, mX_fa (mX_w q e1 (mk_42 q.2.2.2.2.2.1 e42 F60) F60 (by decide) s1) e2 f2⟩, kpm (fr_trans F60 f2 (by decide)) (by decide)⟩
    | inr y =>
      obtain ⟨le, wi, mir⟩ := y
      rw [hX] at hR
      obtain ⟨⟨⟨fn, -, -, -, a4, a5, a6, a7, -⟩, -, -, -, b4, -, ⟨s, b6, b7⟩, -⟩, -⟩ := id q
      have hn32 := o.n32
      refine rM_start (by decide) (Nat.le_of_ble_eq_true rfl) ?_
      refine a_aload_n 1 dX12_carriage_0 rfl rfl ?_
      refine a_iload_n 2 dX12_carriage_1 rfl rfl ?_
      refine a_iload_n 3 dX12_carriage_2 rfl rfl ?_
      refine a_iload_n 4 dX12_carriage_3 rfl rfl ?_
      refine a_iload 6 dX12_carriage_4 rfl rfl ?_
      refine a_i2l 7 dX12_carriage_6 rfl ?_
      refine a_callV ok_X12_kept ln_X12_145 in_X12_kept rfl 10 dX12_carriage_7 rfl (hk0) (by repeat (first | assumption | (refine rg_ne (by first | decide | omega) ?_) | apply rg_eq | refine rg_fr (by assumption) (by first | decide | (simp; omega)) ?_)) rfl rfl rfl ⟨(Nat.le_of_ble_eq_true rfl), (Nat.le_of_ble_eq_true rfl)⟩ (Nat.le_of_ble_eq_true rfl) ⟨(Nat.le_of_ble_eq_true rfl), (Nat.le_of_ble_eq_true rfl)⟩ ?_
      rintro _ _ ⟨rfl, rfl⟩
      refine a_istore 12 dX12_carriage_10 rfl (by decide) ?_
      refine a_iload 14 dX12_carriage_12 rfl rfl ?_
      refine a_if_ge 20 17 dX12_carriage_14 rfl (by decide) (fun c_14 => ?_) (fun c_14 => absurd (Int32.le_refl _) c_14)
      refine a_aload_n 21 dX12_carriage_20 rfl rfl ?_
      refine a_bipush (60) 23 dX12_carriage_21 rfl (by decide) ?_
      refine a_iload_n 24 dX12_carriage_23 rfl rfl ?_
      refine a_imul 25 dX12_carriage_24 rfl ?_
      refine a_iload_n 26 dX12_carriage_25 rfl rfl ?_
      refine a_iadd 27 dX12_carriage_26 rfl ?_
      refine a_iload 29 dX12_carriage_27 rfl rfl ?_
      rw [e26]
      refine a_callV ok_X12_readsCarriage ln_X12_149 in_X12_readsCarriage rfl 32 dX12_carriage_29 rfl (hR) (by repeat (first | assumption | (refine rg_ne (by first | decide | omega) ?_) | apply rg_eq | refine rg_fr (by assumption) (by first | decide | (simp; omega)) ?_)) rfl rfl rfl ⟨(Nat.le_of_ble_eq_true rfl), (Nat.le_of_ble_eq_true rfl)⟩ (Nat.le_of_ble_eq_true rfl) ⟨(Nat.le_of_ble_eq_true rfl), (Nat.le_of_ble_eq_true rfl)⟩ ?_
      rintro h1 v ⟨i1, fa, e1, e42, s1, f1, rfl, g9, g10, g11, l1, l2, w1, w2, hKN, hfa⟩
      refine a_if_ne 47 35 dX12_carriage_32 rfl (by decide) (fun c_32 => ?_) (fun c_32 => absurd c_32 (by decide))
      refine a_aload_n 48 dX12_carriage_47 rfl rfl ?_
      refine a_aload_n 49 dX12_carriage_48 rfl rfl ?_
      refine a_get fd_X12_132 rfl 52 dX12_carriage_49 rfl (by repeat (first | assumption | (refine rg_ne (by first | decide | omega) ?_) | apply rg_eq | refine rg_fr (by assumption) (by first | decide | (simp; omega)) ?_)) rfl ?_
      refine a_put fd_X12_108 cl_X12 rfl 55 dX12_carriage_52 rfl (by repeat (first | assumption | (refine rg_ne (by first | decide | omega) ?_) | apply rg_eq | refine rg_fr (by assumption) (by first | decide | (simp; omega)) ?_)) (Nat.le_of_ble_eq_true rfl) rfl rfl rfl ?_
      refine a_aload_n 56 dX12_carriage_55 rfl rfl ?_
      refine a_aload_n 57 dX12_carriage_56 rfl rfl ?_
      refine a_get fd_X12_135 rfl 60 dX12_carriage_57 rfl (by repeat (first | assumption | (refine rg_ne (by first | decide | omega) ?_) | apply rg_eq | refine rg_fr (by assumption) (by first | decide | (simp; omega)) ?_)) rfl ?_
      refine a_put fd_X12_111 cl_X12 rfl 63 dX12_carriage_60 rfl (by repeat (first | assumption | (refine rg_ne (by first | decide | omega) ?_) | apply rg_eq | refine rg_fr (by assumption) (by first | decide | (simp; omega)) ?_)) (Nat.le_of_ble_eq_true rfl) rfl rfl rfl ?_
      refine a_aload_n 64 dX12_carriage_63 rfl rfl ?_
      refine a_aload_n 65 dX12_carriage_64 rfl rfl ?_
      refine a_get fd_X12_138 rfl 68 dX12_carriage_65 rfl (by repeat (first | assumption | (refine rg_ne (by first | decide | omega) ?_) | apply rg_eq | refine rg_fr (by assumption) (by first | decide | (simp; omega)) ?_)) rfl ?_
      refine a_put fd_X12_153 cl_X12 rfl 71 dX12_carriage_68 rfl (by repeat (first | assumption | (refine rg_ne (by first | decide | omega) ?_) | apply rg_eq | refine rg_fr (by assumption) (by first | decide | (simp; omega)) ?_)) (Nat.le_of_ble_eq_true rfl) rfl (by rw [g11]; exact nb_bI mir) (by rw [g11]; exact fb_bI mir) ?_
      refine a_iconst (0) 72 dX12_carriage_71 rfl (by decide) ?_
      refine a_istore 74 dX12_carriage_72 rfl (by decide) ?_
      exact carM1 (T := T) (i := i) (i2 := upd (upd (upd i1 1 (i1 9)) 2 (i1 10)) 3 (i1 11)) q o l2 w2 (fun t ht => by rw [← hcd _ (by omega)]; exact hfa t ht) a5 ⟨s1.1, g9, g10, g11, s1.2.2.2.2.1, s1.2.2.2.2.2.1, s1.2.2.2.2.2.2.1, s1.2.2.2.2.2.2.2⟩ 32 0 _ _ _ _ s _ (by omega) rfl (rg_eq (rg_eq (rg_eq e1))) (rg_ne (by decide) (rg_ne (by decide) (rg_ne (by decide) (rg_fr f1 (by decide) b4)))) (rg_ne (by decide) (rg_ne (by decide) (rg_ne (by decide) (rg_fr f1 (by decide) a6)))) (rg_ne (by decide) (rg_ne (by decide) (rg_ne (by decide) (rg_fr f1 (by decide) a7)))) (rg_ne (by decide) (rg_ne (by decide) (rg_ne (by decide) e42))) (rg_ne (by decide) (rg_ne (by decide) (rg_ne (by decide) (rg_fr f1 (by decide) a4)))) (rg_ne (by decide) (rg_ne (by decide) (rg_ne (by decide) (rg_fr f1 (by decide) b6)))) (fun t ht => absurd ht (by omega)) (fun _ _ => rfl) (fun t ht => absurd ht (by omega)) (fun _ _ => rfl) (fun t ht => absurd ht (by omega)) (fun _ _ => rfl) (fun t ht => absurd ht (by omega)) (fun t ht => b7 t (by omega)) (fr_set (fr_set (fr_set (fr_mono f1 (by decide)) (by decide)) (by decide)) (by decide))
  · have ea : aCar T c d a n = ((refF T c d a n).1, setFT T (refF T c d a n).2 T.tr) := by unfold aCar; rw [if_neg hr]
    rw [ea]
    refine rM_start (by decide) (Nat.le_of_ble_eq_true rfl) ?_
    refine a_aload_n 1 dX12_carriage_0 rfl rfl ?_
    refine a_iload_n 2 dX12_carriage_1 rfl rfl ?_
    refine a_iload_n 3 dX12_carriage_2 rfl rfl ?_
    refine a_iload_n 4 dX12_carriage_3 rfl rfl ?_
    refine a_iload 6 dX12_carriage_4 rfl rfl ?_
    refine a_i2l 7 dX12_carriage_6 rfl ?_
    refine a_callV ok_X12_kept ln_X12_145 in_X12_kept rfl 10 dX12_carriage_7 rfl (m_keptN q o hr) (by repeat (first | assumption | (refine rg_ne (by first | decide | omega) ?_) | apply rg_eq | refine rg_fr (by assumption) (by first | decide | (simp; omega)) ?_)) rfl rfl rfl ⟨(Nat.le_of_ble_eq_true rfl), (Nat.le_of_ble_eq_true rfl)⟩ (Nat.le_of_ble_eq_true rfl) ⟨(Nat.le_of_ble_eq_true rfl), (Nat.le_of_ble_eq_true rfl)⟩ ?_
    rintro h1 _ ⟨rfl, hlt, q1, f1⟩
    refine a_istore 12 dX12_carriage_10 rfl (by decide) ?_
    refine a_iload 14 dX12_carriage_12 rfl rfl ?_
    refine a_if_ge 20 17 dX12_carriage_14 rfl (by decide) (fun c_14 => absurd c_14 (Int32.not_le.mpr hlt)) (fun c_14 => ?_)
    refine a_iload 19 dX12_carriage_17 rfl rfl ?_
    exact a_ireturn dX12_carriage_19 rfl rfl (Nat.le_of_ble_eq_true rfl) (Nat.le_of_ble_eq_true rfl) ⟨rfl, ⟨_, j, q1⟩, kpm f1 (by decide)⟩
end MCARB3
