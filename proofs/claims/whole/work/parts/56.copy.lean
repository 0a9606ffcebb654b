/-! COPIES of cells -/
def cpyC (s d : Nat → Int32) (i j n : Nat) : Nat → Int32 := fun k => if j ≤ k ∧ k < j + n then s (i + (k - j)) else d k
def copF (T : Tn) (z y : Nat) (i j n : Int32) : Int32 := if T.has z = true ∧ T.has y = true then (if T.ln z = T.ln y then (if hasC (T.sz z) i n ∧ hasC (T.sz y) j n then 0 else 3) else 2) else 1
def aCopy (T : Tn) (c i d j n : Int32) : Int32 := match oT 4 c, oT 4 d with
  | some z, some y => if copF T z y i j n = 0 then n else -10 - copF T z y i j n
  | _, _ => -1
def tCopy (T : Tn) (c i d j n : Int32) : Tn := match oT 4 c, oT 4 d with
  | some z, some y => if copF T z y i j n = 0 then setS T 0 y true (T.ln y) (T.sz y) (cpyC (T.ce z) (T.ce y) i.toNatClampNeg j.toNatClampNeg n.toNatClampNeg) else setFT T (copF T z y i j n) T.tr
  | _, _ => setFT T 0 T.tr
theorem hasC_N {sz : Nat} (hs : sz ≤ 60) {i n : Int32} (h : hasC sz i n) : ∃ a b : Nat, i = nI a ∧ n = nI b ∧ a + b ≤ sz := by
  obtain ⟨h1, h2, h3, h4⟩ := h
  obtain ⟨a, ha, rfl⟩ := nI_of (Int32.not_lt.mpr h1)
  obtain ⟨b, hb, rfl⟩ := nI_of (Int32.not_lt.mpr h3)
  rw [nI_leI ha (by omega)] at h2
  rw [pk_sub h2, nI_leI hb (by omega)] at h4
  exact ⟨a, b, rfl, rfl, by omega⟩
theorem cpy_k {f g s d : Nat → Int32} {sz sy i j n : Nat} (hf : ∀ k, k < sz → f k = s k) (hg : ∀ k, k < sy → g k = d k) (h : i + n ≤ sz) {k : Nat} (hk : k < sy) : va_cpy f g i j n k = cpyC s d i j n k := by
  unfold cpyC
  by_cases e : j ≤ k ∧ k < j + n
  · rw [pk_cpy_in e.1 e.2, if_pos e, hf _ (by omega)]
  · rw [pk_cpy_out (by omega), if_neg e, hg k hk]
section COPY2
variable {l : Launch} {G : rG} {h : rH} {T : Tn}
set_option maxRecDepth 100000 in
set_option maxHeartbeats 400000 in
theorem k_X8_copyTo {a b ca cb sz sy : Nat} {h1 l1 h2 l2 : Int32} {f g : Nat → Int32} (hc : h[a]? = some (.inr (8, [.ref (gN G + ca), .int h1, .int l1, .int (nI sz)]))) (hd : h[b]? = some (.inr (8, [.ref (gN G + cb), .int h2, .int l2, .int (nI sy)]))) (hf : h[ca]? = some (.inl (gA G 0, 60, .inl f))) (hg : h[cb]? = some (.inl (gA G 0, 60, .inl g))) (hsz : sz ≤ 60) (hsy : sy ≤ 60) {i j n : Int32} (x : hasC sz i n) (y : hasC sy j n) : rM l G 1 mX8_copyTo 0 0 [.ref (gN G + a), .int i, .ref (gN G + b), .int j, .int n] h (rV (h.set cb (.inl (gA G 0, 60, .inl (va_cpy f g i.toNatClampNeg j.toNatClampNeg n.toNatClampNeg)))) none) := by
  obtain ⟨a1, b1, e1, e2, e3⟩ := hasC_N hsz x
  obtain ⟨a2, b2, e4, e5, e6⟩ := hasC_N hsy y
  subst e1; subst e2; subst e4
  have e7 : b1 = b2 := (nI_eq (by have := x.2.2.2; omega) (by omega)).mp e5
  subst e7
  refine rM_start (by decide) (Nat.le_of_ble_eq_true rfl) ?_
  refine a_aload_n 1 dX8_copyTo_0 rfl rfl ?_
  refine a_iload_n 2 dX8_copyTo_1 rfl rfl ?_
  refine a_iload 4 dX8_copyTo_2 rfl rfl ?_
  refine a_callV ok_X8_hasCells ln_X8_30 in_X8_hasCells rfl 7 dX8_copyTo_4 rfl (k_X8_hasCells hc (nI a1) (nI b1)) (by repeat (first | assumption | (refine rg_ne (by first | decide | omega) ?_) | apply rg_eq | refine rg_fr (by assumption) (by first | decide | (simp; omega)) ?_)) rfl rfl rfl ⟨(Nat.le_of_ble_eq_true rfl), (Nat.le_of_ble_eq_true rfl)⟩ (Nat.le_of_ble_eq_true rfl) ⟨(Nat.le_of_ble_eq_true rfl), (Nat.le_of_ble_eq_true rfl)⟩ ?_
  rintro _ _ ⟨rfl, rfl⟩
  refine a_if_eq 35 10 dX8_copyTo_7 rfl (by decide) (fun c_7 => absurd c_7 (by rw [if_pos x]; decide)) (fun c_7 => ?_)
  refine a_aload_n 11 dX8_copyTo_10 rfl rfl ?_
  refine a_iload_n 12 dX8_copyTo_11 rfl rfl ?_
  refine a_iload 14 dX8_copyTo_12 rfl rfl ?_
  refine a_callV ok_X8_hasCells ln_X8_30 in_X8_hasCells rfl 17 dX8_copyTo_14 rfl (k_X8_hasCells hd (nI a2) (nI b1)) (by repeat (first | assumption | (refine rg_ne (by first | decide | omega) ?_) | apply rg_eq | refine rg_fr (by assumption) (by first | decide | (simp; omega)) ?_)) rfl rfl rfl ⟨(Nat.le_of_ble_eq_true rfl), (Nat.le_of_ble_eq_true rfl)⟩ (Nat.le_of_ble_eq_true rfl) ⟨(Nat.le_of_ble_eq_true rfl), (Nat.le_of_ble_eq_true rfl)⟩ ?_
  rintro _ _ ⟨rfl, rfl⟩
  refine a_if_eq 35 20 dX8_copyTo_17 rfl (by decide) (fun c_17 => absurd c_17 (by rw [if_pos y]; decide)) (fun c_17 => ?_)
  refine a_aload_n 21 dX8_copyTo_20 rfl rfl ?_
  refine a_get fd_X8_9 rfl 24 dX8_copyTo_21 rfl (by repeat (first | assumption | (refine rg_ne (by first | decide | omega) ?_) | apply rg_eq | refine rg_fr (by assumption) (by first | decide | (simp; omega)) ?_)) rfl ?_
  refine a_iload_n 25 dX8_copyTo_24 rfl rfl ?_
  refine a_aload_n 26 dX8_copyTo_25 rfl rfl ?_
  refine a_get fd_X8_9 rfl 29 dX8_copyTo_26 rfl (by repeat (first | assumption | (refine rg_ne (by first | decide | omega) ?_) | apply rg_eq | refine rg_fr (by assumption) (by first | decide | (simp; omega)) ?_)) rfl ?_
  refine a_iload_n 30 dX8_copyTo_29 rfl rfl ?_
  refine a_iload 32 dX8_copyTo_30 rfl rfl ?_
  refine a_copy rfl 35 dX8_copyTo_32 rfl hf hg (nI_pos (by omega)) (nI_pos (by omega)) (nI_pos (by omega)) (by rw [nI_clamp (by omega), nI_clamp (by omega)]; omega) (by rw [nI_clamp (by omega), nI_clamp (by omega)]; omega) (by decide) (by decide) ?_
  exact a_return dX8_copyTo_35 rfl (Nat.le_of_ble_eq_true rfl) (Nat.le_of_ble_eq_true rfl) ⟨rfl, rfl⟩
set_option maxRecDepth 100000 in
set_option maxHeartbeats 400000 in
theorem c_copy (q : cAll G h T) (o : T.ok) (c i d j n : Int32) : rM l G 12 mX11_copy 0 0 [.ref (gN G + 0), .int c, .int i, .int d, .int j, .int n] h (fun h' v => v = some (.int (aCopy T c i d j n)) ∧ cAll G h' (tCopy T c i d j n) ∧ kp h h' cL) := by
  have hy := q.1.1
  have q0 := q_fa0 q
  have hy0 := q0.1.1
  have f0 : fr h (h.set 0 (ytc G (nI T.m) (nI T.nl) 0 T.tr)) [0] := fr_set (fr_refl _ _) (by decide)
  rcases oT_cases (n := 4) (by decide) c with ⟨e, hc⟩ | ⟨z, hz, rfl, e⟩
  · have ea : aCopy T c i d j n = -1 := by unfold aCopy; rw [e]
    have et : tCopy T c i d j n = setFT T 0 T.tr := by unfold tCopy; rw [e]
    rcases oT_cases (n := 4) (by decide) d with ⟨e2, hd⟩ | ⟨y, hyy, rfl, e2⟩
    · skip
      refine rM_start (by decide) (Nat.le_of_ble_eq_true rfl) ?_
      refine a_aload_n 1 dX11_copy_0 rfl rfl ?_
      refine a_iconst (0) 2 dX11_copy_1 rfl (by decide) ?_
      refine a_put fd_X11_268 cl_X11 rfl 5 dX11_copy_2 rfl (by repeat (first | assumption | (refine rg_ne (by first | decide | omega) ?_) | apply rg_eq | refine rg_fr (by assumption) (by first | decide | (simp; omega)) ?_)) (Nat.le_of_ble_eq_true rfl) rfl rfl rfl ?_
      refine a_aload_n 6 dX11_copy_5 rfl rfl ?_
      refine a_iload_n 7 dX11_copy_6 rfl rfl ?_
      refine a_callV ok_X11_sheetAt ln_X11_86 in_X11_sheetAt rfl 10 dX11_copy_7 rfl (c_sheetN q0.1 hc) (by repeat (first | assumption | (refine rg_ne (by first | decide | omega) ?_) | apply rg_eq | refine rg_fr (by assumption) (by first | decide | (simp; omega)) ?_)) rfl rfl rfl ⟨(Nat.le_of_ble_eq_true rfl), (Nat.le_of_ble_eq_true rfl)⟩ (Nat.le_of_ble_eq_true rfl) ⟨(Nat.le_of_ble_eq_true rfl), (Nat.le_of_ble_eq_true rfl)⟩ ?_
      rintro _ _ ⟨rfl, rfl⟩
      refine a_astoreN 12 dX11_copy_10 rfl (by decide) ?_
      refine a_aload_n 13 dX11_copy_12 rfl rfl ?_
      refine a_iload_n 14 dX11_copy_13 rfl rfl ?_
      refine a_callV ok_X11_sheetAt ln_X11_86 in_X11_sheetAt rfl 17 dX11_copy_14 rfl (c_sheetN q0.1 hd) (by repeat (first | assumption | (refine rg_ne (by first | decide | omega) ?_) | apply rg_eq | refine rg_fr (by assumption) (by first | decide | (simp; omega)) ?_)) rfl rfl rfl ⟨(Nat.le_of_ble_eq_true rfl), (Nat.le_of_ble_eq_true rfl)⟩ (Nat.le_of_ble_eq_true rfl) ⟨(Nat.le_of_ble_eq_true rfl), (Nat.le_of_ble_eq_true rfl)⟩ ?_
      rintro _ _ ⟨rfl, rfl⟩
      refine a_astoreN 19 dX11_copy_17 rfl (by decide) ?_
      refine a_aloadN 21 dX11_copy_19 rfl rfl ?_
      refine a_ifnullN 29 dX11_copy_21 (by decide) ?_
      refine a_iconst (-1) 30 dX11_copy_29 rfl (by decide) ?_
      exact a_ireturn dX11_copy_30 rfl rfl (Nat.le_of_ble_eq_true rfl) (Nat.le_of_ble_eq_true rfl) ⟨by rw [ea], by rw [et]; exact q0, kp_0L f0⟩
    · skip
      refine rM_start (by decide) (Nat.le_of_ble_eq_true rfl) ?_
      refine a_aload_n 1 dX11_copy_0 rfl rfl ?_
      refine a_iconst (0) 2 dX11_copy_1 rfl (by decide) ?_
      refine a_put fd_X11_268 cl_X11 rfl 5 dX11_copy_2 rfl (by repeat (first | assumption | (refine rg_ne (by first | decide | omega) ?_) | apply rg_eq | refine rg_fr (by assumption) (by first | decide | (simp; omega)) ?_)) (Nat.le_of_ble_eq_true rfl) rfl rfl rfl ?_
      refine a_aload_n 6 dX11_copy_5 rfl rfl ?_
      refine a_iload_n 7 dX11_copy_6 rfl rfl ?_
      refine a_callV ok_X11_sheetAt ln_X11_86 in_X11_sheetAt rfl 10 dX11_copy_7 rfl (c_sheetN q0.1 hc) (by repeat (first | assumption | (refine rg_ne (by first | decide | omega) ?_) | apply rg_eq | refine rg_fr (by assumption) (by first | decide | (simp; omega)) ?_)) rfl rfl rfl ⟨(Nat.le_of_ble_eq_true rfl), (Nat.le_of_ble_eq_true rfl)⟩ (Nat.le_of_ble_eq_true rfl) ⟨(Nat.le_of_ble_eq_true rfl), (Nat.le_of_ble_eq_true rfl)⟩ ?_
      rintro _ _ ⟨rfl, rfl⟩
      refine a_astoreN 12 dX11_copy_10 rfl (by decide) ?_
      refine a_aload_n 13 dX11_copy_12 rfl rfl ?_
      refine a_iload_n 14 dX11_copy_13 rfl rfl ?_
      refine a_callV ok_X11_sheetAt ln_X11_86 in_X11_sheetAt rfl 17 dX11_copy_14 rfl (c_sheet q0.1 hyy) (by repeat (first | assumption | (refine rg_ne (by first | decide | omega) ?_) | apply rg_eq | refine rg_fr (by assumption) (by first | decide | (simp; omega)) ?_)) rfl rfl rfl ⟨(Nat.le_of_ble_eq_true rfl), (Nat.le_of_ble_eq_true rfl)⟩ (Nat.le_of_ble_eq_true rfl) ⟨(Nat.le_of_ble_eq_true rfl), (Nat.le_of_ble_eq_true rfl)⟩ ?_
      rintro _ _ ⟨rfl, rfl⟩
      refine a_astore 19 dX11_copy_17 rfl (by decide) ?_
      refine a_aloadN 21 dX11_copy_19 rfl rfl ?_
      refine a_ifnullN 29 dX11_copy_21 (by decide) ?_
      refine a_iconst (-1) 30 dX11_copy_29 rfl (by decide) ?_
      exact a_ireturn dX11_copy_30 rfl rfl (Nat.le_of_ble_eq_true rfl) (Nat.le_of_ble_eq_true rfl) ⟨by rw [ea], by rw [et]; exact q0, kp_0L f0⟩
  · rcases oT_cases (n := 4) (by decide) d with ⟨e2, hd⟩ | ⟨y, hyy, rfl, e2⟩
    · have ea : aCopy T (nI z) i d j n = -1 := by unfold aCopy; rw [e, e2]
      have et : tCopy T (nI z) i d j n = setFT T 0 T.tr := by unfold tCopy; rw [e, e2]
      refine rM_start (by decide) (Nat.le_of_ble_eq_true rfl) ?_
      refine a_aload_n 1 dX11_copy_0 rfl rfl ?_
      refine a_iconst (0) 2 dX11_copy_1 rfl (by decide) ?_
      refine a_put fd_X11_268 cl_X11 rfl 5 dX11_copy_2 rfl (by repeat (first | assumption | (refine rg_ne (by first | decide | omega) ?_) | apply rg_eq | refine rg_fr (by assumption) (by first | decide | (simp; omega)) ?_)) (Nat.le_of_ble_eq_true rfl) rfl rfl rfl ?_
      refine a_aload_n 6 dX11_copy_5 rfl rfl ?_
      refine a_iload_n 7 dX11_copy_6 rfl rfl ?_
      refine a_callV ok_X11_sheetAt ln_X11_86 in_X11_sheetAt rfl 10 dX11_copy_7 rfl (c_sheet q0.1 hz) (by repeat (first | assumption | (refine rg_ne (by first | decide | omega) ?_) | apply rg_eq | refine rg_fr (by assumption) (by first | decide | (simp; omega)) ?_)) rfl rfl rfl ⟨(Nat.le_of_ble_eq_true rfl), (Nat.le_of_ble_eq_true rfl)⟩ (Nat.le_of_ble_eq_true rfl) ⟨(Nat.le_of_ble_eq_true rfl), (Nat.le_of_ble_eq_true rfl)⟩ ?_
      rintro _ _ ⟨rfl, rfl⟩
      refine a_astore 12 dX11_copy_10 rfl (by decide) ?_
      refine a_aload_n 13 dX11_copy_12 rfl rfl ?_
      refine a_iload_n 14 dX11_copy_13 rfl rfl ?_
      refine a_callV ok_X11_sheetAt ln_X11_86 in_X11_sheetAt rfl 17 dX11_copy_14 rfl (c_sheetN q0.1 hd) (by repeat (first | assumption | (refine rg_ne (by first | decide | omega) ?_) | apply rg_eq | refine rg_fr (by assumption) (by first | decide | (simp; omega)) ?_)) rfl rfl rfl ⟨(Nat.le_of_ble_eq_true rfl), (Nat.le_of_ble_eq_true rfl)⟩ (Nat.le_of_ble_eq_true rfl) ⟨(Nat.le_of_ble_eq_true rfl), (Nat.le_of_ble_eq_true rfl)⟩ ?_
      rintro _ _ ⟨rfl, rfl⟩
      refine a_astoreN 19 dX11_copy_17 rfl (by decide) ?_
      refine a_aload 21 dX11_copy_19 rfl rfl ?_
      refine a_ifnull 24 dX11_copy_21 rfl ?_
      refine a_aloadN 26 dX11_copy_24 rfl rfl ?_
      refine a_ifnonnullN 29 dX11_copy_26 rfl ?_
      refine a_iconst (-1) 30 dX11_copy_29 rfl (by decide) ?_
      exact a_ireturn dX11_copy_30 rfl rfl (Nat.le_of_ble_eq_true rfl) (Nat.le_of_ble_eq_true rfl) ⟨by rw [ea], by rw [et]; exact q0, kp_0L f0⟩
    · obtain ⟨hs, f, hf, hfx⟩ := sh_at q0 hz
      obtain ⟨ht, g, hg, hgx⟩ := sh_at q0 hyy
      have hsz := o.sz60 hz
      have hsy := o.sz60 hyy
      have ea : aCopy T (nI z) i (nI y) j n = if copF T z y i j n = 0 then n else -10 - copF T z y i j n := by unfold aCopy; rw [e, e2]
      have et : tCopy T (nI z) i (nI y) j n = if copF T z y i j n = 0 then setS T 0 y true (T.ln y) (T.sz y) (cpyC (T.ce z) (T.ce y) i.toNatClampNeg j.toNatClampNeg n.toNatClampNeg) else setFT T (copF T z y i j n) T.tr := by unfold tCopy; rw [e, e2]
      by_cases hh : T.has z = true ∧ T.has y = true
      · have b1 : ¬ bI (T.has z) = 0 := bI_n.mpr hh.1
        have b2 : ¬ bI (T.has y) = 0 := bI_n.mpr hh.2
        by_cases hl : T.ln z = T.ln y
        · by_cases hH : hasC (T.sz z) i n ∧ hasC (T.sz y) j n
          · have eF : copF T z y i j n = 0 := by unfold copF; rw [if_pos hh, if_pos hl, if_pos hH]
            rw [if_pos eF] at ea et
            obtain ⟨a1, n1, e3, e4, e5⟩ := hasC_N hsz hH.1
            obtain ⟨a2, n2, e6, e7, e8⟩ := hasC_N hsy hH.2
            have fk : fr h ((h.set 0 (ytc G (nI T.m) (nI T.nl) 0 T.tr)).set (31 + 2 * y) (.inl (gA G 0, 60, .inl (va_cpy f g i.toNatClampNeg j.toNatClampNeg n.toNatClampNeg)))) [0, 30 + 2 * y, 31 + 2 * y] := fr_set (fr_mono f0 (by simp)) (by simp)
            have qb := all_S q hyy (h' := (h.set 0 (ytc G (nI T.m) (nI T.nl) 0 T.tr)).set (31 + 2 * y) (.inl (gA G 0, 60, .inl (va_cpy f g i.toNatClampNeg j.toNatClampNeg n.toNatClampNeg)))) (f := 0) (hb := true) (ln := T.ln y) (sz := T.sz y) (ce := cpyC (T.ce z) (T.ce y) i.toNatClampNeg j.toNatClampNeg n.toNatClampNeg) (rg_ne (by omega) hy0) (by have ht2 := ht; rw [hh.2] at ht2; exact rg_ne (by omega) ht2) ⟨_, rg_eq hg, fun k hk => cpy_k (f := f) (g := g) hfx hgx (by rw [e3, e4, nI_clamp (by omega), nI_clamp (by omega)]; exact e5) hk⟩ (kp_fr fk)
            refine rM_start (by decide) (Nat.le_of_ble_eq_true rfl) ?_
            refine a_aload_n 1 dX11_copy_0 rfl rfl ?_
            refine a_iconst (0) 2 dX11_copy_1 rfl (by decide) ?_
            refine a_put fd_X11_268 cl_X11 rfl 5 dX11_copy_2 rfl (by repeat (first | assumption | (refine rg_ne (by first | decide | omega) ?_) | apply rg_eq | refine rg_fr (by assumption) (by first | decide | (simp; omega)) ?_)) (Nat.le_of_ble_eq_true rfl) rfl rfl rfl ?_
            refine a_aload_n 6 dX11_copy_5 rfl rfl ?_
            refine a_iload_n 7 dX11_copy_6 rfl rfl ?_
            refine a_callV ok_X11_sheetAt ln_X11_86 in_X11_sheetAt rfl 10 dX11_copy_7 rfl (c_sheet q0.1 hz) (by repeat (first | assumption | (refine rg_ne (by first | decide | omega) ?_) | apply rg_eq | refine rg_fr (by assumption) (by first | decide | (simp; omega)) ?_)) rfl rfl rfl ⟨(Nat.le_of_ble_eq_true rfl), (Nat.le_of_ble_eq_true rfl)⟩ (Nat.le_of_ble_eq_true rfl) ⟨(Nat.le_of_ble_eq_true rfl), (Nat.le_of_ble_eq_true rfl)⟩ ?_
            rintro _ _ ⟨rfl, rfl⟩
            refine a_astore 12 dX11_copy_10 rfl (by decide) ?_
            refine a_aload_n 13 dX11_copy_12 rfl rfl ?_
            refine a_iload_n 14 dX11_copy_13 rfl rfl ?_
            refine a_callV ok_X11_sheetAt ln_X11_86 in_X11_sheetAt rfl 17 dX11_copy_14 rfl (c_sheet q0.1 hyy) (by repeat (first | assumption | (refine rg_ne (by first | decide | omega) ?_) | apply rg_eq | refine rg_fr (by assumption) (by first | decide | (simp; omega)) ?_)) rfl rfl rfl ⟨(Nat.le_of_ble_eq_true rfl), (Nat.le_of_ble_eq_true rfl)⟩ (Nat.le_of_ble_eq_true rfl) ⟨(Nat.le_of_ble_eq_true rfl), (Nat.le_of_ble_eq_true rfl)⟩ ?_
            rintro _ _ ⟨rfl, rfl⟩
            refine a_astore 19 dX11_copy_17 rfl (by decide) ?_
            refine a_aload 21 dX11_copy_19 rfl rfl ?_
            refine a_ifnull 24 dX11_copy_21 rfl ?_
            refine a_aload 26 dX11_copy_24 rfl rfl ?_
            refine a_ifnonnull 31 dX11_copy_26 (by decide) ?_
            refine a_aload 33 dX11_copy_31 rfl rfl ?_
            refine a_get fd_X11_329 rfl 36 dX11_copy_33 rfl (by repeat (first | assumption | (refine rg_ne (by first | decide | omega) ?_) | apply rg_eq | refine rg_fr (by assumption) (by first | decide | (simp; omega)) ?_)) rfl ?_
            refine a_if_eq 47 39 dX11_copy_36 rfl (by decide) (fun c_36 => absurd c_36 b1) (fun c_36 => ?_)
            refine a_aload 41 dX11_copy_39 rfl rfl ?_
            refine a_get fd_X11_329 rfl 44 dX11_copy_41 rfl (by repeat (first | assumption | (refine rg_ne (by first | decide | omega) ?_) | apply rg_eq | refine rg_fr (by assumption) (by first | decide | (simp; omega)) ?_)) rfl ?_
            refine a_if_ne 53 47 dX11_copy_44 rfl (by decide) (fun c_44 => ?_) (fun c_44 => absurd c_44 b2)
            refine a_aload 55 dX11_copy_53 rfl rfl ?_
            refine a_get fd_X11_345 rfl 58 dX11_copy_55 rfl (by repeat (first | assumption | (refine rg_ne (by first | decide | omega) ?_) | apply rg_eq | refine rg_fr (by assumption) (by first | decide | (simp; omega)) ?_)) rfl ?_
            refine a_aload 60 dX11_copy_58 rfl rfl ?_
            refine a_get fd_X11_345 rfl 63 dX11_copy_60 rfl (by repeat (first | assumption | (refine rg_ne (by first | decide | omega) ?_) | apply rg_eq | refine rg_fr (by assumption) (by first | decide | (simp; omega)) ?_)) rfl ?_
            refine a_icmp_eq 72 66 dX11_copy_63 rfl (by decide) (fun c_63 => ?_) (fun c_63 => absurd hl c_63)
            refine a_aload 74 dX11_copy_72 rfl rfl ?_
            refine a_iload_n 75 dX11_copy_74 rfl rfl ?_
            refine a_iload 77 dX11_copy_75 rfl rfl ?_
            refine a_callV ok_X8_hasCells ln_X11_348 in_X8_hasCells rfl 80 dX11_copy_77 rfl (k_X8_hasCells hs i n) (by repeat (first | assumption | (refine rg_ne (by first | decide | omega) ?_) | apply rg_eq | refine rg_fr (by assumption) (by first | decide | (simp; omega)) ?_)) rfl rfl rfl ⟨(Nat.le_of_ble_eq_true rfl), (Nat.le_of_ble_eq_true rfl)⟩ (Nat.le_of_ble_eq_true rfl) ⟨(Nat.le_of_ble_eq_true rfl), (Nat.le_of_ble_eq_true rfl)⟩ ?_
            rintro _ _ ⟨rfl, rfl⟩
            refine a_if_eq 95 83 dX11_copy_80 rfl (by decide) (fun c_80 => absurd c_80 (by rw [if_pos hH.1]; decide)) (fun c_80 => ?_)
            refine a_aload 85 dX11_copy_83 rfl rfl ?_
            refine a_iload 87 dX11_copy_85 rfl rfl ?_
            refine a_iload 89 dX11_copy_87 rfl rfl ?_
            refine a_callV ok_X8_hasCells ln_X11_348 in_X8_hasCells rfl 92 dX11_copy_89 rfl (k_X8_hasCells ht j n) (by repeat (first | assumption | (refine rg_ne (by first | decide | omega) ?_) | apply rg_eq | refine rg_fr (by assumption) (by first | decide | (simp; omega)) ?_)) rfl rfl rfl ⟨(Nat.le_of_ble_eq_true rfl), (Nat.le_of_ble_eq_true rfl)⟩ (Nat.le_of_ble_eq_true rfl) ⟨(Nat.le_of_ble_eq_true rfl), (Nat.le_of_ble_eq_true rfl)⟩ ?_
            rintro _ _ ⟨rfl, rfl⟩
            refine a_if_ne 101 95 dX11_copy_92 rfl (by decide) (fun c_92 => ?_) (fun c_92 => absurd c_92 (by rw [if_pos hH.2]; decide))
            refine a_aload 103 dX11_copy_101 rfl rfl ?_
            refine a_iload_n 104 dX11_copy_103 rfl rfl ?_
            refine a_aload 106 dX11_copy_104 rfl rfl ?_
            refine a_iload 108 dX11_copy_106 rfl rfl ?_
            refine a_iload 110 dX11_copy_108 rfl rfl ?_
            refine a_callV ok_X8_copyTo ln_X11_351 in_X8_copyTo rfl 113 dX11_copy_110 rfl (k_X8_copyTo hs ht hf hg hsz hsy hH.1 hH.2) (by repeat (first | assumption | (refine rg_ne (by first | decide | omega) ?_) | apply rg_eq | refine rg_fr (by assumption) (by first | decide | (simp; omega)) ?_)) rfl rfl rfl ⟨(Nat.le_of_ble_eq_true rfl), (Nat.le_of_ble_eq_true rfl)⟩ (Nat.le_of_ble_eq_true rfl) ⟨(Nat.le_of_ble_eq_true rfl), (Nat.le_of_ble_eq_true rfl)⟩ ?_
            rintro _ _ ⟨rfl, rfl⟩
            refine a_iload 115 dX11_copy_113 rfl rfl ?_
            exact a_ireturn dX11_copy_115 rfl rfl (Nat.le_of_ble_eq_true rfl) (Nat.le_of_ble_eq_true rfl) ⟨by rw [ea], by rw [et]; exact qb, kp_S hyy (kp_fr fk)⟩
          · have eF : copF T z y i j n = 3 := by unfold copF; rw [if_pos hh, if_pos hl, if_neg hH]
            rw [eF, if_neg (by decide)] at ea et
            refine rM_start (by decide) (Nat.le_of_ble_eq_true rfl) ?_
            refine a_aload_n 1 dX11_copy_0 rfl rfl ?_
            refine a_iconst (0) 2 dX11_copy_1 rfl (by decide) ?_
            refine a_put fd_X11_268 cl_X11 rfl 5 dX11_copy_2 rfl (by repeat (first | assumption | (refine rg_ne (by first | decide | omega) ?_) | apply rg_eq | refine rg_fr (by assumption) (by first | decide | (simp; omega)) ?_)) (Nat.le_of_ble_eq_true rfl) rfl rfl rfl ?_
            refine a_aload_n 6 dX11_copy_5 rfl rfl ?_
            refine a_iload_n 7 dX11_copy_6 rfl rfl ?_
            refine a_callV ok_X11_sheetAt ln_X11_86 in_X11_sheetAt rfl 10 dX11_copy_7 rfl (c_sheet q0.1 hz) (by repeat (first | assumption | (refine rg_ne (by first | decide | omega) ?_) | apply rg_eq | refine rg_fr (by assumption) (by first | decide | (simp; omega)) ?_)) rfl rfl rfl ⟨(Nat.le_of_ble_eq_true rfl), (Nat.le_of_ble_eq_true rfl)⟩ (Nat.le_of_ble_eq_true rfl) ⟨(Nat.le_of_ble_eq_true rfl), (Nat.le_of_ble_eq_true rfl)⟩ ?_
            rintro _ _ ⟨rfl, rfl⟩
            refine a_astore 12 dX11_copy_10 rfl (by decide) ?_
            refine a_aload_n 13 dX11_copy_12 rfl rfl ?_
            refine a_iload_n 14 dX11_copy_13 rfl rfl ?_
            refine a_callV ok_X11_sheetAt ln_X11_86 in_X11_sheetAt rfl 17 dX11_copy_14 rfl (c_sheet q0.1 hyy) (by repeat (first | assumption | (refine rg_ne (by first | decide | omega) ?_) | apply rg_eq | refine rg_fr (by assumption) (by first | decide | (simp; omega)) ?_)) rfl rfl rfl ⟨(Nat.le_of_ble_eq_true rfl), (Nat.le_of_ble_eq_true rfl)⟩ (Nat.le_of_ble_eq_true rfl) ⟨(Nat.le_of_ble_eq_true rfl), (Nat.le_of_ble_eq_true rfl)⟩ ?_
            rintro _ _ ⟨rfl, rfl⟩
            refine a_astore 19 dX11_copy_17 rfl (by decide) ?_
            refine a_aload 21 dX11_copy_19 rfl rfl ?_
            refine a_ifnull 24 dX11_copy_21 rfl ?_
            refine a_aload 26 dX11_copy_24 rfl rfl ?_
            refine a_ifnonnull 31 dX11_copy_26 (by decide) ?_
            refine a_aload 33 dX11_copy_31 rfl rfl ?_
            refine a_get fd_X11_329 rfl 36 dX11_copy_33 rfl (by repeat (first | assumption | (refine rg_ne (by first | decide | omega) ?_) | apply rg_eq | refine rg_fr (by assumption) (by first | decide | (simp; omega)) ?_)) rfl ?_
            refine a_if_eq 47 39 dX11_copy_36 rfl (by decide) (fun c_36 => absurd c_36 b1) (fun c_36 => ?_)
            refine a_aload 41 dX11_copy_39 rfl rfl ?_
            refine a_get fd_X11_329 rfl 44 dX11_copy_41 rfl (by repeat (first | assumption | (refine rg_ne (by first | decide | omega) ?_) | apply rg_eq | refine rg_fr (by assumption) (by first | decide | (simp; omega)) ?_)) rfl ?_
            refine a_if_ne 53 47 dX11_copy_44 rfl (by decide) (fun c_44 => ?_) (fun c_44 => absurd c_44 b2)
            refine a_aload 55 dX11_copy_53 rfl rfl ?_
            refine a_get fd_X11_345 rfl 58 dX11_copy_55 rfl (by repeat (first | assumption | (refine rg_ne (by first | decide | omega) ?_) | apply rg_eq | refine rg_fr (by assumption) (by first | decide | (simp; omega)) ?_)) rfl ?_
            refine a_aload 60 dX11_copy_58 rfl rfl ?_
            refine a_get fd_X11_345 rfl 63 dX11_copy_60 rfl (by repeat (first | assumption | (refine rg_ne (by first | decide | omega) ?_) | apply rg_eq | refine rg_fr (by assumption) (by first | decide | (simp; omega)) ?_)) rfl ?_
            refine a_icmp_eq 72 66 dX11_copy_63 rfl (by decide) (fun c_63 => ?_) (fun c_63 => absurd hl c_63)
            refine a_aload 74 dX11_copy_72 rfl rfl ?_
            refine a_iload_n 75 dX11_copy_74 rfl rfl ?_
            refine a_iload 77 dX11_copy_75 rfl rfl ?_
            refine a_callV ok_X8_hasCells ln_X11_348 in_X8_hasCells rfl 80 dX11_copy_77 rfl (k_X8_hasCells hs i n) (by repeat (first | assumption | (refine rg_ne (by first | decide | omega) ?_) | apply rg_eq | refine rg_fr (by assumption) (by first | decide | (simp; omega)) ?_)) rfl rfl rfl ⟨(Nat.le_of_ble_eq_true rfl), (Nat.le_of_ble_eq_true rfl)⟩ (Nat.le_of_ble_eq_true rfl) ⟨(Nat.le_of_ble_eq_true rfl), (Nat.le_of_ble_eq_true rfl)⟩ ?_
            rintro _ _ ⟨rfl, rfl⟩
            refine a_if_eq 95 83 dX11_copy_80 rfl (by decide) (fun c_80 => ?_) (fun c_80 => ?_)
            · refine a_aload_n 96 dX11_copy_95 rfl rfl ?_
              refine a_iconst (3) 97 dX11_copy_96 rfl (by decide) ?_
              refine a_callV ok_X11_faulted ln_X11_323 in_X11_faulted rfl 100 dX11_copy_97 rfl (k_X11_faulted hy0 3) (by repeat (first | assumption | (refine rg_ne (by first | decide | omega) ?_) | apply rg_eq | refine rg_fr (by assumption) (by first | decide | (simp; omega)) ?_)) rfl rfl rfl ⟨(Nat.le_of_ble_eq_true rfl), (Nat.le_of_ble_eq_true rfl)⟩ (Nat.le_of_ble_eq_true rfl) ⟨(Nat.le_of_ble_eq_true rfl), (Nat.le_of_ble_eq_true rfl)⟩ ?_
              rintro h1 _ ⟨rfl, hy1, hf1⟩
              exact a_ireturn dX11_copy_100 rfl rfl (Nat.le_of_ble_eq_true rfl) (Nat.le_of_ble_eq_true rfl) ⟨by rw [ea], by rw [et]; exact all_0 (T := setFT T 0 T.tr) q0 hy1 (kp_fr hf1), kp_0L (fr_trans f0 hf1 (by decide))⟩
            · refine a_aload 85 dX11_copy_83 rfl rfl ?_
              refine a_iload 87 dX11_copy_85 rfl rfl ?_
              refine a_iload 89 dX11_copy_87 rfl rfl ?_
              refine a_callV ok_X8_hasCells ln_X11_348 in_X8_hasCells rfl 92 dX11_copy_89 rfl (k_X8_hasCells ht j n) (by repeat (first | assumption | (refine rg_ne (by first | decide | omega) ?_) | apply rg_eq | refine rg_fr (by assumption) (by first | decide | (simp; omega)) ?_)) rfl rfl rfl ⟨(Nat.le_of_ble_eq_true rfl), (Nat.le_of_ble_eq_true rfl)⟩ (Nat.le_of_ble_eq_true rfl) ⟨(Nat.le_of_ble_eq_true rfl), (Nat.le_of_ble_eq_true rfl)⟩ ?_
              rintro _ _ ⟨rfl, rfl⟩
              refine a_if_ne 101 95 dX11_copy_92 rfl (by decide) (fun c_92 => absurd (if_neg (fun w => hH ⟨Decidable.not_not.mp (fun u => c_80 (if_neg u)), w⟩)) c_92) (fun c_92 => ?_)
              refine a_aload_n 96 dX11_copy_95 rfl rfl ?_
              refine a_iconst (3) 97 dX11_copy_96 rfl (by decide) ?_
              refine a_callV ok_X11_faulted ln_X11_323 in_X11_faulted rfl 100 dX11_copy_97 rfl (k_X11_faulted hy0 3) (by repeat (first | assumption | (refine rg_ne (by first | decide | omega) ?_) | apply rg_eq | refine rg_fr (by assumption) (by first | decide | (simp; omega)) ?_)) rfl rfl rfl ⟨(Nat.le_of_ble_eq_true rfl), (Nat.le_of_ble_eq_true rfl)⟩ (Nat.le_of_ble_eq_true rfl) ⟨(Nat.le_of_ble_eq_true rfl), (Nat.le_of_ble_eq_true rfl)⟩ ?_
              rintro h1 _ ⟨rfl, hy1, hf1⟩
              exact a_ireturn dX11_copy_100 rfl rfl (Nat.le_of_ble_eq_true rfl) (Nat.le_of_ble_eq_true rfl) ⟨by rw [ea], by rw [et]; exact all_0 (T := setFT T 0 T.tr) q0 hy1 (kp_fr hf1), kp_0L (fr_trans f0 hf1 (by decide))⟩
        · have eF : copF T z y i j n = 2 := by unfold copF; rw [if_pos hh, if_neg hl]
          rw [eF, if_neg (by decide)] at ea et
          refine rM_start (by decide) (Nat.le_of_ble_eq_true rfl) ?_
          refine a_aload_n 1 dX11_copy_0 rfl rfl ?_
          refine a_iconst (0) 2 dX11_copy_1 rfl (by decide) ?_
          refine a_put fd_X11_268 cl_X11 rfl 5 dX11_copy_2 rfl (by repeat (first | assumption | (refine rg_ne (by first | decide | omega) ?_) | apply rg_eq | refine rg_fr (by assumption) (by first | decide | (simp; omega)) ?_)) (Nat.le_of_ble_eq_true rfl) rfl rfl rfl ?_
          refine a_aload_n 6 dX11_copy_5 rfl rfl ?_
          refine a_iload_n 7 dX11_copy_6 rfl rfl ?_
          refine a_callV ok_X11_sheetAt ln_X11_86 in_X11_sheetAt rfl 10 dX11_copy_7 rfl (c_sheet q0.1 hz) (by repeat (first | assumption | (refine rg_ne (by first | decide | omega) ?_) | apply rg_eq | refine rg_fr (by assumption) (by first | decide | (simp; omega)) ?_)) rfl rfl rfl ⟨(Nat.le_of_ble_eq_true rfl), (Nat.le_of_ble_eq_true rfl)⟩ (Nat.le_of_ble_eq_true rfl) ⟨(Nat.le_of_ble_eq_true rfl), (Nat.le_of_ble_eq_true rfl)⟩ ?_
          rintro _ _ ⟨rfl, rfl⟩
          refine a_astore 12 dX11_copy_10 rfl (by decide) ?_
          refine a_aload_n 13 dX11_copy_12 rfl rfl ?_
          refine a_iload_n 14 dX11_copy_13 rfl rfl ?_
          refine a_callV ok_X11_sheetAt ln_X11_86 in_X11_sheetAt rfl 17 dX11_copy_14 rfl (c_sheet q0.1 hyy) (by repeat (first | assumption | (refine rg_ne (by first | decide | omega) ?_) | apply rg_eq | refine rg_fr (by assumption) (by first | decide | (simp; omega)) ?_)) rfl rfl rfl ⟨(Nat.le_of_ble_eq_true rfl), (Nat.le_of_ble_eq_true rfl)⟩ (Nat.le_of_ble_eq_true rfl) ⟨(Nat.le_of_ble_eq_true rfl), (Nat.le_of_ble_eq_true rfl)⟩ ?_
          rintro _ _ ⟨rfl, rfl⟩
          refine a_astore 19 dX11_copy_17 rfl (by decide) ?_
          refine a_aload 21 dX11_copy_19 rfl rfl ?_
          refine a_ifnull 24 dX11_copy_21 rfl ?_
          refine a_aload 26 dX11_copy_24 rfl rfl ?_
          refine a_ifnonnull 31 dX11_copy_26 (by decide) ?_
          refine a_aload 33 dX11_copy_31 rfl rfl ?_
          refine a_get fd_X11_329 rfl 36 dX11_copy_33 rfl (by repeat (first | assumption | (refine rg_ne (by first | decide | omega) ?_) | apply rg_eq | refine rg_fr (by assumption) (by first | decide | (simp; omega)) ?_)) rfl ?_
          refine a_if_eq 47 39 dX11_copy_36 rfl (by decide) (fun c_36 => absurd c_36 b1) (fun c_36 => ?_)
          refine a_aload 41 dX11_copy_39 rfl rfl ?_
          refine a_get fd_X11_329 rfl 44 dX11_copy_41 rfl (by repeat (first | assumption | (refine rg_ne (by first | decide | omega) ?_) | apply rg_eq | refine rg_fr (by assumption) (by first | decide | (simp; omega)) ?_)) rfl ?_
          refine a_if_ne 53 47 dX11_copy_44 rfl (by decide) (fun c_44 => ?_) (fun c_44 => absurd c_44 b2)
          refine a_aload 55 dX11_copy_53 rfl rfl ?_
          refine a_get fd_X11_345 rfl 58 dX11_copy_55 rfl (by repeat (first | assumption | (refine rg_ne (by first | decide | omega) ?_) | apply rg_eq | refine rg_fr (by assumption) (by first | decide | (simp; omega)) ?_)) rfl ?_
          refine a_aload 60 dX11_copy_58 rfl rfl ?_
          refine a_get fd_X11_345 rfl 63 dX11_copy_60 rfl (by repeat (first | assumption | (refine rg_ne (by first | decide | omega) ?_) | apply rg_eq | refine rg_fr (by assumption) (by first | decide | (simp; omega)) ?_)) rfl ?_
          refine a_icmp_eq 72 66 dX11_copy_63 rfl (by decide) (fun c_63 => absurd c_63 hl) (fun c_63 => ?_)
          refine a_aload_n 67 dX11_copy_66 rfl rfl ?_
          refine a_iconst (2) 68 dX11_copy_67 rfl (by decide) ?_
          refine a_callV ok_X11_faulted ln_X11_323 in_X11_faulted rfl 71 dX11_copy_68 rfl (k_X11_faulted hy0 2) (by repeat (first | assumption | (refine rg_ne (by first | decide | omega) ?_) | apply rg_eq | refine rg_fr (by assumption) (by first | decide | (simp; omega)) ?_)) rfl rfl rfl ⟨(Nat.le_of_ble_eq_true rfl), (Nat.le_of_ble_eq_true rfl)⟩ (Nat.le_of_ble_eq_true rfl) ⟨(Nat.le_of_ble_eq_true rfl), (Nat.le_of_ble_eq_true rfl)⟩ ?_
          rintro h1 _ ⟨rfl, hy1, hf1⟩
          exact a_ireturn dX11_copy_71 rfl rfl (Nat.le_of_ble_eq_true rfl) (Nat.le_of_ble_eq_true rfl) ⟨by rw [ea], by rw [et]; exact all_0 (T := setFT T 0 T.tr) q0 hy1 (kp_fr hf1), kp_0L (fr_trans f0 hf1 (by decide))⟩
      · have eF : copF T z y i j n = 1 := by unfold copF; rw [if_neg hh]
        rw [eF, if_neg (by decide)] at ea et
        refine rM_start (by decide) (Nat.le_of_ble_eq_true rfl) ?_
        refine a_aload_n 1 dX11_copy_0 rfl rfl ?_
        refine a_iconst (0) 2 dX11_copy_1 rfl (by decide) ?_
        refine a_put fd_X11_268 cl_X11 rfl 5 dX11_copy_2 rfl (by repeat (first | assumption | (refine rg_ne (by first | decide | omega) ?_) | apply rg_eq | refine rg_fr (by assumption) (by first | decide | (simp; omega)) ?_)) (Nat.le_of_ble_eq_true rfl) rfl rfl rfl ?_
        refine a_aload_n 6 dX11_copy_5 rfl rfl ?_
        refine a_iload_n 7 dX11_copy_6 rfl rfl ?_
        refine a_callV ok_X11_sheetAt ln_X11_86 in_X11_sheetAt rfl 10 dX11_copy_7 rfl (c_sheet q0.1 hz) (by repeat (first | assumption | (refine rg_ne (by first | decide | omega) ?_) | apply rg_eq | refine rg_fr (by assumption) (by first | decide | (simp; omega)) ?_)) rfl rfl rfl ⟨(Nat.le_of_ble_eq_true rfl), (Nat.le_of_ble_eq_true rfl)⟩ (Nat.le_of_ble_eq_true rfl) ⟨(Nat.le_of_ble_eq_true rfl), (Nat.le_of_ble_eq_true rfl)⟩ ?_
        rintro _ _ ⟨rfl, rfl⟩
        refine a_astore 12 dX11_copy_10 rfl (by decide) ?_
        refine a_aload_n 13 dX11_copy_12 rfl rfl ?_
        refine a_iload_n 14 dX11_copy_13 rfl rfl ?_
        refine a_callV ok_X11_sheetAt ln_X11_86 in_X11_sheetAt rfl 17 dX11_copy_14 rfl (c_sheet q0.1 hyy) (by repeat (first | assumption | (refine rg_ne (by first | decide | omega) ?_) | apply rg_eq | refine rg_fr (by assumption) (by first | decide | (simp; omega)) ?_)) rfl rfl rfl ⟨(Nat.le_of_ble_eq_true rfl), (Nat.le_of_ble_eq_true rfl)⟩ (Nat.le_of_ble_eq_true rfl) ⟨(Nat.le_of_ble_eq_true rfl), (Nat.le_of_ble_eq_true rfl)⟩ ?_
        rintro _ _ ⟨rfl, rfl⟩
        refine a_astore 19 dX11_copy_17 rfl (by decide) ?_
        refine a_aload 21 dX11_copy_19 rfl rfl ?_
        refine a_ifnull 24 dX11_copy_21 rfl ?_
        refine a_aload 26 dX11_copy_24 rfl rfl ?_
        refine a_ifnonnull 31 dX11_copy_26 (by decide) ?_
        refine a_aload 33 dX11_copy_31 rfl rfl ?_
        refine a_get fd_X11_329 rfl 36 dX11_copy_33 rfl (by repeat (first | assumption | (refine rg_ne (by first | decide | omega) ?_) | apply rg_eq | refine rg_fr (by assumption) (by first | decide | (simp; omega)) ?_)) rfl ?_
        refine a_if_eq 47 39 dX11_copy_36 rfl (by decide) (fun c_36 => ?_) (fun c_36 => ?_)
        · refine a_aload_n 48 dX11_copy_47 rfl rfl ?_
          refine a_iconst (1) 49 dX11_copy_48 rfl (by decide) ?_
          refine a_callV ok_X11_faulted ln_X11_323 in_X11_faulted rfl 52 dX11_copy_49 rfl (k_X11_faulted hy0 1) (by repeat (first | assumption | (refine rg_ne (by first | decide | omega) ?_) | apply rg_eq | refine rg_fr (by assumption) (by first | decide | (simp; omega)) ?_)) rfl rfl rfl ⟨(Nat.le_of_ble_eq_true rfl), (Nat.le_of_ble_eq_true rfl)⟩ (Nat.le_of_ble_eq_true rfl) ⟨(Nat.le_of_ble_eq_true rfl), (Nat.le_of_ble_eq_true rfl)⟩ ?_
          rintro h1 _ ⟨rfl, hy1, hf1⟩
          exact a_ireturn dX11_copy_52 rfl rfl (Nat.le_of_ble_eq_true rfl) (Nat.le_of_ble_eq_true rfl) ⟨by rw [ea], by rw [et]; exact all_0 (T := setFT T 0 T.tr) q0 hy1 (kp_fr hf1), kp_0L (fr_trans f0 hf1 (by decide))⟩
        · refine a_aload 41 dX11_copy_39 rfl rfl ?_
          refine a_get fd_X11_329 rfl 44 dX11_copy_41 rfl (by repeat (first | assumption | (refine rg_ne (by first | decide | omega) ?_) | apply rg_eq | refine rg_fr (by assumption) (by first | decide | (simp; omega)) ?_)) rfl ?_
          refine a_if_ne 53 47 dX11_copy_44 rfl (by decide) (fun c_44 => absurd (bI_0.mpr (Bool.eq_false_iff.mpr (fun w => hh ⟨bI_n.mp c_36, w⟩))) c_44) (fun c_44 => ?_)
          refine a_aload_n 48 dX11_copy_47 rfl rfl ?_
          refine a_iconst (1) 49 dX11_copy_48 rfl (by decide) ?_
          refine a_callV ok_X11_faulted ln_X11_323 in_X11_faulted rfl 52 dX11_copy_49 rfl (k_X11_faulted hy0 1) (by repeat (first | assumption | (refine rg_ne (by first | decide | omega) ?_) | apply rg_eq | refine rg_fr (by assumption) (by first | decide | (simp; omega)) ?_)) rfl rfl rfl ⟨(Nat.le_of_ble_eq_true rfl), (Nat.le_of_ble_eq_true rfl)⟩ (Nat.le_of_ble_eq_true rfl) ⟨(Nat.le_of_ble_eq_true rfl), (Nat.le_of_ble_eq_true rfl)⟩ ?_
          rintro h1 _ ⟨rfl, hy1, hf1⟩
          exact a_ireturn dX11_copy_52 rfl rfl (Nat.le_of_ble_eq_true rfl) (Nat.le_of_ble_eq_true rfl) ⟨by rw [ea], by rw [et]; exact all_0 (T := setFT T 0 T.tr) q0 hy1 (kp_fr hf1), kp_0L (fr_trans f0 hf1 (by decide))⟩
end COPY2
