/-! SHEETS: an arraycopy; what refuses cells; copies -/
theorem rcp_l : Cond.methodLink RX8 34 arraycopyName ∈ rTbl := by decide +kernel
theorem rcp_n : Cond.native arraycopyName ∈ rTbl := by decide +kernel
theorem rcp_s : Cond.static arraycopyName ∈ rTbl := by decide +kernel
theorem rcp_i : Cond.initialized "java/lang/System" ∈ rTbl := by decide +kernel
theorem nn_I {z : Int32} (hz : ¬ z < 0) : z.toInt = (z.toNatClampNeg : Int) := by
  have h0 : (0 : Int) ≤ z.toInt := i_nl.mp hz
  show z.toInt = ((z.toInt.toNat : Nat) : Int)
  omega
theorem a_copy {l : Launch} {G : rG} {R : Room} {μ : rMth} {Z : rZt} {k n pc : Nat} {ls : List (Option Value)} {st : List Value} {h : rH} {a b N M : Nat} {f g : Nat → Int32} {sp dp c : Int32} (ho : μ.1.cls = RX8) (q : Nat) (d : decode μ.2.1 pc = .ok (.invokestatic 34, 3)) (hq : pc + 3 = q) (ha : h[a]? = some (.inl (gA G 0, N, .inl f))) (hbb : h[b]? = some (.inl (gA G 0, M, .inl g))) (h1 : ¬ sp < 0) (h2 : ¬ dp < 0) (h3 : ¬ c < 0) (h4 : sp.toNatClampNeg + c.toNatClampNeg ≤ N) (h5 : dp.toNatClampNeg + c.toNatClampNeg ≤ M) (hf : 1 ≤ R.frames) (hlo : (st.map fun v => v.category).sum + (nativeFrameWords "java/lang/System" "arraycopy" 5 + 11) ≤ R.locals) (kk : rW l G R μ Z k n q ls st (h.set b (.inl (gA G 0, M, .inl (va_cpy f g sp.toNatClampNeg dp.toNatClampNeg c.toNatClampNeg))))) : rW l G R μ Z k n pc ls (.int c :: .int dp :: .ref (gN G + b) :: .int sp :: .ref (gN G + a) :: st) h := by
  subst hq
  intro p e s m args below meth cc H locs lsM hx hb hm hr hlk hnm hown hts hK hS hE hl
  have w0 := rws_get (G := G) ha
  have w1 := rws_get (G := G) hbb
  have c0 : H[gN G + a]? = some (vp_cell (gA G 0) (N, .inl f)) := hE.1 a _ w0
  have c1 : H[gN G + b]? = some (vp_cell (gA G 0) (M, .inl g)) := hE.1 b _ w1
  intro S hT X
  obtain ⟨-, k0, hk0, cm0, hkk0⟩ := (hK.1.2 0 _ rfl).1 N (fun j => .int (f j))
  obtain ⟨-, k1, hk1, cm1, hkk1⟩ := (hK.1.2 0 _ rfl).1 M (fun j => .int (g j))
  obtain ⟨vm', X', step⟩ := X.arraycopy hx hown (hts _ (by rw [ho]; exact rcp_l)) (hts _ rcp_n) (hts _ rcp_s) (hts _ rcp_i) (src := gN G + a) (dst := gN G + b) (cs := vp_cell (gA G 0) (N, .inl f)) (cd := vp_cell (gA G 0) (M, .inl g)) (srcPos := sp) (destPos := dp) (n := c) (by rw [hT]; exact c0) (by rw [hT]; exact c1) (fun _ z => by cases z) (fun _ z => by cases z) (fun z => by cases z) (fun z => by cases z) hk0 hk1 hkk0 hkk1 (by simp) h1 h2 h3
    (by rw [nn_I h1, nn_I h3]; show ¬ _ > ((arrV (gA G 0) N (fun j => .int (f j))).slots.size : Int); rw [arrV_size]; omega)
    (by rw [nn_I h2, nn_I h3]; show ¬ _ > ((arrV (gA G 0) M (fun j => .int (g j))).slots.size : Int); rw [arrV_size]; omega)
    (fun vm₁ _ i hi => by
      have e : (vp_cell (gA G 0) (N, .inl f)).slots.getD (sp.toNatClampNeg + i) .null = .int (f (sp.toNatClampNeg + i)) := by
        show (arrV (gA G 0) N (fun j => .int (f j))).slots.getD _ _ = _
        rw [Array.getD_eq_getD_getElem?, arrV_read _ _ (by omega)]
        rfl
      rw [e]
      exact ⟨rfl, trivial⟩)
    (g := F0 m pc lsM (.int c :: .int dp :: .ref (gN G + b) :: .int sp :: .ref (gN G + a) :: st)) rfl (by rw [hm]; exact hl.1) (rest := st) rfl (by rw [hb]; exact d) hf (by show 2 * 0 + _ + _ ≤ _; omega)
  have e1 : copied (vp_cell (gA G 0) (N, .inl f)) (vp_cell (gA G 0) (M, .inl g)) sp dp c = vp_cell (gA G 0) (M, .inl (va_cpy f g sp.toNatClampNeg dp.toNatClampNeg c.toNatClampNeg)) := va_copied (fun z => .int z) (gA G 0) (gA G 0) f g h4
  rw [e1] at X' step
  have hh : ((S.setVm vm').setCell (gN G + b) (vp_cell (gA G 0) (M, .inl (va_cpy f g sp.toNatClampNeg dp.toNatClampNeg c.toNatClampNeg)))).heap = H.setIfInBounds (gN G + b) (vp_cell (gA G 0) (M, .inl (va_cpy f g sp.toNatClampNeg dp.toNatClampNeg c.toNatClampNeg))) := by rw [← hT]; rfl
  have hlt : gN G + b < H.size := (Array.getElem?_eq_some_iff.mp c1).1
  have oq : ∀ y : Nat, y ≠ gN G + b → (H.setIfInBounds (gN G + b) (vp_cell (gA G 0) (M, .inl (va_cpy f g sp.toNatClampNeg dp.toNatClampNeg c.toNatClampNeg))))[y]? = H[y]? := fun y hy => by simp [Array.getElem?_setIfInBounds, Ne.symm hy]
  have zz : (H.setIfInBounds (gN G + b) (vp_cell (gA G 0) (M, .inl (va_cpy f g sp.toNatClampNeg dp.toNatClampNeg c.toNatClampNeg)))).size = H.size := by simp
  obtain ⟨t, a1, b1⟩ := kk p e s m args below meth cc _ _ lsM hx hb hm hr hlk hnm hown hts hK ⟨by rw [zz]; exact hS.1, fun y g1 g2 => (oq y (fun e => g2 (by show gN G ≤ y; omega))).trans (hS.2.1 y g1 g2), fun y hy => by
    rcases List.mem_append.mp hy with z | z
    · exact hS.2.2 y z
    · obtain ⟨w, -, hw⟩ := List.mem_map.mp z
      rw [← hw]
      exact Nat.le_add_right _ _⟩ (rE_set hE hbb (by show (H.setIfInBounds (gN G + b) _)[gN G + b]? = some _; simp [Array.getElem?_setIfInBounds, hlt]) zz oq) hl _ hh X'
  exact ⟨t, step t a1, b1⟩
section COPY
variable {l : Launch} {G : rG} {h : rH} {T : Tn}
theorem c_setFT {f : Int32} (q : cAll G h (setFT T f T.tr)) (e : f = T.fa) : cAll G h T := by subst e; exact q
set_option maxRecDepth 100000 in
set_option maxHeartbeats 400000 in
theorem c_refusal (q : cAll G h T) (c d i n : Int32) : rM l G 2 mX11_refusalOfCells 0 0 [.ref (gN G + 0), .int c, .int d, .int i, .int n] h (fun h' v => v = some (.int (refF T c d i n).1) ∧ cAll G h' (setFT T (refF T c d i n).2 T.tr) ∧ fr h h' [0]) := by
  have hy := q.1.1
  have q0 := q_fa0 q
  have hy0 := q0.1.1
  have f0 : fr h (h.set 0 (ytc G (nI T.m) (nI T.nl) 0 T.tr)) [0] := fr_set (fr_refl _ _) (by decide)
  rcases oT_cases (n := 4) (by decide) c with ⟨e, hc⟩ | ⟨z, hz, rfl, e⟩
  · have er : refF T c d i n = (-1, 0) := by unfold refF; rw [e]
    rw [er]
    refine rM_start (by decide) (Nat.le_of_ble_eq_true rfl) ?_
    refine a_aload_n 1 dX11_refusalOfCells_0 rfl rfl ?_
    refine a_iconst (0) 2 dX11_refusalOfCells_1 rfl (by decide) ?_
    refine a_put fd_X11_268 cl_X11 rfl 5 dX11_refusalOfCells_2 rfl (by repeat (first | assumption | (refine rg_ne (by first | decide | omega) ?_) | apply rg_eq | refine rg_fr (by assumption) (by first | decide | (simp; omega)) ?_)) (Nat.le_of_ble_eq_true rfl) rfl rfl rfl ?_
    refine a_aload_n 6 dX11_refusalOfCells_5 rfl rfl ?_
    refine a_iload_n 7 dX11_refusalOfCells_6 rfl rfl ?_
    refine a_callV ok_X11_sheetAt ln_X11_86 in_X11_sheetAt rfl 10 dX11_refusalOfCells_7 rfl (c_sheetN q0.1 hc) (by repeat (first | assumption | (refine rg_ne (by first | decide | omega) ?_) | apply rg_eq | refine rg_fr (by assumption) (by first | decide | (simp; omega)) ?_)) rfl rfl rfl ⟨(Nat.le_of_ble_eq_true rfl), (Nat.le_of_ble_eq_true rfl)⟩ (Nat.le_of_ble_eq_true rfl) ⟨(Nat.le_of_ble_eq_true rfl), (Nat.le_of_ble_eq_true rfl)⟩ ?_
    rintro _ _ ⟨rfl, rfl⟩
    refine a_astoreN 12 dX11_refusalOfCells_10 rfl (by decide) ?_
    refine a_aloadN 14 dX11_refusalOfCells_12 rfl rfl ?_
    refine a_ifnonnullN 17 dX11_refusalOfCells_14 rfl ?_
    refine a_iconst (-1) 18 dX11_refusalOfCells_17 rfl (by decide) ?_
    exact a_ireturn dX11_refusalOfCells_18 rfl rfl (Nat.le_of_ble_eq_true rfl) (Nat.le_of_ble_eq_true rfl) ⟨rfl, q0, f0⟩
  · obtain ⟨hs, f, hf, hfx⟩ := sh_at q0 hz
    have er : refF T (nI z) d i n = if laneI d then (if T.has z then (if T.ln z = d then (if n < 0 then (-14, 4) else if hasC (T.sz z) i n then (0, 0) else (-13, 3)) else (-12, 2)) else (-11, 1)) else (-2, 0) := by unfold refF; rw [e]
    rw [er]
    by_cases hd : laneI d
    · rw [if_pos hd]
      cases hh : T.has z with
      | false =>
        rw [if_neg (by decide)]
        have eA : (if bI (T.has z) = 0 then (1 : Int32) else if T.ln z = d then 0 else 2) = 1 := by rw [hh]; rfl
        refine rM_start (by decide) (Nat.le_of_ble_eq_true rfl) ?_
        refine a_aload_n 1 dX11_refusalOfCells_0 rfl rfl ?_
        refine a_iconst (0) 2 dX11_refusalOfCells_1 rfl (by decide) ?_
        refine a_put fd_X11_268 cl_X11 rfl 5 dX11_refusalOfCells_2 rfl (by repeat (first | assumption | (refine rg_ne (by first | decide | omega) ?_) | apply rg_eq | refine rg_fr (by assumption) (by first | decide | (simp; omega)) ?_)) (Nat.le_of_ble_eq_true rfl) rfl rfl rfl ?_
        refine a_aload_n 6 dX11_refusalOfCells_5 rfl rfl ?_
        refine a_iload_n 7 dX11_refusalOfCells_6 rfl rfl ?_
        refine a_callV ok_X11_sheetAt ln_X11_86 in_X11_sheetAt rfl 10 dX11_refusalOfCells_7 rfl (c_sheet q0.1 hz) (by repeat (first | assumption | (refine rg_ne (by first | decide | omega) ?_) | apply rg_eq | refine rg_fr (by assumption) (by first | decide | (simp; omega)) ?_)) rfl rfl rfl ⟨(Nat.le_of_ble_eq_true rfl), (Nat.le_of_ble_eq_true rfl)⟩ (Nat.le_of_ble_eq_true rfl) ⟨(Nat.le_of_ble_eq_true rfl), (Nat.le_of_ble_eq_true rfl)⟩ ?_
        rintro _ _ ⟨rfl, rfl⟩
        refine a_astore 12 dX11_refusalOfCells_10 rfl (by decide) ?_
        refine a_aload 14 dX11_refusalOfCells_12 rfl rfl ?_
        refine a_ifnonnull 19 dX11_refusalOfCells_14 (by decide) ?_
        refine a_iload_n 20 dX11_refusalOfCells_19 rfl rfl ?_
        refine a_callS ok_X11_isLane ln_X11_320 is_X11_isLane rfl 23 dX11_refusalOfCells_20 rfl (k_X11_isLane d) rfl rfl ⟨(Nat.le_of_ble_eq_true rfl), (Nat.le_of_ble_eq_true rfl)⟩ (Nat.le_of_ble_eq_true rfl) ⟨(Nat.le_of_ble_eq_true rfl), (Nat.le_of_ble_eq_true rfl)⟩ ?_
        rintro _ _ ⟨rfl, rfl⟩
        refine a_if_ne 29 26 dX11_refusalOfCells_23 rfl (by decide) (fun c_23 => ?_) (fun c_23 => absurd c_23 (by rw [if_pos hd]; decide))
        refine a_aload 31 dX11_refusalOfCells_29 rfl rfl ?_
        refine a_iload_n 32 dX11_refusalOfCells_31 rfl rfl ?_
        refine a_callV ok_X8_faultAs ln_X11_339 in_X8_faultAs rfl 35 dX11_refusalOfCells_32 rfl (k_X8_faultAs hs d) (by repeat (first | assumption | (refine rg_ne (by first | decide | omega) ?_) | apply rg_eq | refine rg_fr (by assumption) (by first | decide | (simp; omega)) ?_)) rfl rfl rfl ⟨(Nat.le_of_ble_eq_true rfl), (Nat.le_of_ble_eq_true rfl)⟩ (Nat.le_of_ble_eq_true rfl) ⟨(Nat.le_of_ble_eq_true rfl), (Nat.le_of_ble_eq_true rfl)⟩ ?_
        rintro _ _ ⟨rfl, rfl⟩
        rw [show (if bI ((setFT T 0 T.tr).has z) = 0 then (1 : Int32) else if (setFT T 0 T.tr).ln z = d then 0 else 2) = 1 from eA]
        refine a_istore 37 dX11_refusalOfCells_35 rfl (by decide) ?_
        refine a_iload 39 dX11_refusalOfCells_37 rfl rfl ?_
        refine a_if_eq 49 42 dX11_refusalOfCells_39 rfl (by decide) (fun c_39 => absurd c_39 (by decide)) (fun c_39 => ?_)
        refine a_aload_n 43 dX11_refusalOfCells_42 rfl rfl ?_
        refine a_iload 45 dX11_refusalOfCells_43 rfl rfl ?_
        refine a_callV ok_X11_faulted ln_X11_323 in_X11_faulted rfl 48 dX11_refusalOfCells_45 rfl (k_X11_faulted hy0 1) (by repeat (first | assumption | (refine rg_ne (by first | decide | omega) ?_) | apply rg_eq | refine rg_fr (by assumption) (by first | decide | (simp; omega)) ?_)) rfl rfl rfl ⟨(Nat.le_of_ble_eq_true rfl), (Nat.le_of_ble_eq_true rfl)⟩ (Nat.le_of_ble_eq_true rfl) ⟨(Nat.le_of_ble_eq_true rfl), (Nat.le_of_ble_eq_true rfl)⟩ ?_
        rintro h1 _ ⟨rfl, hy1, hf1⟩
        exact a_ireturn dX11_refusalOfCells_48 rfl rfl (Nat.le_of_ble_eq_true rfl) (Nat.le_of_ble_eq_true rfl) ⟨rfl, all_0 (T := setFT T 0 T.tr) q0 hy1 (kp_fr hf1), fr_trans f0 hf1 (by decide)⟩
      | true =>
        rw [if_pos rfl]
        have hb : ¬ bI (T.has z) = 0 := bI_n.mpr hh
        by_cases hl : T.ln z = d
        · rw [if_pos hl]
          have eA : (if bI (T.has z) = 0 then (1 : Int32) else if T.ln z = d then 0 else 2) = 0 := by rw [if_neg hb, if_pos hl]
          by_cases hn : n < 0
          · rw [if_pos hn]
            refine rM_start (by decide) (Nat.le_of_ble_eq_true rfl) ?_
            refine a_aload_n 1 dX11_refusalOfCells_0 rfl rfl ?_
            refine a_iconst (0) 2 dX11_refusalOfCells_1 rfl (by decide) ?_
            refine a_put fd_X11_268 cl_X11 rfl 5 dX11_refusalOfCells_2 rfl (by repeat (first | assumption | (refine rg_ne (by first | decide | omega) ?_) | apply rg_eq | refine rg_fr (by assumption) (by first | decide | (simp; omega)) ?_)) (Nat.le_of_ble_eq_true rfl) rfl rfl rfl ?_
            refine a_aload_n 6 dX11_refusalOfCells_5 rfl rfl ?_
            refine a_iload_n 7 dX11_refusalOfCells_6 rfl rfl ?_
            refine a_callV ok_X11_sheetAt ln_X11_86 in_X11_sheetAt rfl 10 dX11_refusalOfCells_7 rfl (c_sheet q0.1 hz) (by repeat (first | assumption | (refine rg_ne (by first | decide | omega) ?_) | apply rg_eq | refine rg_fr (by assumption) (by first | decide | (simp; omega)) ?_)) rfl rfl rfl ⟨(Nat.le_of_ble_eq_true rfl), (Nat.le_of_ble_eq_true rfl)⟩ (Nat.le_of_ble_eq_true rfl) ⟨(Nat.le_of_ble_eq_true rfl), (Nat.le_of_ble_eq_true rfl)⟩ ?_
            rintro _ _ ⟨rfl, rfl⟩
            refine a_astore 12 dX11_refusalOfCells_10 rfl (by decide) ?_
            refine a_aload 14 dX11_refusalOfCells_12 rfl rfl ?_
            refine a_ifnonnull 19 dX11_refusalOfCells_14 (by decide) ?_
            refine a_iload_n 20 dX11_refusalOfCells_19 rfl rfl ?_
            refine a_callS ok_X11_isLane ln_X11_320 is_X11_isLane rfl 23 dX11_refusalOfCells_20 rfl (k_X11_isLane d) rfl rfl ⟨(Nat.le_of_ble_eq_true rfl), (Nat.le_of_ble_eq_true rfl)⟩ (Nat.le_of_ble_eq_true rfl) ⟨(Nat.le_of_ble_eq_true rfl), (Nat.le_of_ble_eq_true rfl)⟩ ?_
            rintro _ _ ⟨rfl, rfl⟩
            refine a_if_ne 29 26 dX11_refusalOfCells_23 rfl (by decide) (fun c_23 => ?_) (fun c_23 => absurd c_23 (by rw [if_pos hd]; decide))
            refine a_aload 31 dX11_refusalOfCells_29 rfl rfl ?_
            refine a_iload_n 32 dX11_refusalOfCells_31 rfl rfl ?_
            refine a_callV ok_X8_faultAs ln_X11_339 in_X8_faultAs rfl 35 dX11_refusalOfCells_32 rfl (k_X8_faultAs hs d) (by repeat (first | assumption | (refine rg_ne (by first | decide | omega) ?_) | apply rg_eq | refine rg_fr (by assumption) (by first | decide | (simp; omega)) ?_)) rfl rfl rfl ⟨(Nat.le_of_ble_eq_true rfl), (Nat.le_of_ble_eq_true rfl)⟩ (Nat.le_of_ble_eq_true rfl) ⟨(Nat.le_of_ble_eq_true rfl), (Nat.le_of_ble_eq_true rfl)⟩ ?_
            rintro _ _ ⟨rfl, rfl⟩
            rw [show (if bI ((setFT T 0 T.tr).has z) = 0 then (1 : Int32) else if (setFT T 0 T.tr).ln z = d then 0 else 2) = 0 from eA]
            refine a_istore 37 dX11_refusalOfCells_35 rfl (by decide) ?_
            refine a_iload 39 dX11_refusalOfCells_37 rfl rfl ?_
            refine a_if_eq 49 42 dX11_refusalOfCells_39 rfl (by decide) (fun c_39 => ?_) (fun c_39 => absurd rfl c_39)
            refine a_iload 51 dX11_refusalOfCells_49 rfl rfl ?_
            refine a_if_ge 60 54 dX11_refusalOfCells_51 rfl (by decide) (fun c_51 => absurd hn (Int32.not_lt.mpr c_51)) (fun c_51 => ?_)
            refine a_aload_n 55 dX11_refusalOfCells_54 rfl rfl ?_
            refine a_iconst (4) 56 dX11_refusalOfCells_55 rfl (by decide) ?_
            refine a_callV ok_X11_faulted ln_X11_323 in_X11_faulted rfl 59 dX11_refusalOfCells_56 rfl (k_X11_faulted hy0 4) (by repeat (first | assumption | (refine rg_ne (by first | decide | omega) ?_) | apply rg_eq | refine rg_fr (by assumption) (by first | decide | (simp; omega)) ?_)) rfl rfl rfl ⟨(Nat.le_of_ble_eq_true rfl), (Nat.le_of_ble_eq_true rfl)⟩ (Nat.le_of_ble_eq_true rfl) ⟨(Nat.le_of_ble_eq_true rfl), (Nat.le_of_ble_eq_true rfl)⟩ ?_
            rintro h1 _ ⟨rfl, hy1, hf1⟩
            exact a_ireturn dX11_refusalOfCells_59 rfl rfl (Nat.le_of_ble_eq_true rfl) (Nat.le_of_ble_eq_true rfl) ⟨rfl, all_0 (T := setFT T 0 T.tr) q0 hy1 (kp_fr hf1), fr_trans f0 hf1 (by decide)⟩
          · rw [if_neg hn]
            by_cases hi : hasC (T.sz z) i n
            · rw [if_pos hi]
              refine rM_start (by decide) (Nat.le_of_ble_eq_true rfl) ?_
              refine a_aload_n 1 dX11_refusalOfCells_0 rfl rfl ?_
              refine a_iconst (0) 2 dX11_refusalOfCells_1 rfl (by decide) ?_
              refine a_put fd_X11_268 cl_X11 rfl 5 dX11_refusalOfCells_2 rfl (by repeat (first | assumption | (refine rg_ne (by first | decide | omega) ?_) | apply rg_eq | refine rg_fr (by assumption) (by first | decide | (simp; omega)) ?_)) (Nat.le_of_ble_eq_true rfl) rfl rfl rfl ?_
              refine a_aload_n 6 dX11_refusalOfCells_5 rfl rfl ?_
              refine a_iload_n 7 dX11_refusalOfCells_6 rfl rfl ?_
              refine a_callV ok_X11_sheetAt ln_X11_86 in_X11_sheetAt rfl 10 dX11_refusalOfCells_7 rfl (c_sheet q0.1 hz) (by repeat (first | assumption | (refine rg_ne (by first | decide | omega) ?_) | apply rg_eq | refine rg_fr (by assumption) (by first | decide | (simp; omega)) ?_)) rfl rfl rfl ⟨(Nat.le_of_ble_eq_true rfl), (Nat.le_of_ble_eq_true rfl)⟩ (Nat.le_of_ble_eq_true rfl) ⟨(Nat.le_of_ble_eq_true rfl), (Nat.le_of_ble_eq_true rfl)⟩ ?_
              rintro _ _ ⟨rfl, rfl⟩
              refine a_astore 12 dX11_refusalOfCells_10 rfl (by decide) ?_
              refine a_aload 14 dX11_refusalOfCells_12 rfl rfl ?_
              refine a_ifnonnull 19 dX11_refusalOfCells_14 (by decide) ?_
              refine a_iload_n 20 dX11_refusalOfCells_19 rfl rfl ?_
              refine a_callS ok_X11_isLane ln_X11_320 is_X11_isLane rfl 23 dX11_refusalOfCells_20 rfl (k_X11_isLane d) rfl rfl ⟨(Nat.le_of_ble_eq_true rfl), (Nat.le_of_ble_eq_true rfl)⟩ (Nat.le_of_ble_eq_true rfl) ⟨(Nat.le_of_ble_eq_true rfl), (Nat.le_of_ble_eq_true rfl)⟩ ?_
              rintro _ _ ⟨rfl, rfl⟩
              refine a_if_ne 29 26 dX11_refusalOfCells_23 rfl (by decide) (fun c_23 => ?_) (fun c_23 => absurd c_23 (by rw [if_pos hd]; decide))
              refine a_aload 31 dX11_refusalOfCells_29 rfl rfl ?_
              refine a_iload_n 32 dX11_refusalOfCells_31 rfl rfl ?_
              refine a_callV ok_X8_faultAs ln_X11_339 in_X8_faultAs rfl 35 dX11_refusalOfCells_32 rfl (k_X8_faultAs hs d) (by repeat (first | assumption | (refine rg_ne (by first | decide | omega) ?_) | apply rg_eq | refine rg_fr (by assumption) (by first | decide | (simp; omega)) ?_)) rfl rfl rfl ⟨(Nat.le_of_ble_eq_true rfl), (Nat.le_of_ble_eq_true rfl)⟩ (Nat.le_of_ble_eq_true rfl) ⟨(Nat.le_of_ble_eq_true rfl), (Nat.le_of_ble_eq_true rfl)⟩ ?_
              rintro _ _ ⟨rfl, rfl⟩
              rw [show (if bI ((setFT T 0 T.tr).has z) = 0 then (1 : Int32) else if (setFT T 0 T.tr).ln z = d then 0 else 2) = 0 from eA]
              refine a_istore 37 dX11_refusalOfCells_35 rfl (by decide) ?_
              refine a_iload 39 dX11_refusalOfCells_37 rfl rfl ?_
              refine a_if_eq 49 42 dX11_refusalOfCells_39 rfl (by decide) (fun c_39 => ?_) (fun c_39 => absurd rfl c_39)
              refine a_iload 51 dX11_refusalOfCells_49 rfl rfl ?_
              refine a_if_ge 60 54 dX11_refusalOfCells_51 rfl (by decide) (fun c_51 => ?_) (fun c_51 => absurd (Int32.not_lt.mp hn) c_51)
              refine a_aload 62 dX11_refusalOfCells_60 rfl rfl ?_
              refine a_iload_n 63 dX11_refusalOfCells_62 rfl rfl ?_
              refine a_iload 65 dX11_refusalOfCells_63 rfl rfl ?_
              refine a_callV ok_X8_hasCells ln_X11_348 in_X8_hasCells rfl 68 dX11_refusalOfCells_65 rfl (k_X8_hasCells hs i n) (by repeat (first | assumption | (refine rg_ne (by first | decide | omega) ?_) | apply rg_eq | refine rg_fr (by assumption) (by first | decide | (simp; omega)) ?_)) rfl rfl rfl ⟨(Nat.le_of_ble_eq_true rfl), (Nat.le_of_ble_eq_true rfl)⟩ (Nat.le_of_ble_eq_true rfl) ⟨(Nat.le_of_ble_eq_true rfl), (Nat.le_of_ble_eq_true rfl)⟩ ?_
              rintro _ _ ⟨rfl, rfl⟩
              refine a_if_eq 75 71 dX11_refusalOfCells_68 rfl (by decide) (fun c_68 => absurd c_68 (by rw [if_pos hi]; decide)) (fun c_68 => ?_)
              refine a_iconst (0) 72 dX11_refusalOfCells_71 rfl (by decide) ?_
              refine a_goto 80 dX11_refusalOfCells_72 (by decide) ?_
              exact a_ireturn dX11_refusalOfCells_80 rfl rfl (Nat.le_of_ble_eq_true rfl) (Nat.le_of_ble_eq_true rfl) ⟨rfl, q0, f0⟩
            · rw [if_neg hi]
              refine rM_start (by decide) (Nat.le_of_ble_eq_true rfl) ?_
              refine a_aload_n 1 dX11_refusalOfCells_0 rfl rfl ?_
              refine a_iconst (0) 2 dX11_refusalOfCells_1 rfl (by decide) ?_
              refine a_put fd_X11_268 cl_X11 rfl 5 dX11_refusalOfCells_2 rfl (by repeat (first | assumption | (refine rg_ne (by first | decide | omega) ?_) | apply rg_eq | refine rg_fr (by assumption) (by first | decide | (simp; omega)) ?_)) (Nat.le_of_ble_eq_true rfl) rfl rfl rfl ?_
              refine a_aload_n 6 dX11_refusalOfCells_5 rfl rfl ?_
              refine a_iload_n 7 dX11_refusalOfCells_6 rfl rfl ?_
              refine a_callV ok_X11_sheetAt ln_X11_86 in_X11_sheetAt rfl 10 dX11_refusalOfCells_7 rfl (c_sheet q0.1 hz) (by repeat (first | assumption | (refine rg_ne (by first | decide | omega) ?_) | apply rg_eq | refine rg_fr (by assumption) (by first | decide | (simp; omega)) ?_)) rfl rfl rfl ⟨(Nat.le_of_ble_eq_true rfl), (Nat.le_of_ble_eq_true rfl)⟩ (Nat.le_of_ble_eq_true rfl) ⟨(Nat.le_of_ble_eq_true rfl), (Nat.le_of_ble_eq_true rfl)⟩ ?_
              rintro _ _ ⟨rfl, rfl⟩
              refine a_astore 12 dX11_refusalOfCells_10 rfl (by decide) ?_
              refine a_aload 14 dX11_refusalOfCells_12 rfl rfl ?_
              refine a_ifnonnull 19 dX11_refusalOfCells_14 (by decide) ?_
              refine a_iload_n 20 dX11_refusalOfCells_19 rfl rfl ?_
              refine a_callS ok_X11_isLane ln_X11_320 is_X11_isLane rfl 23 dX11_refusalOfCells_20 rfl (k_X11_isLane d) rfl rfl ⟨(Nat.le_of_ble_eq_true rfl), (Nat.le_of_ble_eq_true rfl)⟩ (Nat.le_of_ble_eq_true rfl) ⟨(Nat.le_of_ble_eq_true rfl), (Nat.le_of_ble_eq_true rfl)⟩ ?_
              rintro _ _ ⟨rfl, rfl⟩
              refine a_if_ne 29 26 dX11_refusalOfCells_23 rfl (by decide) (fun c_23 => ?_) (fun c_23 => absurd c_23 (by rw [if_pos hd]; decide))
              refine a_aload 31 dX11_refusalOfCells_29 rfl rfl ?_
              refine a_iload_n 32 dX11_refusalOfCells_31 rfl rfl ?_
              refine a_callV ok_X8_faultAs ln_X11_339 in_X8_faultAs rfl 35 dX11_refusalOfCells_32 rfl (k_X8_faultAs hs d) (by repeat (first | assumption | (refine rg_ne (by first | decide | omega) ?_) | apply rg_eq | refine rg_fr (by assumption) (by first | decide | (simp; omega)) ?_)) rfl rfl rfl ⟨(Nat.le_of_ble_eq_true rfl), (Nat.le_of_ble_eq_true rfl)⟩ (Nat.le_of_ble_eq_true rfl) ⟨(Nat.le_of_ble_eq_true rfl), (Nat.le_of_ble_eq_true rfl)⟩ ?_
              rintro _ _ ⟨rfl, rfl⟩
              rw [show (if bI ((setFT T 0 T.tr).has z) = 0 then (1 : Int32) else if (setFT T 0 T.tr).ln z = d then 0 else 2) = 0 from eA]
              refine a_istore 37 dX11_refusalOfCells_35 rfl (by decide) ?_
              refine a_iload 39 dX11_refusalOfCells_37 rfl rfl ?_
              refine a_if_eq 49 42 dX11_refusalOfCells_39 rfl (by decide) (fun c_39 => ?_) (fun c_39 => absurd rfl c_39)
              refine a_iload 51 dX11_refusalOfCells_49 rfl rfl ?_
              refine a_if_ge 60 54 dX11_refusalOfCells_51 rfl (by decide) (fun c_51 => ?_) (fun c_51 => absurd (Int32.not_lt.mp hn) c_51)
              refine a_aload 62 dX11_refusalOfCells_60 rfl rfl ?_
              refine a_iload_n 63 dX11_refusalOfCells_62 rfl rfl ?_
              refine a_iload 65 dX11_refusalOfCells_63 rfl rfl ?_
              refine a_callV ok_X8_hasCells ln_X11_348 in_X8_hasCells rfl 68 dX11_refusalOfCells_65 rfl (k_X8_hasCells hs i n) (by repeat (first | assumption | (refine rg_ne (by first | decide | omega) ?_) | apply rg_eq | refine rg_fr (by assumption) (by first | decide | (simp; omega)) ?_)) rfl rfl rfl ⟨(Nat.le_of_ble_eq_true rfl), (Nat.le_of_ble_eq_true rfl)⟩ (Nat.le_of_ble_eq_true rfl) ⟨(Nat.le_of_ble_eq_true rfl), (Nat.le_of_ble_eq_true rfl)⟩ ?_
              rintro _ _ ⟨rfl, rfl⟩
              refine a_if_eq 75 71 dX11_refusalOfCells_68 rfl (by decide) (fun c_68 => ?_) (fun c_68 => absurd (if_neg hi) c_68)
              refine a_aload_n 76 dX11_refusalOfCells_75 rfl rfl ?_
              refine a_iconst (3) 77 dX11_refusalOfCells_76 rfl (by decide) ?_
              refine a_callV ok_X11_faulted ln_X11_323 in_X11_faulted rfl 80 dX11_refusalOfCells_77 rfl (k_X11_faulted hy0 3) (by repeat (first | assumption | (refine rg_ne (by first | decide | omega) ?_) | apply rg_eq | refine rg_fr (by assumption) (by first | decide | (simp; omega)) ?_)) rfl rfl rfl ⟨(Nat.le_of_ble_eq_true rfl), (Nat.le_of_ble_eq_true rfl)⟩ (Nat.le_of_ble_eq_true rfl) ⟨(Nat.le_of_ble_eq_true rfl), (Nat.le_of_ble_eq_true rfl)⟩ ?_
              rintro h1 _ ⟨rfl, hy1, hf1⟩
              exact a_ireturn dX11_refusalOfCells_80 rfl rfl (Nat.le_of_ble_eq_true rfl) (Nat.le_of_ble_eq_true rfl) ⟨rfl, all_0 (T := setFT T 0 T.tr) q0 hy1 (kp_fr hf1), fr_trans f0 hf1 (by decide)⟩
        · rw [if_neg hl]
          have eA : (if bI (T.has z) = 0 then (1 : Int32) else if T.ln z = d then 0 else 2) = 2 := by rw [if_neg hb, if_neg hl]
          refine rM_start (by decide) (Nat.le_of_ble_eq_true rfl) ?_
          refine a_aload_n 1 dX11_refusalOfCells_0 rfl rfl ?_
          refine a_iconst (0) 2 dX11_refusalOfCells_1 rfl (by decide) ?_
          refine a_put fd_X11_268 cl_X11 rfl 5 dX11_refusalOfCells_2 rfl (by repeat (first | assumption | (refine rg_ne (by first | decide | omega) ?_) | apply rg_eq | refine rg_fr (by assumption) (by first | decide | (simp; omega)) ?_)) (Nat.le_of_ble_eq_true rfl) rfl rfl rfl ?_
          refine a_aload_n 6 dX11_refusalOfCells_5 rfl rfl ?_
          refine a_iload_n 7 dX11_refusalOfCells_6 rfl rfl ?_
          refine a_callV ok_X11_sheetAt ln_X11_86 in_X11_sheetAt rfl 10 dX11_refusalOfCells_7 rfl (c_sheet q0.1 hz) (by repeat (first | assumption | (refine rg_ne (by first | decide | omega) ?_) | apply rg_eq | refine rg_fr (by assumption) (by first | decide | (simp; omega)) ?_)) rfl rfl rfl ⟨(Nat.le_of_ble_eq_true rfl), (Nat.le_of_ble_eq_true rfl)⟩ (Nat.le_of_ble_eq_true rfl) ⟨(Nat.le_of_ble_eq_true rfl), (Nat.le_of_ble_eq_true rfl)⟩ ?_
          rintro _ _ ⟨rfl, rfl⟩
          refine a_astore 12 dX11_refusalOfCells_10 rfl (by decide) ?_
          refine a_aload 14 dX11_refusalOfCells_12 rfl rfl ?_
          refine a_ifnonnull 19 dX11_refusalOfCells_14 (by decide) ?_
          refine a_iload_n 20 dX11_refusalOfCells_19 rfl rfl ?_
          refine a_callS ok_X11_isLane ln_X11_320 is_X11_isLane rfl 23 dX11_refusalOfCells_20 rfl (k_X11_isLane d) rfl rfl ⟨(Nat.le_of_ble_eq_true rfl), (Nat.le_of_ble_eq_true rfl)⟩ (Nat.le_of_ble_eq_true rfl) ⟨(Nat.le_of_ble_eq_true rfl), (Nat.le_of_ble_eq_true rfl)⟩ ?_
          rintro _ _ ⟨rfl, rfl⟩
          refine a_if_ne 29 26 dX11_refusalOfCells_23 rfl (by decide) (fun c_23 => ?_) (fun c_23 => absurd c_23 (by rw [if_pos hd]; decide))
          refine a_aload 31 dX11_refusalOfCells_29 rfl rfl ?_
          refine a_iload_n 32 dX11_refusalOfCells_31 rfl rfl ?_
          refine a_callV ok_X8_faultAs ln_X11_339 in_X8_faultAs rfl 35 dX11_refusalOfCells_32 rfl (k_X8_faultAs hs d) (by repeat (first | assumption | (refine rg_ne (by first | decide | omega) ?_) | apply rg_eq | refine rg_fr (by assumption) (by first | decide | (simp; omega)) ?_)) rfl rfl rfl ⟨(Nat.le_of_ble_eq_true rfl), (Nat.le_of_ble_eq_true rfl)⟩ (Nat.le_of_ble_eq_true rfl) ⟨(Nat.le_of_ble_eq_true rfl), (Nat.le_of_ble_eq_true rfl)⟩ ?_
          rintro _ _ ⟨rfl, rfl⟩
          rw [show (if bI ((setFT T 0 T.tr).has z) = 0 then (1 : Int32) else if (setFT T 0 T.tr).ln z = d then 0 else 2) = 2 from eA]
          refine a_istore 37 dX11_refusalOfCells_35 rfl (by decide) ?_
          refine a_iload 39 dX11_refusalOfCells_37 rfl rfl ?_
          refine a_if_eq 49 42 dX11_refusalOfCells_39 rfl (by decide) (fun c_39 => absurd c_39 (by decide)) (fun c_39 => ?_)
          refine a_aload_n 43 dX11_refusalOfCells_42 rfl rfl ?_
          refine a_iload 45 dX11_refusalOfCells_43 rfl rfl ?_
          refine a_callV ok_X11_faulted ln_X11_323 in_X11_faulted rfl 48 dX11_refusalOfCells_45 rfl (k_X11_faulted hy0 2) (by repeat (first | assumption | (refine rg_ne (by first | decide | omega) ?_) | apply rg_eq | refine rg_fr (by assumption) (by first | decide | (simp; omega)) ?_)) rfl rfl rfl ⟨(Nat.le_of_ble_eq_true rfl), (Nat.le_of_ble_eq_true rfl)⟩ (Nat.le_of_ble_eq_true rfl) ⟨(Nat.le_of_ble_eq_true rfl), (Nat.le_of_ble_eq_true rfl)⟩ ?_
          rintro h1 _ ⟨rfl, hy1, hf1⟩
          exact a_ireturn dX11_refusalOfCells_48 rfl rfl (Nat.le_of_ble_eq_true rfl) (Nat.le_of_ble_eq_true rfl) ⟨rfl, all_0 (T := setFT T 0 T.tr) q0 hy1 (kp_fr hf1), fr_trans f0 hf1 (by decide)⟩
    · rw [if_neg hd]
      refine rM_start (by decide) (Nat.le_of_ble_eq_true rfl) ?_
      refine a_aload_n 1 dX11_refusalOfCells_0 rfl rfl ?_
      refine a_iconst (0) 2 dX11_refusalOfCells_1 rfl (by decide) ?_
      refine a_put fd_X11_268 cl_X11 rfl 5 dX11_refusalOfCells_2 rfl (by repeat (first | assumption | (refine rg_ne (by first | decide | omega) ?_) | apply rg_eq | refine rg_fr (by assumption) (by first | decide | (simp; omega)) ?_)) (Nat.le_of_ble_eq_true rfl) rfl rfl rfl ?_
      refine a_aload_n 6 dX11_refusalOfCells_5 rfl rfl ?_
      refine a_iload_n 7 dX11_refusalOfCells_6 rfl rfl ?_
      refine a_callV ok_X11_sheetAt ln_X11_86 in_X11_sheetAt rfl 10 dX11_refusalOfCells_7 rfl (c_sheet q0.1 hz) (by repeat (first | assumption | (refine rg_ne (by first | decide | omega) ?_) | apply rg_eq | refine rg_fr (by assumption) (by first | decide | (simp; omega)) ?_)) rfl rfl rfl ⟨(Nat.le_of_ble_eq_true rfl), (Nat.le_of_ble_eq_true rfl)⟩ (Nat.le_of_ble_eq_true rfl) ⟨(Nat.le_of_ble_eq_true rfl), (Nat.le_of_ble_eq_true rfl)⟩ ?_
      rintro _ _ ⟨rfl, rfl⟩
      refine a_astore 12 dX11_refusalOfCells_10 rfl (by decide) ?_
      refine a_aload 14 dX11_refusalOfCells_12 rfl rfl ?_
      refine a_ifnonnull 19 dX11_refusalOfCells_14 (by decide) ?_
      refine a_iload_n 20 dX11_refusalOfCells_19 rfl rfl ?_
      refine a_callS ok_X11_isLane ln_X11_320 is_X11_isLane rfl 23 dX11_refusalOfCells_20 rfl (k_X11_isLane d) rfl rfl ⟨(Nat.le_of_ble_eq_true rfl), (Nat.le_of_ble_eq_true rfl)⟩ (Nat.le_of_ble_eq_true rfl) ⟨(Nat.le_of_ble_eq_true rfl), (Nat.le_of_ble_eq_true rfl)⟩ ?_
      rintro _ _ ⟨rfl, rfl⟩
      refine a_if_ne 29 26 dX11_refusalOfCells_23 rfl (by decide) (fun c_23 => absurd (if_neg hd) c_23) (fun c_23 => ?_)
      refine a_bipush (-2) 28 dX11_refusalOfCells_26 rfl (by decide) ?_
      exact a_ireturn dX11_refusalOfCells_28 rfl rfl (Nat.le_of_ble_eq_true rfl) (Nat.le_of_ble_eq_true rfl) ⟨rfl, q0, f0⟩
end COPY
