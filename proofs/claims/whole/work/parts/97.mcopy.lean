/-! THE MODEL: copy -/
section MCOPY
variable {l : Launch} {G : rG} {h : rH} {T : Tn}
abbrev scrM (S : List Nat) : Prop := ∀ k ∈ S, k = 38 ∨ k = 42 ∨ k = 50 ∨ k = 53 ∨ k = 54 ∨ k = 55 ∨ k = 56 ∨ k = 60
abbrev sameI (i i' : Nat → Int32) : Prop := i' 0 = i 0 ∧ i' 1 = i 1 ∧ i' 2 = i 2 ∧ i' 3 = i 3 ∧ i' 15 = i 15 ∧ i' 20 = i 20 ∧ i' 23 = i 23 ∧ i' 39 = i 39
/-- the model's work in its own rows and numbers -/
theorem mX_w {h' : rH} {i i' : Nat → Int32} {j : Nat → Int64} {S : List Nat} (q : mX G h T i j) (e38 : h'[38]? = some (mo G i' j)) (hk : mkAt G h') (hf : fr h h' S) (hS : scrM S) (hi : sameI i i') : mX G h' T i' j := by
  obtain ⟨k0, k1, k2, k3, k15, k20, k23, k39⟩ := hi
  have n : ∀ k, (k ≠ 38 ∧ k ≠ 42 ∧ k ≠ 50 ∧ k ≠ 53 ∧ k ≠ 54 ∧ k ≠ 55 ∧ k ≠ 56 ∧ k ≠ 60) → k ∉ S := fun k a u => by have := hS k u; omega
  obtain ⟨⟨⟨fn, -, a2, a3, a4, a5, a6, a7, a8⟩, b1, b2, b3, b4, b5, ⟨s, b6, b7⟩, b8⟩, ⟨-, c2, c3, ⟨g1, c4, c5⟩, ⟨g2, c6, c7⟩, ⟨g3, c8, c9⟩, ⟨g4, c10, c11⟩⟩, ⟨-, d2, d3, g5, d4, d5⟩, ⟨-, e2, e3, ⟨g6, e4, e5⟩, ⟨g7, e6, e7⟩⟩, q5, -, q7, q8, q9⟩ := q
  have hp := kp_fr hf
  exact ⟨⟨⟨fn, e38, k2.trans a2, a3, rg_fr hf (n _ (by decide)) a4, a5, rg_fr hf (n _ (by decide)) a6, rg_fr hf (n _ (by decide)) a7, a8⟩, b1, by rw [k1, k2]; exact b2, k3.trans b3, rg_fr hf (n _ (by decide)) b4, b5, ⟨s, rg_fr hf (n _ (by decide)) b6, b7⟩, b8⟩, ⟨e38, k15.trans c2, c3, ⟨g1, rg_fr hf (n _ (by decide)) c4, c5⟩, ⟨g2, rg_fr hf (n _ (by decide)) c6, c7⟩, ⟨g3, rg_fr hf (n _ (by decide)) c8, c9⟩, ⟨g4, rg_fr hf (n _ (by decide)) c10, c11⟩⟩, ⟨e38, k20.trans d2, d3, g5, rg_fr hf (n _ (by decide)) d4, d5⟩, ⟨e38, k23.trans e2, e3, ⟨g6, rg_fr hf (n _ (by decide)) e4, e5⟩, ⟨g7, rg_fr hf (n _ (by decide)) e6, e7⟩⟩, q5.kp hp (fun k hk => by have := hS k hk; omega), hk, k0.trans q7, k39.trans q8, k1.trans q9⟩
theorem has_ge {x : Int32} {b : Bool} {sz : Nat} (hx : x = if b then nI sz else -1) (h : ¬ x < 0) : b = true := by
  cases b
  · rw [hx, if_neg Bool.false_ne_true] at h; exact absurd (by decide) h
  · rfl
theorem byd {sz : Nat} (hs : sz ≤ 60) {a n : Int32} (h : (if a < 0 ∨ n.toInt64 < 0 ∨ (nI sz).toInt64 < a.toInt64 + n.toInt64 then (1 : Int32) else 0) = 0) : hasC sz a n := Decidable.not_not.mp (fun u => b_eq0.mp h ((beyond_iff hs _ _).mpr u))
theorem cp_st {w w2 : Nat → Int32} {s d t : Nat} (h2 : ∀ p, w2 p = if d ≤ p ∧ p < d + t then w (s + (p - d)) else w p) (p : Nat) : upd w2 (d + t) (w (s + t)) p = if d ≤ p ∧ p < d + (t + 1) then w (s + (p - d)) else w p := by
  by_cases e : p = d + t
  · rw [e, pk_us, if_pos (by omega), show s + (d + t - d) = s + t by omega]
  · rw [pk_un e, h2]
    by_cases e1 : d ≤ p ∧ p < d + t
    · rw [if_pos e1, if_pos (by omega)]
    · rw [if_neg e1, if_neg (by omega)]
theorem hd_st {w wA : Nat → Int32} {s t : Nat} (hA : ∀ k, k < t → wA k = w (s + k)) {k : Nat} (hk : k < t + 1) : upd wA t (w (s + t)) k = w (s + k) := by
  by_cases e : k = t
  · rw [e, pk_us]
  · rw [pk_un e]; exact hA k (by omega)
set_option maxRecDepth 100000 in
set_option maxHeartbeats 400000 in
theorem m_copy (q : mAll G h T) (o : T.ok) (c a d b n : Int32) : rM l G 12 mX12_copy 0 0 [.ref (gN G + 38), .int c, .int a, .int d, .int b, .int n] h (fun h' v => v = some (.int (aCopy T c a d b n)) ∧ mAll G h' (tCopy T c a d b n) ∧ kp h h' mL) := by
  obtain ⟨i, j, q⟩ := q
  have hm := q.at
  rcases oT_cases (n := 4) (by decide) c with ⟨e, hc⟩ | ⟨z, hz, rfl, e⟩
  · have ea : aCopy T c a d b n = -1 := by unfold aCopy; rw [e]
    have et : tCopy T c a d b n = setFT T 0 T.tr := by unfold tCopy; rw [e]
    refine rM_start (by decide) (Nat.le_of_ble_eq_true rfl) ?_
    refine a_iload_n 1 dX12_copy_0 rfl rfl ?_
    refine a_callS ok_X12_noSheet ln_X12_87 is_X12_noSheet rfl 4 dX12_copy_1 rfl (k_X12_noSheet c) rfl rfl ⟨(Nat.le_of_ble_eq_true rfl), (Nat.le_of_ble_eq_true rfl)⟩ (Nat.le_of_ble_eq_true rfl) ⟨(Nat.le_of_ble_eq_true rfl), (Nat.le_of_ble_eq_true rfl)⟩ ?_
    rintro _ _ ⟨rfl, rfl⟩
    refine a_if_ne 14 7 dX12_copy_4 rfl (by decide) (fun c_4 => ?_) (fun c_4 => absurd c_4 (by rw [if_neg (show ¬ (0 ≤ c ∧ c < 4) from hc)]; decide))
    refine a_aload_n 15 dX12_copy_14 rfl rfl ?_
    refine a_iconst (-1) 16 dX12_copy_15 rfl (by decide) ?_
    refine a_callV ok_X12_refused ln_X12_91 in_X12_refused rfl 19 dX12_copy_16 rfl (k_X12_refused hm (-1)) (by repeat (first | assumption | (refine rg_ne (by first | decide | omega) ?_) | apply rg_eq | refine rg_fr (by assumption) (by first | decide | (simp; omega)) ?_)) rfl rfl rfl ⟨(Nat.le_of_ble_eq_true rfl), (Nat.le_of_ble_eq_true rfl)⟩ (Nat.le_of_ble_eq_true rfl) ⟨(Nat.le_of_ble_eq_true rfl), (Nat.le_of_ble_eq_true rfl)⟩ ?_
    rintro h2 v ⟨rfl, e2, hf2⟩
    exact a_ireturn dX12_copy_19 rfl rfl (Nat.le_of_ble_eq_true rfl) (Nat.le_of_ble_eq_true rfl) ⟨by rw [ea], by rw [et]; exact ⟨_, j, mX_fa q e2 hf2⟩, kpm hf2 (by decide)⟩
  rcases oT_cases (n := 4) (by decide) d with ⟨e2, hd⟩ | ⟨y, hy, rfl, e2⟩
  · have ea : aCopy T (nI z) a d b n = -1 := by unfold aCopy; rw [e, e2]
    have et : tCopy T (nI z) a d b n = setFT T 0 T.tr := by unfold tCopy; rw [e, e2]
    refine rM_start (by decide) (Nat.le_of_ble_eq_true rfl) ?_
    refine a_iload_n 1 dX12_copy_0 rfl rfl ?_
    refine a_callS ok_X12_noSheet ln_X12_87 is_X12_noSheet rfl 4 dX12_copy_1 rfl (k_X12_noSheet (nI z)) rfl rfl ⟨(Nat.le_of_ble_eq_true rfl), (Nat.le_of_ble_eq_true rfl)⟩ (Nat.le_of_ble_eq_true rfl) ⟨(Nat.le_of_ble_eq_true rfl), (Nat.le_of_ble_eq_true rfl)⟩ ?_
    rintro _ _ ⟨rfl, rfl⟩
    refine a_if_ne 14 7 dX12_copy_4 rfl (by decide) (fun c_4 => absurd (if_pos (oT_yes hz (by decide))) c_4) (fun c_4 => ?_)
    refine a_iload_n 8 dX12_copy_7 rfl rfl ?_
    refine a_callS ok_X12_noSheet ln_X12_87 is_X12_noSheet rfl 11 dX12_copy_8 rfl (k_X12_noSheet d) rfl rfl ⟨(Nat.le_of_ble_eq_true rfl), (Nat.le_of_ble_eq_true rfl)⟩ (Nat.le_of_ble_eq_true rfl) ⟨(Nat.le_of_ble_eq_true rfl), (Nat.le_of_ble_eq_true rfl)⟩ ?_
    rintro _ _ ⟨rfl, rfl⟩
    refine a_if_eq 20 14 dX12_copy_11 rfl (by decide) (fun c_11 => absurd c_11 (by rw [if_neg (show ¬ (0 ≤ d ∧ d < 4) from hd)]; decide)) (fun c_11 => ?_)
    refine a_aload_n 15 dX12_copy_14 rfl rfl ?_
    refine a_iconst (-1) 16 dX12_copy_15 rfl (by decide) ?_
    refine a_callV ok_X12_refused ln_X12_91 in_X12_refused rfl 19 dX12_copy_16 rfl (k_X12_refused hm (-1)) (by repeat (first | assumption | (refine rg_ne (by first | decide | omega) ?_) | apply rg_eq | refine rg_fr (by assumption) (by first | decide | (simp; omega)) ?_)) rfl rfl rfl ⟨(Nat.le_of_ble_eq_true rfl), (Nat.le_of_ble_eq_true rfl)⟩ (Nat.le_of_ble_eq_true rfl) ⟨(Nat.le_of_ble_eq_true rfl), (Nat.le_of_ble_eq_true rfl)⟩ ?_
    rintro h2 v ⟨rfl, e3, hf2⟩
    exact a_ireturn dX12_copy_19 rfl rfl (Nat.le_of_ble_eq_true rfl) (Nat.le_of_ble_eq_true rfl) ⟨by rw [ea], by rw [et]; exact ⟨_, j, mX_fa q e3 hf2⟩, kpm hf2 (by decide)⟩
  have ea : aCopy T (nI z) a (nI y) b n = if copF T z y a b n = 0 then n else -10 - copF T z y a b n := by unfold aCopy; rw [e, e2]
  have et : tCopy T (nI z) a (nI y) b n = if copF T z y a b n = 0 then setS T 0 y true (T.ln y) (T.sz y) (cpyC (T.ce z) (T.ce y) a.toNatClampNeg b.toNatClampNeg n.toNatClampNeg) else setFT T (copF T z y a b n) T.tr := by unfold tCopy; rw [e, e2]
  obtain ⟨f, g, w, h57, h58, h59, hx⟩ := q.2.2.2.2.1
  have hsz := o.sz60 hz
  have hsy := o.sz60 hy
  have vz : vp_in (nI z) 4 := vp_in_nI hz (by decide)
  have vy : vp_in (nI y) 4 := vp_in_nI hy (by decide)
  have ez : (nI z).toNatClampNeg = z := nI_clamp (by omega)
  have ey : (nI y).toNatClampNeg = y := nI_clamp (by omega)
  have hfz : f z = if T.has z then nI (T.sz z) else -1 := (hx z hz).1
  have hgz : g z = T.ln z := (hx z hz).2.1
  have hfy : f y = if T.has y then nI (T.sz y) else -1 := (hx y hy).1
  have hgy : g y = T.ln y := (hx y hy).2.1
  by_cases hh : T.has z = true ∧ T.has y = true
  · have hfz2 : f z = nI (T.sz z) := by rw [hfz, hh.1]; rfl
    have hfy2 : f y = nI (T.sz y) := by rw [hfy, hh.2]; rfl
    have hgez : ¬ f z < 0 := by rw [hfz2]; exact nI_pos (by omega)
    have hgey : ¬ f y < 0 := by rw [hfy2]; exact nI_pos (by omega)
    by_cases hl : T.ln z = T.ln y
    · by_cases hH : hasC (T.sz z) a n ∧ hasC (T.sz y) b n
      · have eF : copF T z y a b n = 0 := by unfold copF; rw [if_pos hh, if_pos hl, if_pos hH]
        rw [if_pos eF] at ea et
        have hby1 : (if a < 0 ∨ n.toInt64 < 0 ∨ (nI (T.sz z)).toInt64 < a.toInt64 + n.toInt64 then (1 : Int32) else 0) = 0 := if_neg (fun u => (beyond_iff hsz _ _).mp u hH.1)
        have hby2 : (if b < 0 ∨ n.toInt64 < 0 ∨ (nI (T.sz y)).toInt64 < b.toInt64 + n.toInt64 then (1 : Int32) else 0) = 0 := if_neg (fun u => (beyond_iff hsy _ _).mp u hH.2)
        obtain ⟨a1, N, rfl, rfl, haN⟩ := hasC_N hsz hH.1
        obtain ⟨b1, N2, rfl, eN, hbN⟩ := hasC_N hsy hH.2
        have eN2 : N2 = N := ((nI_eq (by omega) (by have := hH.2.2.2; omega)).mp eN).symm
        subst eN2
        rw [nI_clamp (by omega), nI_clamp (by omega), nI_clamp (by omega)] at et
        obtain ⟨p42, p50, p53, p54, p55, p56, f60, p60⟩ := q.2.2.2.2.2.1
        have e133 : ∀ t, (60 : Int32) * nI z + nI a1 + nI t = nI (60 * z + a1 + t) := fun t => by rw [show (60 : Int32) = nI 60 from rfl, pk_mul, nI_add, nI_add]
        have e164 : ∀ t, (60 : Int32) * nI y + nI b1 + nI t = nI (60 * y + b1 + t) := fun t => by rw [show (60 : Int32) = nI 60 from rfl, pk_mul, nI_add, nI_add]
        have B : ∀ (r t : Nat) (x : Int32) (wA w2 : Nat → Int32) (h1 : rH), t + r = N2 → x = nI t → h1[60]? = some (.inl (gA G 0, 60, .inl wA)) → (∀ k, k < N2 → wA k = w (60 * z + a1 + k)) → h1[59]? = some (.inl (gA G 0, 240, .inl w2)) → (∀ p, w2 p = if 60 * y + b1 ≤ p ∧ p < 60 * y + b1 + t then w (60 * z + a1 + (p - (60 * y + b1))) else w p) → fr h h1 [59, 60] → rW l G (rRm 12 0 0) mX12_copy (rZ G (fun h' v => v = some (.int (aCopy T (nI z) (nI a1) (nI y) (nI b1) (nI N2))) ∧ mAll G h' (tCopy T (nI z) (nI a1) (nI y) (nI b1) (nI N2)) ∧ kp h h' mL) 0 0) 0 0 144 [some (.ref (gN G + 38)), some (.int (nI z)), some (.int (nI a1)), some (.int (nI y)), some (.int (nI b1)), some (.int (nI N2)), some (.int x)] [] h1 := by
          intro r
          induction r with
          | zero =>
            intro t x wA w2 h1 ht hxx e60 hA e59 h2 hf1
            subst hxx
            have etN : t = N2 := by omega
            subst etN
            have hm1 : h1[38]? = some (mo G i j) := rg_fr hf1 (by decide) hm
            have fA : fr h (h.set 60 (.inl (gA G 0, 60, .inl wA))) [60] := fr_set (fr_refl _ _) (by decide)
            have qA : mX G (h.set 60 (.inl (gA G 0, 60, .inl wA))) T i j := mX_w q (rg_ne (by decide) hm) ⟨ex_kp p42 (kp_fr fA) (by decide), ex_kp p50 (kp_fr fA) (by decide), ex_kp p53 (kp_fr fA) (by decide), ex_kp p54 (kp_fr fA) (by decide), ex_kp p55 (kp_fr fA) (by decide), ex_kp p56 (kp_fr fA) (by decide), _, rg_eq p60⟩ fA (by decide) ⟨rfl, rfl, rfl, rfl, rfl, rfl, rfl, rfl⟩
            have fB : fr (h.set 60 (.inl (gA G 0, 60, .inl wA))) h1 [57, 58, 59] := by
              refine ⟨by rw [hf1.1, List.length_set], fun k hk => ?_⟩
              by_cases e6 : k = 60
              · rw [e6, e60]; exact (rg_eq p60).symm
              · rw [hf1.2 k (by simp only [List.mem_cons, List.not_mem_nil, or_false] at hk ⊢; omega), List.getElem?_set_ne (fun u => e6 u.symm)]
            have q1 : mX G h1 (setS T T.fa y true (T.ln y) (T.sz y) (cpyC (T.ce z) (T.ce y) a1 b1 t)) i j := mX_sh qA fB (ms_set (rg_fr hf1 (by decide) h57) (rg_fr hf1 (by decide) h58) e59 (by rw [hfy2]; rfl) hgy (fun c hc => by
              rw [h2]
              unfold cpyC
              by_cases ec : b1 ≤ c ∧ c < b1 + t
              · rw [if_pos (by omega), if_pos ec, show 60 * z + a1 + (60 * y + c - (60 * y + b1)) = 60 * z + (a1 + (c - b1)) by omega]
                exact (hx z hz).2.2 _ (show a1 + (c - b1) < T.sz z by omega)
              · rw [if_neg (by omega), if_neg ec]; exact (hx y hy).2.2 c hc) (fun v hv ev => ⟨(hx v hv).1, (hx v hv).2.1, fun c hc => by
              have := o.sz60 hv
              rw [h2, if_neg (by omega)]; exact (hx v hv).2.2 c hc⟩))
            have hm2 := q1.at
            refine a_iload 146 dX12_copy_144 rfl rfl ?_
            refine a_iload 148 dX12_copy_146 rfl rfl ?_
            refine a_icmp_ge 179 151 dX12_copy_148 rfl (by decide) (fun c_148 => ?_) (fun c_148 => absurd (Int32.le_refl _) c_148)
            refine a_aload_n 180 dX12_copy_179 rfl rfl ?_
            refine a_iload 182 dX12_copy_180 rfl rfl ?_
            refine a_callV ok_X12_refused ln_X12_91 in_X12_refused rfl 185 dX12_copy_182 rfl (k_X12_refused hm2 _) (by repeat (first | assumption | (refine rg_ne (by first | decide | omega) ?_) | apply rg_eq | refine rg_fr (by assumption) (by first | decide | (simp; omega)) ?_)) rfl rfl rfl ⟨(Nat.le_of_ble_eq_true rfl), (Nat.le_of_ble_eq_true rfl)⟩ (Nat.le_of_ble_eq_true rfl) ⟨(Nat.le_of_ble_eq_true rfl), (Nat.le_of_ble_eq_true rfl)⟩ ?_
            rintro h2 v ⟨rfl, e3, hf2⟩
            exact a_ireturn dX12_copy_185 rfl rfl (Nat.le_of_ble_eq_true rfl) (Nat.le_of_ble_eq_true rfl) ⟨by rw [ea], by rw [et]; exact ⟨_, j, mX_fa q1 e3 hf2⟩, kpm (fr_trans (fr_mono hf1 (T := [38, 59, 60]) (by decide)) hf2 (by decide)) (by decide)⟩
          | succ r ih =>
            intro t x wA w2 h1 ht hxx e60 hA e59 h2 hf1
            subst hxx
            have hm1 : h1[38]? = some (mo G i j) := rg_fr hf1 (by decide) hm
            have v164 : vp_in (60 * nI y + nI b1 + nI t) 240 := by rw [e164]; exact vp_in_nI (by omega) (by decide)
            have c164 : (60 * nI y + nI b1 + nI t).toNatClampNeg = 60 * y + b1 + t := by rw [e164]; exact nI_clamp (by omega)
            have vt : vp_in (nI t) 60 := vp_in_nI (by omega) (by decide)
            have ct : (nI t).toNatClampNeg = t := nI_clamp (by omega)
            refine a_iload 146 dX12_copy_144 rfl rfl ?_
            refine a_iload 148 dX12_copy_146 rfl rfl ?_
            refine a_icmp_ge 179 151 dX12_copy_148 rfl (by decide) (fun c_148 => absurd c_148 (nI_ge (a := t) (b := N2) (by omega) (by omega))) (fun c_148 => ?_)
            refine a_aload_n 152 dX12_copy_151 rfl rfl ?_
            refine a_get fd_X12_71 rfl 155 dX12_copy_152 rfl (by repeat (first | assumption | (refine rg_ne (by first | decide | omega) ?_) | apply rg_eq | refine rg_fr (by assumption) (by first | decide | (simp; omega)) ?_)) rfl ?_
            refine a_bipush (60) 157 dX12_copy_155 rfl (by decide) ?_
            refine a_iload_n 158 dX12_copy_157 rfl rfl ?_
            refine a_imul 159 dX12_copy_158 rfl ?_
            refine a_iload 161 dX12_copy_159 rfl rfl ?_
            refine a_iadd 162 dX12_copy_161 rfl ?_
            refine a_iload 164 dX12_copy_162 rfl rfl ?_
            refine a_iadd 165 dX12_copy_164 rfl ?_
            refine a_aload_n 166 dX12_copy_165 rfl rfl ?_
            refine a_get fd_X12_74 rfl 169 dX12_copy_166 rfl (by repeat (first | assumption | (refine rg_ne (by first | decide | omega) ?_) | apply rg_eq | refine rg_fr (by assumption) (by first | decide | (simp; omega)) ?_)) rfl ?_
            refine a_iload 171 dX12_copy_169 rfl rfl ?_
            refine a_iaload 172 dX12_copy_171 rfl (by repeat (first | assumption | (refine rg_ne (by first | decide | omega) ?_) | apply rg_eq | refine rg_fr (by assumption) (by first | decide | (simp; omega)) ?_)) vt ?_
            refine a_iastore 173 dX12_copy_172 rfl (by repeat (first | assumption | (refine rg_ne (by first | decide | omega) ?_) | apply rg_eq | refine rg_fr (by assumption) (by first | decide | (simp; omega)) ?_)) v164 ?_
            refine a_iinc _ 176 dX12_copy_173 rfl rfl (by decide) rfl ?_
            refine a_goto 144 dX12_copy_176 (by decide) ?_
            exact ih (t + 1) _ wA _ _ (by omega) (nI_1 t) (rg_ne (by decide) e60) hA (rg_eq e59) (fun p => by rw [c164, ct, hA t (by omega)]; exact cp_st h2 p) (fr_set hf1 (by decide))
        have A : ∀ (r t : Nat) (x : Int32) (wA : Nat → Int32) (h1 : rH), t + r = N2 → x = nI t → h1[60]? = some (.inl (gA G 0, 60, .inl wA)) → (∀ k, k < t → wA k = w (60 * z + a1 + k)) → fr h h1 [59, 60] → h1[59]? = some (.inl (gA G 0, 240, .inl w)) → rW l G (rRm 12 0 0) mX12_copy (rZ G (fun h' v => v = some (.int (aCopy T (nI z) (nI a1) (nI y) (nI b1) (nI N2))) ∧ mAll G h' (tCopy T (nI z) (nI a1) (nI y) (nI b1) (nI N2)) ∧ kp h h' mL) 0 0) 0 0 107 [some (.ref (gN G + 38)), some (.int (nI z)), some (.int (nI a1)), some (.int (nI y)), some (.int (nI b1)), some (.int (nI N2)), some (.int x)] [] h1 := by
          intro r
          induction r with
          | zero =>
            intro t x wA h1 ht hxx e60 hA hf1 e59
            subst hxx
            have etN : t = N2 := by omega
            subst etN
            refine a_iload 109 dX12_copy_107 rfl rfl ?_
            refine a_iload 111 dX12_copy_109 rfl rfl ?_
            refine a_icmp_ge 141 114 dX12_copy_111 rfl (by decide) (fun c_111 => ?_) (fun c_111 => absurd (Int32.le_refl _) c_111)
            refine a_iconst (0) 142 dX12_copy_141 rfl (by decide) ?_
            refine a_istore 144 dX12_copy_142 rfl (by decide) ?_
            exact B t 0 _ wA w _ (by omega) rfl e60 hA e59 (fun p => by rw [if_neg (by omega)]) hf1
          | succ r ih =>
            intro t x wA h1 ht hxx e60 hA hf1 e59
            subst hxx
            have hm1 : h1[38]? = some (mo G i j) := rg_fr hf1 (by decide) hm
            have v133 : vp_in (60 * nI z + nI a1 + nI t) 240 := by rw [e133]; exact vp_in_nI (by omega) (by decide)
            have c133 : (60 * nI z + nI a1 + nI t).toNatClampNeg = 60 * z + a1 + t := by rw [e133]; exact nI_clamp (by omega)
            have vt : vp_in (nI t) 60 := vp_in_nI (by omega) (by decide)
            have ct : (nI t).toNatClampNeg = t := nI_clamp (by omega)
            refine a_iload 109 dX12_copy_107 rfl rfl ?_
            refine a_iload 111 dX12_copy_109 rfl rfl ?_
            refine a_icmp_ge 141 114 dX12_copy_111 rfl (by decide) (fun c_111 => absurd c_111 (nI_ge (a := t) (b := N2) (by omega) (by omega))) (fun c_111 => ?_)
            refine a_aload_n 115 dX12_copy_114 rfl rfl ?_
            refine a_get fd_X12_74 rfl 118 dX12_copy_115 rfl (by repeat (first | assumption | (refine rg_ne (by first | decide | omega) ?_) | apply rg_eq | refine rg_fr (by assumption) (by first | decide | (simp; omega)) ?_)) rfl ?_
            refine a_iload 120 dX12_copy_118 rfl rfl ?_
            refine a_aload_n 121 dX12_copy_120 rfl rfl ?_
            refine a_get fd_X12_71 rfl 124 dX12_copy_121 rfl (by repeat (first | assumption | (refine rg_ne (by first | decide | omega) ?_) | apply rg_eq | refine rg_fr (by assumption) (by first | decide | (simp; omega)) ?_)) rfl ?_
            refine a_bipush (60) 126 dX12_copy_124 rfl (by decide) ?_
            refine a_iload_n 127 dX12_copy_126 rfl rfl ?_
            refine a_imul 128 dX12_copy_127 rfl ?_
            refine a_iload_n 129 dX12_copy_128 rfl rfl ?_
            refine a_iadd 130 dX12_copy_129 rfl ?_
            refine a_iload 132 dX12_copy_130 rfl rfl ?_
            refine a_iadd 133 dX12_copy_132 rfl ?_
            refine a_iaload 134 dX12_copy_133 rfl (by repeat (first | assumption | (refine rg_ne (by first | decide | omega) ?_) | apply rg_eq | refine rg_fr (by assumption) (by first | decide | (simp; omega)) ?_)) v133 ?_
            refine a_iastore 135 dX12_copy_134 rfl (by repeat (first | assumption | (refine rg_ne (by first | decide | omega) ?_) | apply rg_eq | refine rg_fr (by assumption) (by first | decide | (simp; omega)) ?_)) vt ?_
            refine a_iinc _ 138 dX12_copy_135 rfl rfl (by decide) rfl ?_
            refine a_goto 107 dX12_copy_138 (by decide) ?_
            exact ih (t + 1) _ _ _ (by omega) (nI_1 t) (rg_eq e60) (fun k hk => by rw [ct, c133]; exact hd_st hA hk) (fr_set hf1 (by decide)) (rg_ne (by decide) e59)
        refine rM_start (by decide) (Nat.le_of_ble_eq_true rfl) ?_
        refine a_iload_n 1 dX12_copy_0 rfl rfl ?_
        refine a_callS ok_X12_noSheet ln_X12_87 is_X12_noSheet rfl 4 dX12_copy_1 rfl (k_X12_noSheet (nI z)) rfl rfl ⟨(Nat.le_of_ble_eq_true rfl), (Nat.le_of_ble_eq_true rfl)⟩ (Nat.le_of_ble_eq_true rfl) ⟨(Nat.le_of_ble_eq_true rfl), (Nat.le_of_ble_eq_true rfl)⟩ ?_
        rintro _ _ ⟨rfl, rfl⟩
        refine a_if_ne 14 7 dX12_copy_4 rfl (by decide) (fun c_4 => absurd (if_pos (oT_yes hz (by decide))) c_4) (fun c_4 => ?_)
        refine a_iload_n 8 dX12_copy_7 rfl rfl ?_
        refine a_callS ok_X12_noSheet ln_X12_87 is_X12_noSheet rfl 11 dX12_copy_8 rfl (k_X12_noSheet (nI y)) rfl rfl ⟨(Nat.le_of_ble_eq_true rfl), (Nat.le_of_ble_eq_true rfl)⟩ (Nat.le_of_ble_eq_true rfl) ⟨(Nat.le_of_ble_eq_true rfl), (Nat.le_of_ble_eq_true rfl)⟩ ?_
        rintro _ _ ⟨rfl, rfl⟩
        refine a_if_eq 20 14 dX12_copy_11 rfl (by decide) (fun c_11 => ?_) (fun c_11 => absurd (if_pos (oT_yes hy (by decide))) c_11)
        refine a_aload_n 21 dX12_copy_20 rfl rfl ?_
        refine a_get fd_X12_65 rfl 24 dX12_copy_21 rfl (by repeat (first | assumption | (refine rg_ne (by first | decide | omega) ?_) | apply rg_eq | refine rg_fr (by assumption) (by first | decide | (simp; omega)) ?_)) rfl ?_
        refine a_iload_n 25 dX12_copy_24 rfl rfl ?_
        refine a_iaload 26 dX12_copy_25 rfl (by repeat (first | assumption | (refine rg_ne (by first | decide | omega) ?_) | apply rg_eq | refine rg_fr (by assumption) (by first | decide | (simp; omega)) ?_)) vz ?_
        rw [ez]
        refine a_if_lt 38 29 dX12_copy_26 rfl (by decide) (fun c_26 => absurd c_26 hgez) (fun c_26 => ?_)
        refine a_aload_n 30 dX12_copy_29 rfl rfl ?_
        refine a_get fd_X12_65 rfl 33 dX12_copy_30 rfl (by repeat (first | assumption | (refine rg_ne (by first | decide | omega) ?_) | apply rg_eq | refine rg_fr (by assumption) (by first | decide | (simp; omega)) ?_)) rfl ?_
        refine a_iload_n 34 dX12_copy_33 rfl rfl ?_
        refine a_iaload 35 dX12_copy_34 rfl (by repeat (first | assumption | (refine rg_ne (by first | decide | omega) ?_) | apply rg_eq | refine rg_fr (by assumption) (by first | decide | (simp; omega)) ?_)) vy ?_
        rw [ey]
        refine a_if_ge 44 38 dX12_copy_35 rfl (by decide) (fun c_35 => ?_) (fun c_35 => absurd (Int32.not_lt.mp hgey) c_35)
        refine a_aload_n 45 dX12_copy_44 rfl rfl ?_
        refine a_get fd_X12_68 rfl 48 dX12_copy_45 rfl (by repeat (first | assumption | (refine rg_ne (by first | decide | omega) ?_) | apply rg_eq | refine rg_fr (by assumption) (by first | decide | (simp; omega)) ?_)) rfl ?_
        refine a_iload_n 49 dX12_copy_48 rfl rfl ?_
        refine a_iaload 50 dX12_copy_49 rfl (by repeat (first | assumption | (refine rg_ne (by first | decide | omega) ?_) | apply rg_eq | refine rg_fr (by assumption) (by first | decide | (simp; omega)) ?_)) (by assumption) ?_
        refine a_aload_n 51 dX12_copy_50 rfl rfl ?_
        refine a_get fd_X12_68 rfl 54 dX12_copy_51 rfl (by repeat (first | assumption | (refine rg_ne (by first | decide | omega) ?_) | apply rg_eq | refine rg_fr (by assumption) (by first | decide | (simp; omega)) ?_)) rfl ?_
        refine a_iload_n 55 dX12_copy_54 rfl rfl ?_
        refine a_iaload 56 dX12_copy_55 rfl (by repeat (first | assumption | (refine rg_ne (by first | decide | omega) ?_) | apply rg_eq | refine rg_fr (by assumption) (by first | decide | (simp; omega)) ?_)) vy ?_
        rw [ez, ey, hgz, hgy]
        refine a_icmp_eq 65 59 dX12_copy_56 rfl (by decide) (fun c_56 => ?_) (fun c_56 => absurd hl c_56)
        refine a_iload_n 66 dX12_copy_65 rfl rfl ?_
        refine a_iload 68 dX12_copy_66 rfl rfl ?_
        refine a_i2l 69 dX12_copy_68 rfl ?_
        refine a_aload_n 70 dX12_copy_69 rfl rfl ?_
        refine a_get fd_X12_65 rfl 73 dX12_copy_70 rfl (by repeat (first | assumption | (refine rg_ne (by first | decide | omega) ?_) | apply rg_eq | refine rg_fr (by assumption) (by first | decide | (simp; omega)) ?_)) rfl ?_
        refine a_iload_n 74 dX12_copy_73 rfl rfl ?_
        refine a_iaload 75 dX12_copy_74 rfl (by repeat (first | assumption | (refine rg_ne (by first | decide | omega) ?_) | apply rg_eq | refine rg_fr (by assumption) (by first | decide | (simp; omega)) ?_)) vz ?_
        rw [ez, hfz2]
        refine a_callS ok_X12_isBeyond ln_X12_104 is_X12_isBeyond rfl 78 dX12_copy_75 rfl (k_X12_isBeyond _ _ _) rfl rfl ⟨(Nat.le_of_ble_eq_true rfl), (Nat.le_of_ble_eq_true rfl)⟩ (Nat.le_of_ble_eq_true rfl) ⟨(Nat.le_of_ble_eq_true rfl), (Nat.le_of_ble_eq_true rfl)⟩ ?_
        rintro _ _ ⟨rfl, rfl⟩
        refine a_if_ne 98 81 dX12_copy_78 rfl (by decide) (fun c_78 => absurd hby1 c_78) (fun c_78 => ?_)
        refine a_iload 83 dX12_copy_81 rfl rfl ?_
        refine a_iload 85 dX12_copy_83 rfl rfl ?_
        refine a_i2l 86 dX12_copy_85 rfl ?_
        refine a_aload_n 87 dX12_copy_86 rfl rfl ?_
        refine a_get fd_X12_65 rfl 90 dX12_copy_87 rfl (by repeat (first | assumption | (refine rg_ne (by first | decide | omega) ?_) | apply rg_eq | refine rg_fr (by assumption) (by first | decide | (simp; omega)) ?_)) rfl ?_
        refine a_iload_n 91 dX12_copy_90 rfl rfl ?_
        refine a_iaload 92 dX12_copy_91 rfl (by repeat (first | assumption | (refine rg_ne (by first | decide | omega) ?_) | apply rg_eq | refine rg_fr (by assumption) (by first | decide | (simp; omega)) ?_)) vy ?_
        rw [ey, hfy2]
        refine a_callS ok_X12_isBeyond ln_X12_104 is_X12_isBeyond rfl 95 dX12_copy_92 rfl (k_X12_isBeyond _ _ _) rfl rfl ⟨(Nat.le_of_ble_eq_true rfl), (Nat.le_of_ble_eq_true rfl)⟩ (Nat.le_of_ble_eq_true rfl) ⟨(Nat.le_of_ble_eq_true rfl), (Nat.le_of_ble_eq_true rfl)⟩ ?_
        rintro _ _ ⟨rfl, rfl⟩
        refine a_if_eq 104 98 dX12_copy_95 rfl (by decide) (fun c_95 => ?_) (fun c_95 => absurd hby2 c_95)
        refine a_iconst (0) 105 dX12_copy_104 rfl (by decide) ?_
        refine a_istore 107 dX12_copy_105 rfl (by decide) ?_
        exact A N2 0 _ f60 _ (by omega) rfl p60 (fun k hk => absurd hk (by omega)) (fr_refl _ _) h59
      · have eF : copF T z y a b n = 3 := by unfold copF; rw [if_pos hh, if_pos hl, if_neg hH]
        rw [eF, if_neg (by decide)] at ea et
        refine rM_start (by decide) (Nat.le_of_ble_eq_true rfl) ?_
        refine a_iload_n 1 dX12_copy_0 rfl rfl ?_
        refine a_callS ok_X12_noSheet ln_X12_87 is_X12_noSheet rfl 4 dX12_copy_1 rfl (k_X12_noSheet (nI z)) rfl rfl ⟨(Nat.le_of_ble_eq_true rfl), (Nat.le_of_ble_eq_true rfl)⟩ (Nat.le_of_ble_eq_true rfl) ⟨(Nat.le_of_ble_eq_true rfl), (Nat.le_of_ble_eq_true rfl)⟩ ?_
        rintro _ _ ⟨rfl, rfl⟩
        refine a_if_ne 14 7 dX12_copy_4 rfl (by decide) (fun c_4 => absurd (if_pos (oT_yes hz (by decide))) c_4) (fun c_4 => ?_)
        refine a_iload_n 8 dX12_copy_7 rfl rfl ?_
        refine a_callS ok_X12_noSheet ln_X12_87 is_X12_noSheet rfl 11 dX12_copy_8 rfl (k_X12_noSheet (nI y)) rfl rfl ⟨(Nat.le_of_ble_eq_true rfl), (Nat.le_of_ble_eq_true rfl)⟩ (Nat.le_of_ble_eq_true rfl) ⟨(Nat.le_of_ble_eq_true rfl), (Nat.le_of_ble_eq_true rfl)⟩ ?_
        rintro _ _ ⟨rfl, rfl⟩
        refine a_if_eq 20 14 dX12_copy_11 rfl (by decide) (fun c_11 => ?_) (fun c_11 => absurd (if_pos (oT_yes hy (by decide))) c_11)
        refine a_aload_n 21 dX12_copy_20 rfl rfl ?_
        refine a_get fd_X12_65 rfl 24 dX12_copy_21 rfl (by repeat (first | assumption | (refine rg_ne (by first | decide | omega) ?_) | apply rg_eq | refine rg_fr (by assumption) (by first | decide | (simp; omega)) ?_)) rfl ?_
        refine a_iload_n 25 dX12_copy_24 rfl rfl ?_
        refine a_iaload 26 dX12_copy_25 rfl (by repeat (first | assumption | (refine rg_ne (by first | decide | omega) ?_) | apply rg_eq | refine rg_fr (by assumption) (by first | decide | (simp; omega)) ?_)) vz ?_
        rw [ez]
        refine a_if_lt 38 29 dX12_copy_26 rfl (by decide) (fun c_26 => absurd c_26 hgez) (fun c_26 => ?_)
        refine a_aload_n 30 dX12_copy_29 rfl rfl ?_
        refine a_get fd_X12_65 rfl 33 dX12_copy_30 rfl (by repeat (first | assumption | (refine rg_ne (by first | decide | omega) ?_) | apply rg_eq | refine rg_fr (by assumption) (by first | decide | (simp; omega)) ?_)) rfl ?_
        refine a_iload_n 34 dX12_copy_33 rfl rfl ?_
        refine a_iaload 35 dX12_copy_34 rfl (by repeat (first | assumption | (refine rg_ne (by first | decide | omega) ?_) | apply rg_eq | refine rg_fr (by assumption) (by first | decide | (simp; omega)) ?_)) vy ?_
        rw [ey]
        refine a_if_ge 44 38 dX12_copy_35 rfl (by decide) (fun c_35 => ?_) (fun c_35 => absurd (Int32.not_lt.mp hgey) c_35)
        refine a_aload_n 45 dX12_copy_44 rfl rfl ?_
        refine a_get fd_X12_68 rfl 48 dX12_copy_45 rfl (by repeat (first | assumption | (refine rg_ne (by first | decide | omega) ?_) | apply rg_eq | refine rg_fr (by assumption) (by first | decide | (simp; omega)) ?_)) rfl ?_
        refine a_iload_n 49 dX12_copy_48 rfl rfl ?_
        refine a_iaload 50 dX12_copy_49 rfl (by repeat (first | assumption | (refine rg_ne (by first | decide | omega) ?_) | apply rg_eq | refine rg_fr (by assumption) (by first | decide | (simp; omega)) ?_)) (by assumption) ?_
        refine a_aload_n 51 dX12_copy_50 rfl rfl ?_
        refine a_get fd_X12_68 rfl 54 dX12_copy_51 rfl (by repeat (first | assumption | (refine rg_ne (by first | decide | omega) ?_) | apply rg_eq | refine rg_fr (by assumption) (by first | decide | (simp; omega)) ?_)) rfl ?_
        refine a_iload_n 55 dX12_copy_54 rfl rfl ?_
        refine a_iaload 56 dX12_copy_55 rfl (by repeat (first | assumption | (refine rg_ne (by first | decide | omega) ?_) | apply rg_eq | refine rg_fr (by assumption) (by first | decide | (simp; omega)) ?_)) vy ?_
        rw [ez, ey, hgz, hgy]
        refine a_icmp_eq 65 59 dX12_copy_56 rfl (by decide) (fun c_56 => ?_) (fun c_56 => absurd hl c_56)
        refine a_iload_n 66 dX12_copy_65 rfl rfl ?_
        refine a_iload 68 dX12_copy_66 rfl rfl ?_
        refine a_i2l 69 dX12_copy_68 rfl ?_
        refine a_aload_n 70 dX12_copy_69 rfl rfl ?_
        refine a_get fd_X12_65 rfl 73 dX12_copy_70 rfl (by repeat (first | assumption | (refine rg_ne (by first | decide | omega) ?_) | apply rg_eq | refine rg_fr (by assumption) (by first | decide | (simp; omega)) ?_)) rfl ?_
        refine a_iload_n 74 dX12_copy_73 rfl rfl ?_
        refine a_iaload 75 dX12_copy_74 rfl (by repeat (first | assumption | (refine rg_ne (by first | decide | omega) ?_) | apply rg_eq | refine rg_fr (by assumption) (by first | decide | (simp; omega)) ?_)) vz ?_
        rw [ez, hfz2]
        refine a_callS ok_X12_isBeyond ln_X12_104 is_X12_isBeyond rfl 78 dX12_copy_75 rfl (k_X12_isBeyond _ _ _) rfl rfl ⟨(Nat.le_of_ble_eq_true rfl), (Nat.le_of_ble_eq_true rfl)⟩ (Nat.le_of_ble_eq_true rfl) ⟨(Nat.le_of_ble_eq_true rfl), (Nat.le_of_ble_eq_true rfl)⟩ ?_
        rintro _ _ ⟨rfl, rfl⟩
        refine a_if_ne 98 81 dX12_copy_78 rfl (by decide) (fun c_78 => ?_) (fun c_78 => ?_)
        · refine a_aload_n 99 dX12_copy_98 rfl rfl ?_
          refine a_iconst (3) 100 dX12_copy_99 rfl (by decide) ?_
          refine a_callV ok_X12_failed ln_X12_101 in_X12_failed rfl 103 dX12_copy_100 rfl (k_X12_failed hm 3) (by repeat (first | assumption | (refine rg_ne (by first | decide | omega) ?_) | apply rg_eq | refine rg_fr (by assumption) (by first | decide | (simp; omega)) ?_)) rfl rfl rfl ⟨(Nat.le_of_ble_eq_true rfl), (Nat.le_of_ble_eq_true rfl)⟩ (Nat.le_of_ble_eq_true rfl) ⟨(Nat.le_of_ble_eq_true rfl), (Nat.le_of_ble_eq_true rfl)⟩ ?_
          rintro h2 v ⟨rfl, e3, hf2⟩
          exact a_ireturn dX12_copy_103 rfl rfl (Nat.le_of_ble_eq_true rfl) (Nat.le_of_ble_eq_true rfl) ⟨by rw [ea], by rw [et]; exact ⟨_, j, mX_fa q e3 hf2⟩, kpm hf2 (by decide)⟩
        · refine a_iload 83 dX12_copy_81 rfl rfl ?_
          refine a_iload 85 dX12_copy_83 rfl rfl ?_
          refine a_i2l 86 dX12_copy_85 rfl ?_
          refine a_aload_n 87 dX12_copy_86 rfl rfl ?_
          refine a_get fd_X12_65 rfl 90 dX12_copy_87 rfl (by repeat (first | assumption | (refine rg_ne (by first | decide | omega) ?_) | apply rg_eq | refine rg_fr (by assumption) (by first | decide | (simp; omega)) ?_)) rfl ?_
          refine a_iload_n 91 dX12_copy_90 rfl rfl ?_
          refine a_iaload 92 dX12_copy_91 rfl (by repeat (first | assumption | (refine rg_ne (by first | decide | omega) ?_) | apply rg_eq | refine rg_fr (by assumption) (by first | decide | (simp; omega)) ?_)) vy ?_
          rw [ey, hfy2]
          refine a_callS ok_X12_isBeyond ln_X12_104 is_X12_isBeyond rfl 95 dX12_copy_92 rfl (k_X12_isBeyond _ _ _) rfl rfl ⟨(Nat.le_of_ble_eq_true rfl), (Nat.le_of_ble_eq_true rfl)⟩ (Nat.le_of_ble_eq_true rfl) ⟨(Nat.le_of_ble_eq_true rfl), (Nat.le_of_ble_eq_true rfl)⟩ ?_
          rintro _ _ ⟨rfl, rfl⟩
          refine a_if_eq 104 98 dX12_copy_95 rfl (by decide) (fun c_95 => absurd ⟨byd hsz c_78, byd hsy c_95⟩ hH) (fun c_95 => ?_)
          refine a_aload_n 99 dX12_copy_98 rfl rfl ?_
          refine a_iconst (3) 100 dX12_copy_99 rfl (by decide) ?_
          refine a_callV ok_X12_failed ln_X12_101 in_X12_failed rfl 103 dX12_copy_100 rfl (k_X12_failed hm 3) (by repeat (first | assumption | (refine rg_ne (by first | decide | omega) ?_) | apply rg_eq | refine rg_fr (by assumption) (by first | decide | (simp; omega)) ?_)) rfl rfl rfl ⟨(Nat.le_of_ble_eq_true rfl), (Nat.le_of_ble_eq_true rfl)⟩ (Nat.le_of_ble_eq_true rfl) ⟨(Nat.le_of_ble_eq_true rfl), (Nat.le_of_ble_eq_true rfl)⟩ ?_
          rintro h2 v ⟨rfl, e3, hf2⟩
          exact a_ireturn dX12_copy_103 rfl rfl (Nat.le_of_ble_eq_true rfl) (Nat.le_of_ble_eq_true rfl) ⟨by rw [ea], by rw [et]; exact ⟨_, j, mX_fa q e3 hf2⟩, kpm hf2 (by decide)⟩
    · have eF : copF T z y a b n = 2 := by unfold copF; rw [if_pos hh, if_neg hl]
      rw [eF, if_neg (by decide)] at ea et
      refine rM_start (by decide) (Nat.le_of_ble_eq_true rfl) ?_
      refine a_iload_n 1 dX12_copy_0 rfl rfl ?_
      refine a_callS ok_X12_noSheet ln_X12_87 is_X12_noSheet rfl 4 dX12_copy_1 rfl (k_X12_noSheet (nI z)) rfl rfl ⟨(Nat.le_of_ble_eq_true rfl), (Nat.le_of_ble_eq_true rfl)⟩ (Nat.le_of_ble_eq_true rfl) ⟨(Nat.le_of_ble_eq_true rfl), (Nat.le_of_ble_eq_true rfl)⟩ ?_
      rintro _ _ ⟨rfl, rfl⟩
      refine a_if_ne 14 7 dX12_copy_4 rfl (by decide) (fun c_4 => absurd (if_pos (oT_yes hz (by decide))) c_4) (fun c_4 => ?_)
      refine a_iload_n 8 dX12_copy_7 rfl rfl ?_
      refine a_callS ok_X12_noSheet ln_X12_87 is_X12_noSheet rfl 11 dX12_copy_8 rfl (k_X12_noSheet (nI y)) rfl rfl ⟨(Nat.le_of_ble_eq_true rfl), (Nat.le_of_ble_eq_true rfl)⟩ (Nat.le_of_ble_eq_true rfl) ⟨(Nat.le_of_ble_eq_true rfl), (Nat.le_of_ble_eq_true rfl)⟩ ?_
      rintro _ _ ⟨rfl, rfl⟩
      refine a_if_eq 20 14 dX12_copy_11 rfl (by decide) (fun c_11 => ?_) (fun c_11 => absurd (if_pos (oT_yes hy (by decide))) c_11)
      refine a_aload_n 21 dX12_copy_20 rfl rfl ?_
      refine a_get fd_X12_65 rfl 24 dX12_copy_21 rfl (by repeat (first | assumption | (refine rg_ne (by first | decide | omega) ?_) | apply rg_eq | refine rg_fr (by assumption) (by first | decide | (simp; omega)) ?_)) rfl ?_
      refine a_iload_n 25 dX12_copy_24 rfl rfl ?_
      refine a_iaload 26 dX12_copy_25 rfl (by repeat (first | assumption | (refine rg_ne (by first | decide | omega) ?_) | apply rg_eq | refine rg_fr (by assumption) (by first | decide | (simp; omega)) ?_)) vz ?_
      rw [ez]
      refine a_if_lt 38 29 dX12_copy_26 rfl (by decide) (fun c_26 => absurd c_26 hgez) (fun c_26 => ?_)
      refine a_aload_n 30 dX12_copy_29 rfl rfl ?_
      refine a_get fd_X12_65 rfl 33 dX12_copy_30 rfl (by repeat (first | assumption | (refine rg_ne (by first | decide | omega) ?_) | apply rg_eq | refine rg_fr (by assumption) (by first | decide | (simp; omega)) ?_)) rfl ?_
      refine a_iload_n 34 dX12_copy_33 rfl rfl ?_
      refine a_iaload 35 dX12_copy_34 rfl (by repeat (first | assumption | (refine rg_ne (by first | decide | omega) ?_) | apply rg_eq | refine rg_fr (by assumption) (by first | decide | (simp; omega)) ?_)) vy ?_
      rw [ey]
      refine a_if_ge 44 38 dX12_copy_35 rfl (by decide) (fun c_35 => ?_) (fun c_35 => absurd (Int32.not_lt.mp hgey) c_35)
      refine a_aload_n 45 dX12_copy_44 rfl rfl ?_
      refine a_get fd_X12_68 rfl 48 dX12_copy_45 rfl (by repeat (first | assumption | (refine rg_ne (by first | decide | omega) ?_) | apply rg_eq | refine rg_fr (by assumption) (by first | decide | (simp; omega)) ?_)) rfl ?_
      refine a_iload_n 49 dX12_copy_48 rfl rfl ?_
      refine a_iaload 50 dX12_copy_49 rfl (by repeat (first | assumption | (refine rg_ne (by first | decide | omega) ?_) | apply rg_eq | refine rg_fr (by assumption) (by first | decide | (simp; omega)) ?_)) (by assumption) ?_
      refine a_aload_n 51 dX12_copy_50 rfl rfl ?_
      refine a_get fd_X12_68 rfl 54 dX12_copy_51 rfl (by repeat (first | assumption | (refine rg_ne (by first | decide | omega) ?_) | apply rg_eq | refine rg_fr (by assumption) (by first | decide | (simp; omega)) ?_)) rfl ?_
      refine a_iload_n 55 dX12_copy_54 rfl rfl ?_
      refine a_iaload 56 dX12_copy_55 rfl (by repeat (first | assumption | (refine rg_ne (by first | decide | omega) ?_) | apply rg_eq | refine rg_fr (by assumption) (by first | decide | (simp; omega)) ?_)) vy ?_
      rw [ez, ey, hgz, hgy]
      refine a_icmp_eq 65 59 dX12_copy_56 rfl (by decide) (fun c_56 => absurd c_56 hl) (fun c_56 => ?_)
      refine a_aload_n 60 dX12_copy_59 rfl rfl ?_
      refine a_iconst (2) 61 dX12_copy_60 rfl (by decide) ?_
      refine a_callV ok_X12_failed ln_X12_101 in_X12_failed rfl 64 dX12_copy_61 rfl (k_X12_failed hm 2) (by repeat (first | assumption | (refine rg_ne (by first | decide | omega) ?_) | apply rg_eq | refine rg_fr (by assumption) (by first | decide | (simp; omega)) ?_)) rfl rfl rfl ⟨(Nat.le_of_ble_eq_true rfl), (Nat.le_of_ble_eq_true rfl)⟩ (Nat.le_of_ble_eq_true rfl) ⟨(Nat.le_of_ble_eq_true rfl), (Nat.le_of_ble_eq_true rfl)⟩ ?_
      rintro h2 v ⟨rfl, e3, hf2⟩
      exact a_ireturn dX12_copy_64 rfl rfl (Nat.le_of_ble_eq_true rfl) (Nat.le_of_ble_eq_true rfl) ⟨by rw [ea], by rw [et]; exact ⟨_, j, mX_fa q e3 hf2⟩, kpm hf2 (by decide)⟩
  · have eF : copF T z y a b n = 1 := by unfold copF; rw [if_neg hh]
    rw [eF, if_neg (by decide)] at ea et
    refine rM_start (by decide) (Nat.le_of_ble_eq_true rfl) ?_
    refine a_iload_n 1 dX12_copy_0 rfl rfl ?_
    refine a_callS ok_X12_noSheet ln_X12_87 is_X12_noSheet rfl 4 dX12_copy_1 rfl (k_X12_noSheet (nI z)) rfl rfl ⟨(Nat.le_of_ble_eq_true rfl), (Nat.le_of_ble_eq_true rfl)⟩ (Nat.le_of_ble_eq_true rfl) ⟨(Nat.le_of_ble_eq_true rfl), (Nat.le_of_ble_eq_true rfl)⟩ ?_
    rintro _ _ ⟨rfl, rfl⟩
    refine a_if_ne 14 7 dX12_copy_4 rfl (by decide) (fun c_4 => absurd (if_pos (oT_yes hz (by decide))) c_4) (fun c_4 => ?_)
    refine a_iload_n 8 dX12_copy_7 rfl rfl ?_
    refine a_callS ok_X12_noSheet ln_X12_87 is_X12_noSheet rfl 11 dX12_copy_8 rfl (k_X12_noSheet (nI y)) rfl rfl ⟨(Nat.le_of_ble_eq_true rfl), (Nat.le_of_ble_eq_true rfl)⟩ (Nat.le_of_ble_eq_true rfl) ⟨(Nat.le_of_ble_eq_true rfl), (Nat.le_of_ble_eq_true rfl)⟩ ?_
    rintro _ _ ⟨rfl, rfl⟩
    refine a_if_eq 20 14 dX12_copy_11 rfl (by decide) (fun c_11 => ?_) (fun c_11 => absurd (if_pos (oT_yes hy (by decide))) c_11)
    refine a_aload_n 21 dX12_copy_20 rfl rfl ?_
    refine a_get fd_X12_65 rfl 24 dX12_copy_21 rfl (by repeat (first | assumption | (refine rg_ne (by first | decide | omega) ?_) | apply rg_eq | refine rg_fr (by assumption) (by first | decide | (simp; omega)) ?_)) rfl ?_
    refine a_iload_n 25 dX12_copy_24 rfl rfl ?_
    refine a_iaload 26 dX12_copy_25 rfl (by repeat (first | assumption | (refine rg_ne (by first | decide | omega) ?_) | apply rg_eq | refine rg_fr (by assumption) (by first | decide | (simp; omega)) ?_)) vz ?_
    rw [ez]
    refine a_if_lt 38 29 dX12_copy_26 rfl (by decide) (fun c_26 => ?_) (fun c_26 => ?_)
    · refine a_aload_n 39 dX12_copy_38 rfl rfl ?_
      refine a_iconst (1) 40 dX12_copy_39 rfl (by decide) ?_
      refine a_callV ok_X12_failed ln_X12_101 in_X12_failed rfl 43 dX12_copy_40 rfl (k_X12_failed hm 1) (by repeat (first | assumption | (refine rg_ne (by first | decide | omega) ?_) | apply rg_eq | refine rg_fr (by assumption) (by first | decide | (simp; omega)) ?_)) rfl rfl rfl ⟨(Nat.le_of_ble_eq_true rfl), (Nat.le_of_ble_eq_true rfl)⟩ (Nat.le_of_ble_eq_true rfl) ⟨(Nat.le_of_ble_eq_true rfl), (Nat.le_of_ble_eq_true rfl)⟩ ?_
      rintro h2 v ⟨rfl, e3, hf2⟩
      exact a_ireturn dX12_copy_43 rfl rfl (Nat.le_of_ble_eq_true rfl) (Nat.le_of_ble_eq_true rfl) ⟨by rw [ea], by rw [et]; exact ⟨_, j, mX_fa q e3 hf2⟩, kpm hf2 (by decide)⟩
    · refine a_aload_n 30 dX12_copy_29 rfl rfl ?_
      refine a_get fd_X12_65 rfl 33 dX12_copy_30 rfl (by repeat (first | assumption | (refine rg_ne (by first | decide | omega) ?_) | apply rg_eq | refine rg_fr (by assumption) (by first | decide | (simp; omega)) ?_)) rfl ?_
      refine a_iload_n 34 dX12_copy_33 rfl rfl ?_
      refine a_iaload 35 dX12_copy_34 rfl (by repeat (first | assumption | (refine rg_ne (by first | decide | omega) ?_) | apply rg_eq | refine rg_fr (by assumption) (by first | decide | (simp; omega)) ?_)) vy ?_
      rw [ey]
      refine a_if_ge 44 38 dX12_copy_35 rfl (by decide) (fun c_35 => absurd ⟨has_ge hfz c_26, has_ge hfy (Int32.not_lt.mpr c_35)⟩ hh) (fun c_35 => ?_)
      refine a_aload_n 39 dX12_copy_38 rfl rfl ?_
      refine a_iconst (1) 40 dX12_copy_39 rfl (by decide) ?_
      refine a_callV ok_X12_failed ln_X12_101 in_X12_failed rfl 43 dX12_copy_40 rfl (k_X12_failed hm 1) (by repeat (first | assumption | (refine rg_ne (by first | decide | omega) ?_) | apply rg_eq | refine rg_fr (by assumption) (by first | decide | (simp; omega)) ?_)) rfl rfl rfl ⟨(Nat.le_of_ble_eq_true rfl), (Nat.le_of_ble_eq_true rfl)⟩ (Nat.le_of_ble_eq_true rfl) ⟨(Nat.le_of_ble_eq_true rfl), (Nat.le_of_ble_eq_true rfl)⟩ ?_
      rintro h2 v ⟨rfl, e3, hf2⟩
      exact a_ireturn dX12_copy_43 rfl rfl (Nat.le_of_ble_eq_true rfl) (Nat.le_of_ble_eq_true rfl) ⟨by rw [ea], by rw [et]; exact ⟨_, j, mX_fa q e3 hf2⟩, kpm hf2 (by decide)⟩
end MCOPY
