/-! THE MODEL: law -/
section MLAW2
variable {l : Launch} {G : rG} {h : rH} {T : Tn} {i : Nat → Int32} {j : Nat → Int64}
theorem mlaw_end {h' : rH} {i3 nm rn f49 : Nat → Int32} {t : tolT} {hl : Nat} (q : mX G h T i j) (hnl : T.nl < 6) (ht : tolOk t) (e38 : h'[38]? = some (mo G i3 j)) (e49 : h'[49]? = some (.inl (gA G 0, 42, .inl nm))) (e50 : h'[50]? = some (.inl (gA G 0, 7, .inl rn))) (h49 : h[49]? = some (.inl (gA G 0, 42, .inl f49))) (hold : ∀ p, p < 7 * T.nl → nm p = f49 p) (hnew : ∀ w, w < 7 → nm (7 * T.nl + w) = nI (nuT t w)) (hi : i3 0 = 0 ∧ i3 1 = i 1 ∧ i3 2 = i 2 ∧ i3 3 = i 3 ∧ i3 15 = i 15 ∧ i3 20 = nI (T.nl + 1) ∧ i3 23 = i 23 ∧ i3 39 = i 39) (hf : fr h h' [38, 49, 50]) : mX G h' (newLaw T t hl) i3 j := by
  obtain ⟨k0, k1, k2, k3, k15, k20, k23, k39⟩ := hi
  obtain ⟨⟨⟨fn, -, a2, a3, a4, a5, a6, a7, a8⟩, b1, b2, b3, b4, b5, ⟨s, b6, b7⟩, b8⟩, ⟨-, c2, c3, ⟨g1, c4, c5⟩, ⟨g2, c6, c7⟩, ⟨g3, c8, c9⟩, ⟨g4, c10, c11⟩⟩, ⟨-, d2, d3, g5, d4, d5⟩, ⟨-, e2, e3, ⟨g6, e4, e5⟩, ⟨g7, e6, e7⟩⟩, q5, ⟨p42, -, p53, p54, p55, p56, p60⟩, q7, q8, q9⟩ := q
  have hp := kp_fr hf
  have eg : g5 = f49 := by
    rw [d4] at h49
    exact (Sum.inl.inj (Prod.mk.inj (Prod.mk.inj (Sum.inl.inj (Option.some.inj h49))).2).2)
  subst eg
  refine ⟨⟨⟨fn, e38, k2.trans a2, a3, rg_fr hf (by decide) a4, a5, rg_fr hf (by decide) a6, rg_fr hf (by decide) a7, a8⟩, b1, by rw [k1, k2]; exact b2, k3.trans b3, rg_fr hf (by decide) b4, b5, ⟨s, rg_fr hf (by decide) b6, b7⟩, b8⟩, ⟨e38, k15.trans c2, c3, ⟨g1, rg_fr hf (by decide) c4, c5⟩, ⟨g2, rg_fr hf (by decide) c6, c7⟩, ⟨g3, rg_fr hf (by decide) c8, c9⟩, ⟨g4, rg_fr hf (by decide) c10, c11⟩⟩, ⟨e38, k20, by show T.nl + 1 ≤ 6; omega, nm, e49, fun z w hz hw => ?_⟩, ⟨e38, k23.trans e2, e3, ⟨g6, rg_fr hf (by decide) e4, e5⟩, ⟨g7, rg_fr hf (by decide) e6, e7⟩⟩, q5.kp hp (by decide), ⟨ex_kp p42 hp (by decide), ⟨rn, e50⟩, ex_kp p53 hp (by decide), ex_kp p54 hp (by decide), ex_kp p55 hp (by decide), ex_kp p56 hp (by decide), ex_kp p60 hp (by decide)⟩, k0, k39.trans q8, k1.trans q9⟩
  show nm (7 * z + w) = nI (if z = T.nl then nuT t w else T.nu z w) ∧ (if z = T.nl then nuT t w else T.nu z w) < 10
  by_cases e : z = T.nl
  · subst e
    rw [if_pos rfl]
    exact ⟨hnew w hw, nuT_lt ht w⟩
  · have hz2 : z < T.nl := Nat.lt_of_le_of_ne (Nat.le_of_lt_succ hz) e
    rw [if_neg e, hold _ (by omega)]
    exact d5 z w hz2 hw
theorem unt_I : ∀ c, c < 7 → (if nI c = 1 then (6 : Int32) else if nI c = 2 then 2 else if nI c = 3 ∨ nI c = 4 then 3 else if nI c = 6 then 5 else 1) = nI (untN c) := by decide +kernel
theorem num_s {t : tolT} {c : Nat} (h : 0 ≤ tolI t c) : tolI t c = nI (numT t c) := by
  cases e : t c with
  | none => rw [tolI_n e] at h; exact absurd h (by decide)
  | some v => rw [tolI_s e]; unfold numT; rw [e]; rfl
theorem num_n {t : tolT} {c : Nat} (ht : tolOk t) (h : ¬ 0 ≤ tolI t c) : nI (untN c) = nI (numT t c) := by
  have e := (tolI_lt ht c).mp (Int32.not_le.mp h)
  unfold numT; rw [e]; rfl
theorem nuT_t {t : tolT} (h : numT t 5 ≤ numT t 6) (w : Nat) : nuT t w = numT t w := by
  unfold nuT
  by_cases e : w = 6
  · rw [if_pos e, e]; omega
  · rw [if_neg e]
theorem nuT_f {t : tolT} {nm : Nat → Int32} {b : Nat} (hnew : ∀ w, w < 7 → nm (b + w) = nI (numT t w)) (h : ¬ numT t 5 ≤ numT t 6) (w : Nat) (hw : w < 7) : upd nm (b + 6) (nI (numT t 5)) (b + w) = nI (nuT t w) := by
  unfold nuT
  by_cases e : w = 6
  · rw [if_pos e, e, pk_us]; exact congrArg nI (by omega)
  · rw [if_neg e, pk_un (by omega)]; exact hnew w hw
theorem nm_st {t : tolT} {nm : Nat → Int32} {b c : Nat} (hnew : ∀ w, w < c → nm (b + w) = nI (numT t w)) {w : Nat} (hw : w < c + 1) : upd nm (b + c) (nI (numT t c)) (b + w) = nI (numT t w) := by
  by_cases e : w = c
  · rw [e, pk_us]
  · rw [pk_un (by omega)]; exact hnew w (by omega)
theorem mk_50 {h' : rH} {S : List Nat} {fa : Nat → Int32} (q : mkAt G h) (e : h'[50]? = some (.inl (gA G 0, 7, .inl fa))) (hf : fr h h' S) (hS : ∀ k ∈ S, k ≠ 42 ∧ k ≠ 53 ∧ k ≠ 54 ∧ k ≠ 55 ∧ k ≠ 56 ∧ k ≠ 60 := by decide) : mkAt G h' := by
  obtain ⟨p42, -, p53, p54, p55, p56, p60⟩ := q
  have hp := kp_fr hf
  exact ⟨ex_kp p42 hp (fun u => (hS _ u).1 rfl), ⟨_, e⟩, ex_kp p53 hp (fun u => (hS _ u).2.1 rfl), ex_kp p54 hp (fun u => (hS _ u).2.2.1 rfl), ex_kp p55 hp (fun u => (hS _ u).2.2.2.1 rfl), ex_kp p56 hp (fun u => (hS _ u).2.2.2.2.1 rfl), ex_kp p60 hp (fun u => (hS _ u).2.2.2.2.2 rfl)⟩
set_option maxRecDepth 100000 in
set_option maxHeartbeats 400000 in
theorem lawM (q : mX G h T i j) (o : T.ok) {t : tolT} (hl : Nat) {i1 rn f49 : Nat → Int32} (hnl : T.nl < 6) (ht : tolOk t) (hrn : ∀ x, x < 7 → rn x = tolI t x) (h49 : h[49]? = some (.inl (gA G 0, 42, .inl f49))) (hi : sameI i i1) {a1 a2 a3 a4 a5 : Option Value} {a6 : Int32} : ∀ (r c : Nat) (y : Int32) (nm : Nat → Int32) (h1 : rH), c + r = 7 → y = nI c → h1[38]? = some (mo G i1 j) → h1[49]? = some (.inl (gA G 0, 42, .inl nm)) → h1[50]? = some (.inl (gA G 0, 7, .inl rn)) → (∀ p, p < 7 * T.nl → nm p = f49 p) → (∀ w, w < c → nm (7 * T.nl + w) = nI (numT t w)) → fr h h1 [38, 49, 50] → rW l G (rRm 12 0 0) mX12_law (rZ G (carPQ G h (nI T.nl) (newLaw T t hl)) 0 0) 0 0 68 [some (.ref (gN G + 38)), a1, a2, a3, a4, a5, some (.int a6), some (.int y)] [] h1 := by
  have g20 : i1 20 = nI T.nl := hi.2.2.2.2.2.1.trans q.2.2.1.2.1
  have e88 : ∀ c, (7 : Int32) * nI T.nl + nI c = nI (7 * T.nl + c) := fun c => by rw [show (7 : Int32) = nI 7 from rfl, pk_mul, nI_add]
  intro r
  induction r with
  | zero =>
    intro c y nm h1 hc hy e38 e49 e50 hold hnew hf
    subst hy
    have ec : c = 7 := by omega
    subst ec
    have v6 : vp_in (7 * nI T.nl + 6) 42 := by rw [show (6 : Int32) = nI 6 from rfl, e88]; exact vp_in_nI (by omega) (by decide)
    have v5 : vp_in (7 * nI T.nl + 5) 42 := by rw [show (5 : Int32) = nI 5 from rfl, e88]; exact vp_in_nI (by omega) (by decide)
    have c6 : (7 * nI T.nl + 6).toNatClampNeg = 7 * T.nl + 6 := by rw [show (6 : Int32) = nI 6 from rfl, e88]; exact nI_clamp (by omega)
    have c5 : (7 * nI T.nl + 5).toNatClampNeg = 7 * T.nl + 5 := by rw [show (5 : Int32) = nI 5 from rfl, e88]; exact nI_clamp (by omega)
    have n6 := numT_lt ht 6
    have n5 := numT_lt ht 5
    have hend : ∀ {nm2 : Nat → Int32} {h2 : rH}, h2[38]? = some (mo G (upd (upd i1 20 (nI (T.nl + 1))) 0 0) j) → h2[49]? = some (.inl (gA G 0, 42, .inl nm2)) → h2[50]? = some (.inl (gA G 0, 7, .inl rn)) → (∀ p, p < 7 * T.nl → nm2 p = f49 p) → (∀ w, w < 7 → nm2 (7 * T.nl + w) = nI (nuT t w)) → fr h h2 [38, 49, 50] → carPQ G h (nI T.nl) (newLaw T t hl) h2 (some (.int (nI T.nl))) := by
      intro nm2 h2 x38 x49 x50 xo xn xf
      exact ⟨rfl, ⟨_, j, mlaw_end q hnl ht x38 x49 x50 h49 xo xn ⟨rfl, hi.2.1, hi.2.2.1, hi.2.2.2.1, hi.2.2.2.2.1, rfl, hi.2.2.2.2.2.2.1, hi.2.2.2.2.2.2.2⟩ xf⟩, kpm xf (by decide)⟩
    refine a_iload 70 dX12_law_68 rfl rfl ?_
    refine a_bipush (7) 72 dX12_law_70 rfl (by decide) ?_
    refine a_icmp_ge 121 75 dX12_law_72 rfl (by decide) (fun c_72 => ?_) (fun c_72 => absurd (Int32.le_refl _) c_72)
    refine a_aload_n 122 dX12_law_121 rfl rfl ?_
    refine a_aload_n 123 dX12_law_122 rfl rfl ?_
    refine a_get fd_X12_203 rfl 126 dX12_law_123 rfl (by repeat (first | assumption | (refine rg_ne (by first | decide | omega) ?_) | apply rg_eq | refine rg_fr (by assumption) (by first | decide | (simp; omega)) ?_)) rfl ?_
    refine a_bipush (6) 128 dX12_law_126 rfl (by decide) ?_
    rw [g20]
    refine a_callV ok_X12_of ln_X12_215 in_X12_of rfl 131 dX12_law_128 rfl (k_X12_of e38 e49 (nI T.nl) 6 v6) (by repeat (first | assumption | (refine rg_ne (by first | decide | omega) ?_) | apply rg_eq | refine rg_fr (by assumption) (by first | decide | (simp; omega)) ?_)) rfl rfl rfl ⟨(Nat.le_of_ble_eq_true rfl), (Nat.le_of_ble_eq_true rfl)⟩ (Nat.le_of_ble_eq_true rfl) ⟨(Nat.le_of_ble_eq_true rfl), (Nat.le_of_ble_eq_true rfl)⟩ ?_
    rintro _ _ ⟨rfl, rfl⟩
    rw [c6, hnew 6 (by decide)]
    refine a_aload_n 132 dX12_law_131 rfl rfl ?_
    refine a_aload_n 133 dX12_law_132 rfl rfl ?_
    refine a_get fd_X12_203 rfl 136 dX12_law_133 rfl (by repeat (first | assumption | (refine rg_ne (by first | decide | omega) ?_) | apply rg_eq | refine rg_fr (by assumption) (by first | decide | (simp; omega)) ?_)) rfl ?_
    refine a_iconst (5) 137 dX12_law_136 rfl (by decide) ?_
    rw [g20]
    refine a_callV ok_X12_of ln_X12_215 in_X12_of rfl 140 dX12_law_137 rfl (k_X12_of e38 e49 (nI T.nl) 5 v5) (by repeat (first | assumption | (refine rg_ne (by first | decide | omega) ?_) | apply rg_eq | refine rg_fr (by assumption) (by first | decide | (simp; omega)) ?_)) rfl rfl rfl ⟨(Nat.le_of_ble_eq_true rfl), (Nat.le_of_ble_eq_true rfl)⟩ (Nat.le_of_ble_eq_true rfl) ⟨(Nat.le_of_ble_eq_true rfl), (Nat.le_of_ble_eq_true rfl)⟩ ?_
    rintro _ _ ⟨rfl, rfl⟩
    rw [c5, hnew 5 (by decide)]
    refine a_icmp_ge 167 143 dX12_law_140 rfl (by decide) (fun c_140 => ?_) (fun c_140 => ?_)
    · refine a_aload_n 168 dX12_law_167 rfl rfl ?_
      refine a_dup 169 dX12_law_168 rfl rfl ?_
      refine a_get fd_X12_203 rfl 172 dX12_law_169 rfl (by repeat (first | assumption | (refine rg_ne (by first | decide | omega) ?_) | apply rg_eq | refine rg_fr (by assumption) (by first | decide | (simp; omega)) ?_)) rfl ?_
      refine a_iconst (1) 173 dX12_law_172 rfl (by decide) ?_
      rw [g20]
      refine a_iadd 174 dX12_law_173 rfl ?_
      rw [nI_1]
      refine a_put fd_X12_203 cl_X12 rfl 177 dX12_law_174 rfl (by repeat (first | assumption | (refine rg_ne (by first | decide | omega) ?_) | apply rg_eq | refine rg_fr (by assumption) (by first | decide | (simp; omega)) ?_)) (Nat.le_of_ble_eq_true rfl) rfl rfl rfl ?_
      refine a_aload_n 178 dX12_law_177 rfl rfl ?_
      refine a_aload_n 179 dX12_law_178 rfl rfl ?_
      refine a_get fd_X12_203 rfl 182 dX12_law_179 rfl (by repeat (first | assumption | (refine rg_ne (by first | decide | omega) ?_) | apply rg_eq | refine rg_fr (by assumption) (by first | decide | (simp; omega)) ?_)) rfl ?_
      refine a_iconst (1) 183 dX12_law_182 rfl (by decide) ?_
      refine a_isub 184 dX12_law_183 rfl ?_
      rw [nI_pred]
      refine a_callV ok_X12_refused ln_X12_91 in_X12_refused rfl 187 dX12_law_184 rfl (k_X12_refused (i := upd i1 20 (nI (T.nl + 1))) (j := j) (rg_eq e38) _) (by repeat (first | assumption | (refine rg_ne (by first | decide | omega) ?_) | apply rg_eq | refine rg_fr (by assumption) (by first | decide | (simp; omega)) ?_)) rfl rfl rfl ⟨(Nat.le_of_ble_eq_true rfl), (Nat.le_of_ble_eq_true rfl)⟩ (Nat.le_of_ble_eq_true rfl) ⟨(Nat.le_of_ble_eq_true rfl), (Nat.le_of_ble_eq_true rfl)⟩ ?_
      rintro h2 v ⟨rfl, x38, f2⟩
      exact a_ireturn dX12_law_187 rfl rfl (Nat.le_of_ble_eq_true rfl) (Nat.le_of_ble_eq_true rfl) (hend x38 (rg_fr f2 (by decide) (rg_ne (by decide) e49)) (rg_fr f2 (by decide) (rg_ne (by decide) e50)) hold (fun w hw => by rw [hnew w hw]; exact congrArg nI (nuT_t ((nI_leI (by omega) (by omega)).mp c_140) w).symm) (fr_trans (fr_set hf (by decide)) f2 (by decide)))
    · refine a_aload_n 144 dX12_law_143 rfl rfl ?_
      refine a_get fd_X12_41 rfl 147 dX12_law_144 rfl (by repeat (first | assumption | (refine rg_ne (by first | decide | omega) ?_) | apply rg_eq | refine rg_fr (by assumption) (by first | decide | (simp; omega)) ?_)) rfl ?_
      refine a_bipush (7) 149 dX12_law_147 rfl (by decide) ?_
      refine a_aload_n 150 dX12_law_149 rfl rfl ?_
      refine a_get fd_X12_203 rfl 153 dX12_law_150 rfl (by repeat (first | assumption | (refine rg_ne (by first | decide | omega) ?_) | apply rg_eq | refine rg_fr (by assumption) (by first | decide | (simp; omega)) ?_)) rfl ?_
      rw [g20]
      refine a_imul 154 dX12_law_153 rfl ?_
      refine a_bipush (6) 156 dX12_law_154 rfl (by decide) ?_
      refine a_iadd 157 dX12_law_156 rfl ?_
      refine a_aload_n 158 dX12_law_157 rfl rfl ?_
      refine a_aload_n 159 dX12_law_158 rfl rfl ?_
      refine a_get fd_X12_203 rfl 162 dX12_law_159 rfl (by repeat (first | assumption | (refine rg_ne (by first | decide | omega) ?_) | apply rg_eq | refine rg_fr (by assumption) (by first | decide | (simp; omega)) ?_)) rfl ?_
      refine a_iconst (5) 163 dX12_law_162 rfl (by decide) ?_
      rw [g20]
      refine a_callV ok_X12_of ln_X12_215 in_X12_of rfl 166 dX12_law_163 rfl (k_X12_of e38 e49 (nI T.nl) 5 v5) (by repeat (first | assumption | (refine rg_ne (by first | decide | omega) ?_) | apply rg_eq | refine rg_fr (by assumption) (by first | decide | (simp; omega)) ?_)) rfl rfl rfl ⟨(Nat.le_of_ble_eq_true rfl), (Nat.le_of_ble_eq_true rfl)⟩ (Nat.le_of_ble_eq_true rfl) ⟨(Nat.le_of_ble_eq_true rfl), (Nat.le_of_ble_eq_true rfl)⟩ ?_
      rintro _ _ ⟨rfl, rfl⟩
      rw [c5, hnew 5 (by decide)]
      refine a_iastore 167 dX12_law_166 rfl (by repeat (first | assumption | (refine rg_ne (by first | decide | omega) ?_) | apply rg_eq | refine rg_fr (by assumption) (by first | decide | (simp; omega)) ?_)) v6 ?_
      refine a_aload_n 168 dX12_law_167 rfl rfl ?_
      refine a_dup 169 dX12_law_168 rfl rfl ?_
      refine a_get fd_X12_203 rfl 172 dX12_law_169 rfl (by repeat (first | assumption | (refine rg_ne (by first | decide | omega) ?_) | apply rg_eq | refine rg_fr (by assumption) (by first | decide | (simp; omega)) ?_)) rfl ?_
      refine a_iconst (1) 173 dX12_law_172 rfl (by decide) ?_
      rw [g20]
      refine a_iadd 174 dX12_law_173 rfl ?_
      rw [nI_1]
      refine a_put fd_X12_203 cl_X12 rfl 177 dX12_law_174 rfl (by repeat (first | assumption | (refine rg_ne (by first | decide | omega) ?_) | apply rg_eq | refine rg_fr (by assumption) (by first | decide | (simp; omega)) ?_)) (Nat.le_of_ble_eq_true rfl) rfl rfl rfl ?_
      refine a_aload_n 178 dX12_law_177 rfl rfl ?_
      refine a_aload_n 179 dX12_law_178 rfl rfl ?_
      refine a_get fd_X12_203 rfl 182 dX12_law_179 rfl (by repeat (first | assumption | (refine rg_ne (by first | decide | omega) ?_) | apply rg_eq | refine rg_fr (by assumption) (by first | decide | (simp; omega)) ?_)) rfl ?_
      refine a_iconst (1) 183 dX12_law_182 rfl (by decide) ?_
      refine a_isub 184 dX12_law_183 rfl ?_
      rw [nI_pred]
      refine a_callV ok_X12_refused ln_X12_91 in_X12_refused rfl 187 dX12_law_184 rfl (k_X12_refused (i := upd i1 20 (nI (T.nl + 1))) (j := j) (rg_eq (rg_ne (by decide) e38)) _) (by repeat (first | assumption | (refine rg_ne (by first | decide | omega) ?_) | apply rg_eq | refine rg_fr (by assumption) (by first | decide | (simp; omega)) ?_)) rfl rfl rfl ⟨(Nat.le_of_ble_eq_true rfl), (Nat.le_of_ble_eq_true rfl)⟩ (Nat.le_of_ble_eq_true rfl) ⟨(Nat.le_of_ble_eq_true rfl), (Nat.le_of_ble_eq_true rfl)⟩ ?_
      rintro h2 v ⟨rfl, x38, f2⟩
      exact a_ireturn dX12_law_187 rfl rfl (Nat.le_of_ble_eq_true rfl) (Nat.le_of_ble_eq_true rfl) (hend x38 (rg_fr f2 (by decide) (rg_ne (by decide) (rg_eq e49))) (rg_fr f2 (by decide) (rg_ne (by decide) (rg_ne (by decide) e50))) (fun p hp => by rw [c6, pk_un (by omega)]; exact hold p hp) (fun w hw => by rw [c6]; exact nuT_f hnew (fun u => c_140 ((nI_leI (by omega) (by omega)).mpr u)) w hw) (fr_trans (fr_set (fr_set hf (by decide)) (by decide)) f2 (by decide)))
  | succ r ih =>
    intro c y nm h1 hc hy e38 e49 e50 hold hnew hf
    subst hy
    have vc : vp_in (nI c) 7 := vp_in_nI (by omega) (by decide)
    have cc : (nI c).toNatClampNeg = c := nI_clamp (by omega)
    have vn : vp_in (nI (7 * T.nl + c)) 42 := vp_in_nI (by omega) (by decide)
    have cn : (nI (7 * T.nl + c)).toNatClampNeg = 7 * T.nl + c := nI_clamp (by omega)
    have hc7 : c < 7 := by omega
    refine a_iload 70 dX12_law_68 rfl rfl ?_
    refine a_bipush (7) 72 dX12_law_70 rfl (by decide) ?_
    refine a_icmp_ge 121 75 dX12_law_72 rfl (by decide) (fun c_72 => absurd c_72 (nI_ge (a := c) (b := 7) (by omega) (by decide))) (fun c_72 => ?_)
    refine a_aload_n 76 dX12_law_75 rfl rfl ?_
    refine a_get fd_X12_41 rfl 79 dX12_law_76 rfl (by repeat (first | assumption | (refine rg_ne (by first | decide | omega) ?_) | apply rg_eq | refine rg_fr (by assumption) (by first | decide | (simp; omega)) ?_)) rfl ?_
    refine a_bipush (7) 81 dX12_law_79 rfl (by decide) ?_
    refine a_aload_n 82 dX12_law_81 rfl rfl ?_
    refine a_get fd_X12_203 rfl 85 dX12_law_82 rfl (by repeat (first | assumption | (refine rg_ne (by first | decide | omega) ?_) | apply rg_eq | refine rg_fr (by assumption) (by first | decide | (simp; omega)) ?_)) rfl ?_
    rw [g20]
    refine a_imul 86 dX12_law_85 rfl ?_
    refine a_iload 88 dX12_law_86 rfl rfl ?_
    refine a_iadd 89 dX12_law_88 rfl ?_
    rw [e88]
    refine a_aload_n 90 dX12_law_89 rfl rfl ?_
    refine a_get fd_X12_44 rfl 93 dX12_law_90 rfl (by repeat (first | assumption | (refine rg_ne (by first | decide | omega) ?_) | apply rg_eq | refine rg_fr (by assumption) (by first | decide | (simp; omega)) ?_)) rfl ?_
    refine a_iload 95 dX12_law_93 rfl rfl ?_
    refine a_iaload 96 dX12_law_95 rfl (by repeat (first | assumption | (refine rg_ne (by first | decide | omega) ?_) | apply rg_eq | refine rg_fr (by assumption) (by first | decide | (simp; omega)) ?_)) vc ?_
    rw [cc, hrn c hc7]
    refine a_if_ge 107 99 dX12_law_96 rfl (by decide) (fun c_96 => ?_) (fun c_96 => ?_)
    · refine a_aload_n 108 dX12_law_107 rfl rfl ?_
      refine a_get fd_X12_44 rfl 111 dX12_law_108 rfl (by repeat (first | assumption | (refine rg_ne (by first | decide | omega) ?_) | apply rg_eq | refine rg_fr (by assumption) (by first | decide | (simp; omega)) ?_)) rfl ?_
      refine a_iload 113 dX12_law_111 rfl rfl ?_
      refine a_iaload 114 dX12_law_113 rfl (by repeat (first | assumption | (refine rg_ne (by first | decide | omega) ?_) | apply rg_eq | refine rg_fr (by assumption) (by first | decide | (simp; omega)) ?_)) vc ?_
      rw [cc, hrn c hc7, num_s c_96]
      refine a_iastore 115 dX12_law_114 rfl (by repeat (first | assumption | (refine rg_ne (by first | decide | omega) ?_) | apply rg_eq | refine rg_fr (by assumption) (by first | decide | (simp; omega)) ?_)) vn ?_
      refine a_iinc _ 118 dX12_law_115 rfl rfl (by decide) rfl ?_
      refine a_goto 68 dX12_law_118 (by decide) ?_
      exact ih (c + 1) _ _ _ (by omega) (nI_1 c) (rg_ne (by decide) e38) (rg_eq e49) (rg_ne (by decide) e50) (fun p hp => by rw [cn, pk_un (by omega)]; exact hold p hp) (fun w hw => by rw [cn]; exact nm_st hnew hw) (fr_set hf (by decide))
    · refine a_iload 101 dX12_law_99 rfl rfl ?_
      refine a_callS ok_X12_untold ln_X12_212 is_X12_untold rfl 104 dX12_law_101 rfl (k_X12_untold _) rfl rfl ⟨(Nat.le_of_ble_eq_true rfl), (Nat.le_of_ble_eq_true rfl)⟩ (Nat.le_of_ble_eq_true rfl) ⟨(Nat.le_of_ble_eq_true rfl), (Nat.le_of_ble_eq_true rfl)⟩ ?_
      rintro _ _ ⟨rfl, rfl⟩
      refine a_goto 114 dX12_law_104 (by decide) ?_
      rw [unt_I c hc7, num_n ht c_96]
      refine a_iastore 115 dX12_law_114 rfl (by repeat (first | assumption | (refine rg_ne (by first | decide | omega) ?_) | apply rg_eq | refine rg_fr (by assumption) (by first | decide | (simp; omega)) ?_)) vn ?_
      refine a_iinc _ 118 dX12_law_115 rfl rfl (by decide) rfl ?_
      refine a_goto 68 dX12_law_118 (by decide) ?_
      exact ih (c + 1) _ _ _ (by omega) (nI_1 c) (rg_ne (by decide) e38) (rg_eq e49) (rg_ne (by decide) e50) (fun p hp => by rw [cn, pk_un (by omega)]; exact hold p hp) (fun w hw => by rw [cn]; exact nm_st hnew hw) (fr_set hf (by decide))
set_option maxRecDepth 100000 in
set_option maxHeartbeats 400000 in
theorem m_law (q : mAll G h T) (o : T.ok) (c d a n : Int32) (hl : Nat) : rM l G 12 mX12_law 0 0 [.ref (gN G + 38), .int c, .int d, .int a, .int n] h (fun h' v => v = some (.int (aLaw T c d a n hl).1) ∧ mAll G h' (aLaw T c d a n hl).2 ∧ kp h h' mL) := by
  obtain ⟨i, j, q⟩ := q
  have hm := q.at
  by_cases hr : (refF T c d a n).1 = 0
  · have hk0 := m_kept0 (l := l) q o hr
    obtain ⟨z, b, N, hz, rfl, ez, rfl, rfl, hbN, er, hh, hl2⟩ := refF_ok o hr
    have hsz := o.sz60 hz
    obtain ⟨f, g, w, h57, h58, h59, hx⟩ := q.2.2.2.2.1
    obtain ⟨p42, ⟨f50, p50⟩, p53⟩ := id q.2.2.2.2.2.1
    have hcd : ∀ p, p < N → codW w (60 * z + b) p = codeT T z b p := fun p hp => by
      show w (60 * z + b + p) = T.ce z (b + p)
      rw [Nat.add_assoc]; exact (hx z hz).2.2 _ (show b + p < T.sz z by omega)
    have ea : aLaw T (nI z) d (nI b) (nI N) hl = lawR T (lawS (codW w (60 * z + b)) N) hl := by
      unfold aLaw
      rw [if_pos hr, ez, nI_clamp (by omega), nI_clamp (by omega)]
      show lawR T (lawGo (codeT T z b) N 7 0 _) hl = lawR T (lawGo (codW w (60 * z + b)) N 7 0 _) hl
      rw [lawGo_cg hcd]
    have e26 : (60 : Int32) * nI z + nI b = nI (60 * z + b) := by rw [show (60 : Int32) = nI 60 from rfl, pk_mul, nI_add]
    have hR := k_X12_readLaw (l := l) (s := 60 * z + b) (N := N) hm h59 p50 (by omega) (by omega)
    rw [ea]
    cases hX : lawS (codW w (60 * z + b)) N with
    | inl p =>
      rw [hX] at hR
      refine rM_start (by decide) (Nat.le_of_ble_eq_true rfl) ?_
      refine a_aload_n 1 dX12_law_0 rfl rfl ?_
      refine a_iload_n 2 dX12_law_1 rfl rfl ?_
      refine a_iload_n 3 dX12_law_2 rfl rfl ?_
      refine a_iload_n 4 dX12_law_3 rfl rfl ?_
      refine a_iload 6 dX12_law_4 rfl rfl ?_
      refine a_i2l 7 dX12_law_6 rfl ?_
      refine a_callV ok_X12_kept ln_X12_145 in_X12_kept rfl 10 dX12_law_7 rfl (hk0) (by repeat (first | assumption | (refine rg_ne (by first | decide | omega) ?_) | apply rg_eq | refine rg_fr (by assumption) (by first | decide | (simp; omega)) ?_)) rfl rfl rfl ⟨(Nat.le_of_ble_eq_true rfl), (Nat.le_of_ble_eq_true rfl)⟩ (Nat.le_of_ble_eq_true rfl) ⟨(Nat.le_of_ble_eq_true rfl), (Nat.le_of_ble_eq_true rfl)⟩ ?_
      rintro _ _ ⟨rfl, rfl⟩
      refine a_istore 12 dX12_law_10 rfl (by decide) ?_
      refine a_iload 14 dX12_law_12 rfl rfl ?_
      refine a_if_ge 20 17 dX12_law_14 rfl (by decide) (fun c_14 => ?_) (fun c_14 => absurd (Int32.le_refl _) c_14)
      refine a_aload_n 21 dX12_law_20 rfl rfl ?_
      refine a_bipush (60) 23 dX12_law_21 rfl (by decide) ?_
      refine a_iload_n 24 dX12_law_23 rfl rfl ?_
      refine a_imul 25 dX12_law_24 rfl ?_
      refine a_iload_n 26 dX12_law_25 rfl rfl ?_
      refine a_iadd 27 dX12_law_26 rfl ?_
      refine a_iload 29 dX12_law_27 rfl rfl ?_
      rw [e26]
      refine a_callV ok_X12_readLaw ln_X12_209 in_X12_readLaw rfl 32 dX12_law_29 rfl (hR) (by repeat (first | assumption | (refine rg_ne (by first | decide | omega) ?_) | apply rg_eq | refine rg_fr (by assumption) (by first | decide | (simp; omega)) ?_)) rfl rfl rfl ⟨(Nat.le_of_ble_eq_true rfl), (Nat.le_of_ble_eq_true rfl)⟩ (Nat.le_of_ble_eq_true rfl) ⟨(Nat.le_of_ble_eq_true rfl), (Nat.le_of_ble_eq_true rfl)⟩ ?_
      rintro h1 v ⟨i1, rn, e1, e50, s1, f1, rfl, hpN⟩
      refine a_istore 34 dX12_law_32 rfl (by decide) ?_
      refine a_iload 36 dX12_law_34 rfl rfl ?_
      refine a_if_lt 49 39 dX12_law_36 rfl (by decide) (fun c_36 => absurd c_36 (nI_pos (by omega))) (fun c_36 => ?_)
      refine a_aload_n 40 dX12_law_39 rfl rfl ?_
      refine a_bipush (-100) 42 dX12_law_40 rfl (by decide) ?_
      refine a_iload 44 dX12_law_42 rfl rfl ?_
      refine a_isub 45 dX12_law_44 rfl ?_
      refine a_callV ok_X12_refused ln_X12_91 in_X12_refused rfl 48 dX12_law_45 rfl (k_X12_refused e1 _) (by repeat (first | assumption | (refine rg_ne (by first | decide | omega) ?_) | apply rg_eq | refine rg_fr (by assumption) (by first | decide | (simp; omega)) ?_)) rfl rfl rfl ⟨(Nat.le_of_ble_eq_true rfl), (Nat.le_of_ble_eq_true rfl)⟩ (Nat.le_of_ble_eq_true rfl) ⟨(Nat.le_of_ble_eq_true rfl), (Nat.le_of_ble_eq_true rfl)⟩ ?_
      rintro h2 v ⟨rfl, e2, f2⟩
      exact a_ireturn dX12_law_48 rfl rfl (Nat.le_of_ble_eq_true rfl) (Nat.le_of_ble_eq_true rfl) ⟨rfl, ⟨_, j, mX_fa (mX_w q e1 (mk_50 q.2.2.2.2.2.1 e50 f1) f1 (by decide) s1) e2 f2⟩, kpm (fr_trans f1 f2 (by decide)) (by decide)⟩
    | inr t =>
      rw [hX] at hR
      by_cases hnl : T.nl = 6
      · rw [show lawR T (.inr t) hl = (-4, setFT T 0 T.tr) from if_pos hnl]
        refine rM_start (by decide) (Nat.le_of_ble_eq_true rfl) ?_
        refine a_aload_n 1 dX12_law_0 rfl rfl ?_
        refine a_iload_n 2 dX12_law_1 rfl rfl ?_
        refine a_iload_n 3 dX12_law_2 rfl rfl ?_
        refine a_iload_n 4 dX12_law_3 rfl rfl ?_
        refine a_iload 6 dX12_law_4 rfl rfl ?_
        refine a_i2l 7 dX12_law_6 rfl ?_
        refine a_callV ok_X12_kept ln_X12_145 in_X12_kept rfl 10 dX12_law_7 rfl (hk0) (by repeat (first | assumption | (refine rg_ne (by first | decide | omega) ?_) | apply rg_eq | refine rg_fr (by assumption) (by first | decide | (simp; omega)) ?_)) rfl rfl rfl ⟨(Nat.le_of_ble_eq_true rfl), (Nat.le_of_ble_eq_true rfl)⟩ (Nat.le_of_ble_eq_true rfl) ⟨(Nat.le_of_ble_eq_true rfl), (Nat.le_of_ble_eq_true rfl)⟩ ?_
        rintro _ _ ⟨rfl, rfl⟩
        refine a_istore 12 dX12_law_10 rfl (by decide) ?_
        refine a_iload 14 dX12_law_12 rfl rfl ?_
        refine a_if_ge 20 17 dX12_law_14 rfl (by decide) (fun c_14 => ?_) (fun c_14 => absurd (Int32.le_refl _) c_14)
        refine a_aload_n 21 dX12_law_20 rfl rfl ?_
        refine a_bipush (60) 23 dX12_law_21 rfl (by decide) ?_
        refine a_iload_n 24 dX12_law_23 rfl rfl ?_
        refine a_imul 25 dX12_law_24 rfl ?_
        refine a_iload_n 26 dX12_law_25 rfl rfl ?_
        refine a_iadd 27 dX12_law_26 rfl ?_
        refine a_iload 29 dX12_law_27 rfl rfl ?_
        rw [e26]
        refine a_callV ok_X12_readLaw ln_X12_209 in_X12_readLaw rfl 32 dX12_law_29 rfl (hR) (by repeat (first | assumption | (refine rg_ne (by first | decide | omega) ?_) | apply rg_eq | refine rg_fr (by assumption) (by first | decide | (simp; omega)) ?_)) rfl rfl rfl ⟨(Nat.le_of_ble_eq_true rfl), (Nat.le_of_ble_eq_true rfl)⟩ (Nat.le_of_ble_eq_true rfl) ⟨(Nat.le_of_ble_eq_true rfl), (Nat.le_of_ble_eq_true rfl)⟩ ?_
        rintro h1 v ⟨i1, rn, e1, e50, s1, f1, rfl, ht, hrn⟩
        refine a_istore 34 dX12_law_32 rfl (by decide) ?_
        refine a_iload 36 dX12_law_34 rfl rfl ?_
        refine a_if_lt 49 39 dX12_law_36 rfl (by decide) (fun c_36 => ?_) (fun c_36 => absurd (by decide) c_36)
        refine a_aload_n 50 dX12_law_49 rfl rfl ?_
        refine a_get fd_X12_203 rfl 53 dX12_law_50 rfl (by repeat (first | assumption | (refine rg_ne (by first | decide | omega) ?_) | apply rg_eq | refine rg_fr (by assumption) (by first | decide | (simp; omega)) ?_)) rfl ?_
        refine a_bipush (6) 55 dX12_law_53 rfl (by decide) ?_
        rw [show i1 20 = 6 from s1.2.2.2.2.2.1.trans (q.2.2.1.2.1.trans (congrArg nI hnl))]
        refine a_icmp_ne 65 58 dX12_law_55 rfl (by decide) (fun c_55 => absurd rfl c_55) (fun c_55 => ?_)
        refine a_aload_n 59 dX12_law_58 rfl rfl ?_
        refine a_bipush (-4) 61 dX12_law_59 rfl (by decide) ?_
        refine a_callV ok_X12_refused ln_X12_91 in_X12_refused rfl 64 dX12_law_61 rfl (k_X12_refused e1 _) (by repeat (first | assumption | (refine rg_ne (by first | decide | omega) ?_) | apply rg_eq | refine rg_fr (by assumption) (by first | decide | (simp; omega)) ?_)) rfl rfl rfl ⟨(Nat.le_of_ble_eq_true rfl), (Nat.le_of_ble_eq_true rfl)⟩ (Nat.le_of_ble_eq_true rfl) ⟨(Nat.le_of_ble_eq_true rfl), (Nat.le_of_ble_eq_true rfl)⟩ ?_
        rintro h2 v ⟨rfl, e2, f2⟩
        exact a_ireturn dX12_law_64 rfl rfl (Nat.le_of_ble_eq_true rfl) (Nat.le_of_ble_eq_true rfl) ⟨rfl, ⟨_, j, mX_fa (mX_w q e1 (mk_50 q.2.2.2.2.2.1 e50 f1) f1 (by decide) s1) e2 f2⟩, kpm (fr_trans f1 f2 (by decide)) (by decide)⟩
      · rw [show lawR T (.inr t) hl = (nI T.nl, newLaw T t hl) from if_neg hnl]
        have hnl6 : T.nl < 6 := by have := o.nl6; omega
        obtain ⟨-, -, -, f49, d4, -⟩ := id q.2.2.1
        refine rM_start (by decide) (Nat.le_of_ble_eq_true rfl) ?_
        refine a_aload_n 1 dX12_law_0 rfl rfl ?_
        refine a_iload_n 2 dX12_law_1 rfl rfl ?_
        refine a_iload_n 3 dX12_law_2 rfl rfl ?_
        refine a_iload_n 4 dX12_law_3 rfl rfl ?_
        refine a_iload 6 dX12_law_4 rfl rfl ?_
        refine a_i2l 7 dX12_law_6 rfl ?_
        refine a_callV ok_X12_kept ln_X12_145 in_X12_kept rfl 10 dX12_law_7 rfl (hk0) (by repeat (first | assumption | (refine rg_ne (by first | decide | omega) ?_) | apply rg_eq | refine rg_fr (by assumption) (by first | decide | (simp; omega)) ?_)) rfl rfl rfl ⟨(Nat.le_of_ble_eq_true rfl), (Nat.le_of_ble_eq_true rfl)⟩ (Nat.le_of_ble_eq_true rfl) ⟨(Nat.le_of_ble_eq_true rfl), (Nat.le_of_ble_eq_true rfl)⟩ ?_
        rintro _ _ ⟨rfl, rfl⟩
        refine a_istore 12 dX12_law_10 rfl (by decide) ?_
        refine a_iload 14 dX12_law_12 rfl rfl ?_
        refine a_if_ge 20 17 dX12_law_14 rfl (by decide) (fun c_14 => ?_) (fun c_14 => absurd (Int32.le_refl _) c_14)
        refine a_aload_n 21 dX12_law_20 rfl rfl ?_
        refine a_bipush (60) 23 dX12_law_21 rfl (by decide) ?_
        refine a_iload_n 24 dX12_law_23 rfl rfl ?_
        refine a_imul 25 dX12_law_24 rfl ?_
        refine a_iload_n 26 dX12_law_25 rfl rfl ?_
        refine a_iadd 27 dX12_law_26 rfl ?_
        refine a_iload 29 dX12_law_27 rfl rfl ?_
        rw [e26]
        refine a_callV ok_X12_readLaw ln_X12_209 in_X12_readLaw rfl 32 dX12_law_29 rfl (hR) (by repeat (first | assumption | (refine rg_ne (by first | decide | omega) ?_) | apply rg_eq | refine rg_fr (by assumption) (by first | decide | (simp; omega)) ?_)) rfl rfl rfl ⟨(Nat.le_of_ble_eq_true rfl), (Nat.le_of_ble_eq_true rfl)⟩ (Nat.le_of_ble_eq_true rfl) ⟨(Nat.le_of_ble_eq_true rfl), (Nat.le_of_ble_eq_true rfl)⟩ ?_
        rintro h1 v ⟨i1, rn, e1, e50, s1, f1, rfl, ht, hrn⟩
        refine a_istore 34 dX12_law_32 rfl (by decide) ?_
        refine a_iload 36 dX12_law_34 rfl rfl ?_
        refine a_if_lt 49 39 dX12_law_36 rfl (by decide) (fun c_36 => ?_) (fun c_36 => absurd (by decide) c_36)
        refine a_aload_n 50 dX12_law_49 rfl rfl ?_
        refine a_get fd_X12_203 rfl 53 dX12_law_50 rfl (by repeat (first | assumption | (refine rg_ne (by first | decide | omega) ?_) | apply rg_eq | refine rg_fr (by assumption) (by first | decide | (simp; omega)) ?_)) rfl ?_
        refine a_bipush (6) 55 dX12_law_53 rfl (by decide) ?_
        rw [show i1 20 = nI T.nl from s1.2.2.2.2.2.1.trans q.2.2.1.2.1]
        refine a_icmp_ne 65 58 dX12_law_55 rfl (by decide) (fun c_55 => ?_) (fun c_55 => absurd c_55 (fun u => hnl ((nI_eq (b := 6) (by omega) (by decide)).mp u)))
        refine a_iconst (0) 66 dX12_law_65 rfl (by decide) ?_
        refine a_istore 68 dX12_law_66 rfl (by decide) ?_
        exact lawM q o hl hnl6 ht hrn d4 s1 7 0 _ f49 _ (by omega) rfl e1 (rg_fr f1 (by decide) d4) e50 (fun _ _ => rfl) (fun w hw => absurd hw (by omega)) (fr_mono f1 (by decide))
  · have ea : aLaw T c d a n hl = ((refF T c d a n).1, setFT T (refF T c d a n).2 T.tr) := by unfold aLaw; rw [if_neg hr]
    rw [ea]
    refine rM_start (by decide) (Nat.le_of_ble_eq_true rfl) ?_
    refine a_aload_n 1 dX12_law_0 rfl rfl ?_
    refine a_iload_n 2 dX12_law_1 rfl rfl ?_
    refine a_iload_n 3 dX12_law_2 rfl rfl ?_
    refine a_iload_n 4 dX12_law_3 rfl rfl ?_
    refine a_iload 6 dX12_law_4 rfl rfl ?_
    refine a_i2l 7 dX12_law_6 rfl ?_
    refine a_callV ok_X12_kept ln_X12_145 in_X12_kept rfl 10 dX12_law_7 rfl (m_keptN q o hr) (by repeat (first | assumption | (refine rg_ne (by first | decide | omega) ?_) | apply rg_eq | refine rg_fr (by assumption) (by first | decide | (simp; omega)) ?_)) rfl rfl rfl ⟨(Nat.le_of_ble_eq_true rfl), (Nat.le_of_ble_eq_true rfl)⟩ (Nat.le_of_ble_eq_true rfl) ⟨(Nat.le_of_ble_eq_true rfl), (Nat.le_of_ble_eq_true rfl)⟩ ?_
    rintro h1 _ ⟨rfl, hlt, q1, f1⟩
    refine a_istore 12 dX12_law_10 rfl (by decide) ?_
    refine a_iload 14 dX12_law_12 rfl rfl ?_
    refine a_if_ge 20 17 dX12_law_14 rfl (by decide) (fun c_14 => absurd c_14 (Int32.not_le.mpr hlt)) (fun c_14 => ?_)
    refine a_iload 19 dX12_law_17 rfl rfl ?_
    exact a_ireturn dX12_law_19 rfl rfl (Nat.le_of_ble_eq_true rfl) (Nat.le_of_ble_eq_true rfl) ⟨rfl, ⟨_, j, q1⟩, kpm f1 (by decide)⟩
end MLAW2
