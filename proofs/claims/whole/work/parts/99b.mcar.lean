/-! THE MODEL: carriage, its two loops -/
section MCARB
variable {l : Launch} {G : rG} {h : rH} {T : Tn} {i : Nat → Int32} {j : Nat → Int64}
abbrev carPQ (G : rG) (h : rH) (a : Int32) (T' : Tn) : rH → Option Value → Prop := fun h' v => v = some (.int a) ∧ mAll G h' T' ∧ kp h h' mL
theorem mk_42 {h' : rH} {S : List Nat} {fa : Nat → Int32} (q : mkAt G h) (e : h'[42]? = some (.inl (gA G 0, 32, .inl fa))) (hf : fr h h' S) (hS : ∀ k ∈ S, k ≠ 50 ∧ k ≠ 53 ∧ k ≠ 54 ∧ k ≠ 55 ∧ k ≠ 56 ∧ k ≠ 60 := by decide) : mkAt G h' := by
  obtain ⟨-, p50, p53, p54, p55, p56, p60⟩ := q
  have hp := kp_fr hf
  exact ⟨⟨_, e⟩, ex_kp p50 hp (fun u => (hS _ u).1 rfl), ex_kp p53 hp (fun u => (hS _ u).2.1 rfl), ex_kp p54 hp (fun u => (hS _ u).2.2.1 rfl), ex_kp p55 hp (fun u => (hS _ u).2.2.2.1 rfl), ex_kp p56 hp (fun u => (hS _ u).2.2.2.2.1 rfl), ex_kp p60 hp (fun u => (hS _ u).2.2.2.2.2 rfl)⟩
set_option maxRecDepth 100000 in
set_option maxHeartbeats 400000 in
theorem carM2 (q : mX G h T i j) (o : T.ok) {code fa fn w39 w40 w41 : Nat → Int32} {le wi : Nat} {mir : Bool} {i2 : Nat → Int32} (l2 : le < 9) (w2 : wi < 5) (hfb : ∀ j, j < le * wi → fa j = faceBI (code (carK mir + j)) ∧ 0 ≤ faceBI (code (carK mir + j))) (hn0 : nbOk fn T.nb) (x39 : ∀ t, t < 32 → w39 t = facN fa (le * wi) t) (y39 : ∀ t, 32 ≤ t → w39 t = nI (T.face t)) (x40 : ∀ t, t < 32 → w40 t = 0) (y40 : ∀ t, 32 ≤ t → w40 t = T.bR t) (x41 : ∀ t, t < 32 → w41 t = 0) (y41 : ∀ t, 32 ≤ t → w41 t = T.bB t) {sn : Nat → Int32} (x44 : ∀ t, t < 32 → sn t = 0) (y44 : ∀ t, 32 ≤ t → sn t = 0) (hi : i2 0 = i 0 ∧ i2 1 = nI le ∧ i2 2 = nI wi ∧ i2 3 = bI mir ∧ i2 15 = i 15 ∧ i2 20 = i 20 ∧ i2 23 = i 23 ∧ i2 39 = i 39) {a1 a2 a3 a4 : Option Value} {a5 : Int32} : ∀ (r c : Nat) (y : Int32) (nx : Nat → Int32) (h1 : rH), c + r = 4 * (le * wi) → y = nI c → h1[38]? = some (mo G i2 j) → h1[39]? = some (.inl (gA G 0, 32, .inl w39)) → h1[40]? = some (.inl (gA G 1, 32, .inl w40)) → h1[41]? = some (.inl (gA G 1, 32, .inl w41)) → h1[42]? = some (.inl (gA G 0, 32, .inl fa)) → h1[43]? = some (.inl (gA G 0, 128, .inl nx)) → h1[44]? = some (.inl (gA G 1, 32, .inl sn)) → (∀ t, t < c → nx t = noI (besN wi le (t / 4) (t % 4))) → (∀ t, 4 * (le * wi) ≤ t → nx t = fn t) → fr h h1 [38, 39, 40, 41, 42, 43, 44] → rW l G (rRm 12 0 0) mX12_carriage (rZ G (carPQ G h (nI (le * wi)) (newCar T code le wi mir)) 0 0) 0 0 141 [some (.ref (gN G + 38)), a1, a2, a3, a4, some (.int a5), some (.int y)] [] h1 := by
  have hlw : le * wi ≤ 8 * 4 := Nat.mul_le_mul (by omega) (by omega)
  obtain ⟨k0, k1, k2, k3, k15, k20, k23, k39⟩ := hi
  have e148 : (4 : Int32) * (i2 1 * i2 2) = nI (4 * (le * wi)) := by rw [k1, k2, pk_mul, show (4 : Int32) = nI 4 from rfl, pk_mul]
  intro r
  induction r with
  | zero =>
    intro c y nx h1 hc hy e38 e39 e40 e41 e42 e43 e44 hnx hnx2 hf
    subst hy
    have ec : c = 4 * (le * wi) := by omega
    subst ec
    refine a_iload 143 dX12_carriage_141 rfl rfl ?_
    refine a_iconst (4) 144 dX12_carriage_143 rfl (by decide) ?_
    refine a_aload_n 145 dX12_carriage_144 rfl rfl ?_
    refine a_callV ok_X12_seats ln_X12_114 in_X12_seats rfl 148 dX12_carriage_145 rfl (k_X12_seats e38) (by repeat (first | assumption | (refine rg_ne (by first | decide | omega) ?_) | apply rg_eq | refine rg_fr (by assumption) (by first | decide | (simp; omega)) ?_)) rfl rfl rfl ⟨(Nat.le_of_ble_eq_true rfl), (Nat.le_of_ble_eq_true rfl)⟩ (Nat.le_of_ble_eq_true rfl) ⟨(Nat.le_of_ble_eq_true rfl), (Nat.le_of_ble_eq_true rfl)⟩ ?_
    rintro _ _ ⟨rfl, rfl⟩
    refine a_imul 149 dX12_carriage_148 rfl ?_
    rw [e148]
    refine a_icmp_ge 177 152 dX12_carriage_149 rfl (by decide) (fun c_149 => ?_) (fun c_149 => absurd (Int32.le_refl _) c_149)
    refine a_aload_n 178 dX12_carriage_177 rfl rfl ?_
    refine a_iconst (0) 179 dX12_carriage_178 rfl (by decide) ?_
    refine a_put fd_X12_160 cl_X12 rfl 182 dX12_carriage_179 rfl (by repeat (first | assumption | (refine rg_ne (by first | decide | omega) ?_) | apply rg_eq | refine rg_fr (by assumption) (by first | decide | (simp; omega)) ?_)) (Nat.le_of_ble_eq_true rfl) rfl rfl rfl ?_
    refine a_aload_n 183 dX12_carriage_182 rfl rfl ?_
    refine a_iconst (0) 184 dX12_carriage_183 rfl (by decide) ?_
    refine a_put fd_X12_163 cl_X12 rfl 187 dX12_carriage_184 rfl (by repeat (first | assumption | (refine rg_ne (by first | decide | omega) ?_) | apply rg_eq | refine rg_fr (by assumption) (by first | decide | (simp; omega)) ?_)) (Nat.le_of_ble_eq_true rfl) rfl rfl rfl ?_
    refine a_aload_n 188 dX12_carriage_187 rfl rfl ?_
    refine a_aload_n 189 dX12_carriage_188 rfl rfl ?_
    refine a_callV ok_X12_seats ln_X12_114 in_X12_seats rfl 192 dX12_carriage_189 rfl (k_X12_seats (i := upd (upd i2 15 0) 23 0) (j := j) (rg_eq (rg_eq e38))) (by repeat (first | assumption | (refine rg_ne (by first | decide | omega) ?_) | apply rg_eq | refine rg_fr (by assumption) (by first | decide | (simp; omega)) ?_)) rfl rfl rfl ⟨(Nat.le_of_ble_eq_true rfl), (Nat.le_of_ble_eq_true rfl)⟩ (Nat.le_of_ble_eq_true rfl) ⟨(Nat.le_of_ble_eq_true rfl), (Nat.le_of_ble_eq_true rfl)⟩ ?_
    rintro _ _ ⟨rfl, rfl⟩
    rw [show upd (upd i2 15 0) 23 0 1 * upd (upd i2 15 0) 23 0 2 = nI (le * wi) from (congrArg (fun x => x * i2 2) k1).trans ((congrArg (fun x => nI le * x) k2).trans (pk_mul _ _))]
    refine a_callV ok_X12_refused ln_X12_91 in_X12_refused rfl 195 dX12_carriage_192 rfl (k_X12_refused (i := upd (upd i2 15 0) 23 0) (j := j) (rg_eq (rg_eq e38)) _) (by repeat (first | assumption | (refine rg_ne (by first | decide | omega) ?_) | apply rg_eq | refine rg_fr (by assumption) (by first | decide | (simp; omega)) ?_)) rfl rfl rfl ⟨(Nat.le_of_ble_eq_true rfl), (Nat.le_of_ble_eq_true rfl)⟩ (Nat.le_of_ble_eq_true rfl) ⟨(Nat.le_of_ble_eq_true rfl), (Nat.le_of_ble_eq_true rfl)⟩ ?_
    rintro h2 v ⟨rfl, e5, f5⟩
    exact a_ireturn dX12_carriage_195 rfl rfl (Nat.le_of_ble_eq_true rfl) (Nat.le_of_ble_eq_true rfl) ⟨rfl, ⟨_, j, car_end (T := T) q o l2 w2 hfb hn0 hnx hnx2 e5 (rg_fr f5 (by decide) (rg_ne (by decide) (rg_ne (by decide) e39))) (rg_fr f5 (by decide) (rg_ne (by decide) (rg_ne (by decide) e40))) (rg_fr f5 (by decide) (rg_ne (by decide) (rg_ne (by decide) e41))) (rg_fr f5 (by decide) (rg_ne (by decide) (rg_ne (by decide) e42))) (rg_fr f5 (by decide) (rg_ne (by decide) (rg_ne (by decide) e43))) (rg_fr f5 (by decide) (rg_ne (by decide) (rg_ne (by decide) e44))) x39 y39 x40 y40 x41 y41 x44 y44 ⟨rfl, k1, k2, k3, rfl, k20, rfl, k39⟩ (fr_trans (fr_set (fr_set hf (by decide)) (by decide)) f5 (by decide))⟩, kpm (fr_trans (fr_set (fr_set hf (by decide)) (by decide)) f5 (by decide)) (by decide)⟩
  | succ r ih =>
    intro c y nx h1 hc hy e38 e39 e40 e41 e42 e43 e44 hnx hnx2 hf
    subst hy
    have vc : vp_in (nI c) 128 := vp_in_nI (by omega) (by decide)
    have cc : (nI c).toNatClampNeg = c := nI_clamp (by omega)
    have e4 : nI c / 4 = nI (c / 4) := pk_div (d := 4) (by omega) (by decide) (by decide)
    have e5 : nI c - nI c / 4 * 4 = nI (c % 4) := pk_rem (d := 4) (by omega) (by decide) (by decide)
    refine a_iload 143 dX12_carriage_141 rfl rfl ?_
    refine a_iconst (4) 144 dX12_carriage_143 rfl (by decide) ?_
    refine a_aload_n 145 dX12_carriage_144 rfl rfl ?_
    refine a_callV ok_X12_seats ln_X12_114 in_X12_seats rfl 148 dX12_carriage_145 rfl (k_X12_seats e38) (by repeat (first | assumption | (refine rg_ne (by first | decide | omega) ?_) | apply rg_eq | refine rg_fr (by assumption) (by first | decide | (simp; omega)) ?_)) rfl rfl rfl ⟨(Nat.le_of_ble_eq_true rfl), (Nat.le_of_ble_eq_true rfl)⟩ (Nat.le_of_ble_eq_true rfl) ⟨(Nat.le_of_ble_eq_true rfl), (Nat.le_of_ble_eq_true rfl)⟩ ?_
    rintro _ _ ⟨rfl, rfl⟩
    refine a_imul 149 dX12_carriage_148 rfl ?_
    rw [e148]
    refine a_icmp_ge 177 152 dX12_carriage_149 rfl (by decide) (fun c_149 => absurd c_149 (nI_ge (a := c) (b := 4 * (le * wi)) (by omega) (by omega))) (fun c_149 => ?_)
    refine a_aload_n 153 dX12_carriage_152 rfl rfl ?_
    refine a_get fd_X12_23 rfl 156 dX12_carriage_153 rfl (by repeat (first | assumption | (refine rg_ne (by first | decide | omega) ?_) | apply rg_eq | refine rg_fr (by assumption) (by first | decide | (simp; omega)) ?_)) rfl ?_
    refine a_iload 158 dX12_carriage_156 rfl rfl ?_
    refine a_aload_n 159 dX12_carriage_158 rfl rfl ?_
    refine a_iload 161 dX12_carriage_159 rfl rfl ?_
    refine a_iconst (4) 162 dX12_carriage_161 rfl (by decide) ?_
    refine a_idiv 163 dX12_carriage_162 rfl (by decide) ?_
    rw [e4]
    refine a_iload 165 dX12_carriage_163 rfl rfl ?_
    refine a_iconst (4) 166 dX12_carriage_165 rfl (by decide) ?_
    refine a_irem 167 dX12_carriage_166 rfl (by decide) ?_
    rw [e5]
    refine a_callV ok_X12_besides ln_X12_156 in_X12_besides rfl 170 dX12_carriage_167 rfl (k_X12_besides e38 k1 k2 w2 l2 (k := c / 4) (w := c % 4) (by omega) (by omega)) (by repeat (first | assumption | (refine rg_ne (by first | decide | omega) ?_) | apply rg_eq | refine rg_fr (by assumption) (by first | decide | (simp; omega)) ?_)) rfl rfl rfl ⟨(Nat.le_of_ble_eq_true rfl), (Nat.le_of_ble_eq_true rfl)⟩ (Nat.le_of_ble_eq_true rfl) ⟨(Nat.le_of_ble_eq_true rfl), (Nat.le_of_ble_eq_true rfl)⟩ ?_
    rintro _ _ ⟨rfl, rfl⟩
    refine a_iastore 171 dX12_carriage_170 rfl (by repeat (first | assumption | (refine rg_ne (by first | decide | omega) ?_) | apply rg_eq | refine rg_fr (by assumption) (by first | decide | (simp; omega)) ?_)) vc ?_
    refine a_iinc _ 174 dX12_carriage_171 rfl rfl (by decide) rfl ?_
    refine a_goto 141 dX12_carriage_174 (by decide) ?_
    exact ih (c + 1) _ _ _ (by omega) (nI_1 c) (rg_ne (by decide) e38) (rg_ne (by decide) e39) (rg_ne (by decide) e40) (rg_ne (by decide) e41) (rg_ne (by decide) e42) (rg_eq e43) (rg_ne (by decide) e44) (fun t ht => by rw [cc]; exact up_lt (g := fun t => noI (besN wi le (t / 4) (t % 4))) hnx rfl ht) (fun t ht => by rw [cc]; exact up_ge (by omega) hnx2 ht) (fr_set hf (by decide))
end MCARB
