/-! THE MODEL: reading a law -/
theorem lawGo_cg {code code' : Nat → Int32} {N : Nat} (h : ∀ p, p < N → code p = code' p) : ∀ (r p : Nat) (t : tolT), lawGo code N r p t = lawGo code' N r p t
  | 0, _, _ => rfl
  | r + 1, p, t => by
    rw [lawGo, lawGo]
    by_cases hp : p < N
    · rw [h p hp]
      by_cases C : p < N ∧ 0 ≤ numBI (code' p) ∧ t (numBI (code' p)).toNatClampNeg = none
      · rw [if_pos C, if_pos C]
        by_cases hp1 : p + 1 < N
        · rw [h _ hp1]
          by_cases D : p + 1 < N ∧ (nI (48 + leaN (numBI (code' p)).toNatClampNeg) ≤ code' (p + 1) ∧ code' (p + 1) ≤ 57)
          · rw [if_pos D, if_pos D]
            by_cases hp2 : p + 2 < N
            · rw [if_pos hp2, if_pos hp2, h _ hp2]
              by_cases E : code' (p + 2) = 59 ∧ r ≠ 0
              · rw [if_pos E, if_pos E]; exact lawGo_cg h r (p + 3) _
              · rw [if_neg E, if_neg E]
            · rw [if_neg hp2, if_neg hp2]
          · rw [if_neg D, if_neg D]
        · rw [if_neg (fun u => hp1 u.1), if_neg (fun u => hp1 u.1)]
      · rw [if_neg C, if_neg C]
    · rw [if_neg (fun u => hp u.1), if_neg (fun u => hp u.1)]
abbrev tolI (t : tolT) (x : Nat) : Int32 := match t x with
  | some v => nI v
  | none => -9
theorem tolI_n {t : tolT} {x : Nat} (h : t x = none) : tolI t x = -9 := by unfold tolI; rw [h]
theorem tolI_s {t : tolT} {x v : Nat} (h : t x = some v) : tolI t x = nI v := by unfold tolI; rw [h]
theorem tolI_lt {t : tolT} (ht : tolOk t) (x : Nat) : tolI t x < 0 ↔ t x = none := by
  cases e : t x with
  | none => rw [tolI_n e]; exact ⟨fun _ => rfl, fun _ => by decide⟩
  | some v => rw [tolI_s e]; exact ⟨fun u => absurd u (nI_pos (by have := ht x v e; omega)), fun u => by cases u⟩
theorem num_ge {c : Int32} (h : ¬ numBI c < 0) : ∃ x, x < 7 ∧ numBI c = nI x := by
  rcases numBI_cases c with e | e
  · rw [e] at h; exact absurd (by decide) h
  · exact e
abbrev updT (t : tolT) (x v : Nat) : tolT := fun y => if y = x then some v else t y
theorem updT_ok {t : tolT} (ht : tolOk t) {x v : Nat} (h1 : leaN x ≤ v) (h2 : v < 10) : tolOk (updT t x v) := by
  intro y u hu
  unfold updT at hu
  by_cases e : y = x
  · rw [if_pos e] at hu; cases hu; subst e; exact ⟨h1, h2⟩
  · rw [if_neg e] at hu; exact ht y u hu
theorem updT_I {t : tolT} {rn : Nat → Int32} {x v : Nat} (h : ∀ y, y < 7 → rn y = tolI t y) : ∀ y, y < 7 → upd rn x (nI v) y = tolI (updT t x v) y := by
  intro y hy
  by_cases e : y = x
  · subst e; rw [pk_us]; exact (tolI_s (t := updT t y v) (if_pos rfl)).symm
  · rw [pk_un e, h y hy]
    have e2 : updT t x v y = t y := if_neg e
    unfold tolI
    rw [e2]
section MLAW
variable {l : Launch} {G : rG} {h : rH} {i : Nat → Int32} {j : Nat → Int64} {w : Nat → Int32} {s N : Nat}
theorem lea_rd {a : Int32} {x p : Nat} (hA : a = nI (leaN x)) : (a ≤ rdV w s N p ∧ rdV w s N p ≤ 9) ↔ (p < N ∧ (nI (48 + leaN x) ≤ w (s + p) ∧ w (s + p) ≤ 57)) := by
  rw [hA]
  exact rd_iff (lo := leaN x) (hi := 9) (by unfold leaN; split <;> omega) (by decide)
def lawPost (N : Nat) (rn : Nat → Int32) (v : Option Value) (X : Sum Nat tolT) : Prop := match X with
  | .inl p => v = some (.int (nI p)) ∧ p ≤ N
  | .inr t => v = some (.int (-9)) ∧ tolOk t ∧ ∀ x, x < 7 → rn x = tolI t x
abbrev lawQ (G : rG) (h : rH) (i : Nat → Int32) (j : Nat → Int64) (N : Nat) (X : Sum Nat tolT) : rH → Option Value → Prop := fun h' v => ∃ i' rn, h'[38]? = some (mo G i' j) ∧ h'[50]? = some (.inl (gA G 0, 7, .inl rn)) ∧ sameI i i' ∧ fr h h' [38, 50] ∧ lawPost N rn v X
theorem sameI_7 {i1 i2 : Nat → Int32} (a : sameI i i1) (u : ∀ k, k ≠ 7 → k ≠ 8 → i2 k = i1 k) : sameI i i2 := ⟨(u 0 (by decide) (by decide)).trans a.1, (u 1 (by decide) (by decide)).trans a.2.1, (u 2 (by decide) (by decide)).trans a.2.2.1, (u 3 (by decide) (by decide)).trans a.2.2.2.1, (u 15 (by decide) (by decide)).trans a.2.2.2.2.1, (u 20 (by decide) (by decide)).trans a.2.2.2.2.2.1, (u 23 (by decide) (by decide)).trans a.2.2.2.2.2.2.1, (u 39 (by decide) (by decide)).trans a.2.2.2.2.2.2.2⟩
theorem lg_0 {code : Nat → Int32} {r p : Nat} {t : tolT} (C : ¬ (p < N ∧ 0 ≤ numBI (code p) ∧ t (numBI (code p)).toNatClampNeg = none)) : lawGo code N (r + 1) p t = .inl p := by rw [lawGo, if_neg C]
theorem lg_1 {code : Nat → Int32} {r p x : Nat} {t : tolT} (hp : p < N) (hx : x < 7) (ex : numBI (code p) = nI x) (ht : t x = none) (D : ¬ (p + 1 < N ∧ (nI (48 + leaN x) ≤ code (p + 1) ∧ code (p + 1) ≤ 57))) : lawGo code N (r + 1) p t = .inl (p + 1) := by
  rw [lawGo, ex, nI_clamp (by omega), if_pos ⟨hp, nI_pos' (by omega), ht⟩, if_neg D]
theorem lg_2 {code : Nat → Int32} {r p x v : Nat} {t : tolT} (hp : p < N) (hx : x < 7) (ex : numBI (code p) = nI x) (ht : t x = none) (D : p + 1 < N ∧ (nI (48 + leaN x) ≤ code (p + 1) ∧ code (p + 1) ≤ 57)) (ev : (code (p + 1) - 48).toNatClampNeg = v) : lawGo code N (r + 1) p t = if p + 2 < N then (if code (p + 2) = 59 ∧ r ≠ 0 then lawGo code N r (p + 3) (updT t x v) else .inl (p + 2)) else .inr (updT t x v) := by
  rw [lawGo, ex, nI_clamp (by omega), if_pos ⟨hp, nI_pos' (by omega), ht⟩, if_pos D, ev]
theorem lea_1 : ∀ x, x < 7 → (nI x = 3 ∨ nI x = 5 ∨ nI x = 6) → (1 : Int32) = nI (leaN x) := by decide +kernel
theorem lea_0 : ∀ x, x < 7 → ¬ nI x = 3 → ¬ nI x = 5 → ¬ nI x = 6 → (0 : Int32) = nI (leaN x) := by decide +kernel
theorem lea_le (x : Nat) : leaN x ≤ 1 := by unfold leaN; split <;> omega
def lawW (l : Launch) (G : rG) (h : rH) (i : Nat → Int32) (j : Nat → Int64) (w : Nat → Int32) (s N r : Nat) : Prop := ∀ (p : Nat) (y : Int32) (t : tolT) (a5 : Option Value) (i1 rn : Nat → Int32) (h1 : rH), r ≤ 6 → p ≤ N → y = nI (6 - r) → tolOk t → (∀ x, x < 7 → rn x = tolI t x) → i1 7 = nI p → sameI i i1 → h1[38]? = some (mo G i1 j) → h1[50]? = some (.inl (gA G 0, 7, .inl rn)) → lawS (codW w s) N = lawGo (codW w s) N (r + 1) p t → fr h h1 [38, 50] → rW l G (rRm 2 0 0) mX12_readLaw (rZ G (lawQ G h i j N (lawS (codW w s) N)) 0 0) 0 0 32 [some (.ref (gN G + 38)), some (.int (nI s)), some (.int (nI N)), some (.int y), some (.int 1), a5] [] h1
set_option maxRecDepth 100000 in
set_option maxHeartbeats 400000 in
theorem lawB (h59 : h[59]? = some (.inl (gA G 0, 240, .inl w))) (hsN : s + N ≤ 240) (hN : N ≤ 60) {r p x : Nat} (IH : ∀ r', r = r' + 1 → lawW l G h i j w s N r') {t : tolT} {i1 rn : Nat → Int32} {h1 : rH} (hr6 : r ≤ 6) (ht : tolOk t) (hrn : ∀ x, x < 7 → rn x = tolI t x) (hs : sameI i i1) (e38 : h1[38]? = some (mo G i1 j)) (e50 : h1[50]? = some (.inl (gA G 0, 7, .inl rn))) (hL : lawS (codW w s) N = lawGo (codW w s) N (r + 1) p t) (hf : fr h h1 [38, 50]) (hp : p < N) (hx : x < 7) (ex : numBI (w (s + p)) = nI x) (htx : t x = none) (a : Int32) (hA : a = nI (leaN x)) : rW l G (rRm 2 0 0) mX12_readLaw (rZ G (lawQ G h i j N (lawS (codW w s) N)) 0 0) 0 0 123 [some (.ref (gN G + 38)), some (.int (nI s)), some (.int (nI N)), some (.int (nI (6 - r))), some (.int 1), some (.int (nI x))] [.int a, .int (nI N), .int (nI s), .ref (gN G + 38)] (h1.set 38 (mo G (upd i1 7 (nI (p + 1))) j)) := by
  have e59 := rg_fr hf (by decide) h59
  have vx : vp_in (nI x) 7 := vp_in_nI hx (by decide)
  have cx : (nI x).toNatClampNeg = x := nI_clamp (by omega)
  have hlea := lea_le x
  have h7 : nI (6 - r) + Int32.ofInt 1 = 7 → r = 0 := by
    intro u
    have u2 : nI (6 - r) + 1 = nI 7 := u
    rw [nI_1, nI_eq (by omega) (by decide)] at u2
    omega
  have h70 : r = 0 → nI (6 - r) + Int32.ofInt 1 = 7 := by intro u; subst u; rfl
  have hp2N : ¬ nI N ≤ nI (p + 1 + 1) → p + 2 < N := fun u => Decidable.not_not.mp (fun x => u (nI_le (by omega) (by omega)))
  have v180 : p + 2 < N → vp_in (nI (s + (p + 1 + 1))) 240 := fun u => vp_in_nI (by omega) (by decide)
  have c180 : (nI (s + (p + 1 + 1))).toNatClampNeg = s + (p + 2) := nI_clamp (by omega)
  refine a_bipush (9) 125 dX12_readLaw_123 rfl (by decide) ?_
  refine a_callV ok_X12_readsFigure ln_X12_128 in_X12_readsFigure rfl 128 dX12_readLaw_125 rfl (k_X12_readsFigure (p := p + 1) (i := upd i1 7 (nI (p + 1))) (j := j) (rg_eq e38) (rg_ne (by decide) e59) rfl hsN (by omega) a 9) (by repeat (first | assumption | (refine rg_ne (by first | decide | omega) ?_) | apply rg_eq | refine rg_fr (by assumption) (by first | decide | (simp; omega)) ?_)) rfl rfl rfl ⟨(Nat.le_of_ble_eq_true rfl), (Nat.le_of_ble_eq_true rfl)⟩ (Nat.le_of_ble_eq_true rfl) ⟨(Nat.le_of_ble_eq_true rfl), (Nat.le_of_ble_eq_true rfl)⟩ ?_
  rintro h2 v ⟨rfl, i2, e2, g2, u2, o2, f2⟩
  have s2 := sameI_7 hs (fun k k7 k8 => (o2 k k7 k8).trans (pk_un k7))
  have e502 : h2[50]? = _ := rg_fr f2 (by decide) (rg_ne (by decide) e50)
  have F2 : fr h h2 [38, 50] := fr_trans (fr_set hf (by decide)) f2 (by decide)
  have e592 := rg_fr F2 (by decide) h59
  refine a_if_ne 136 131 dX12_readLaw_128 rfl (by decide) (fun c_128 => ?_) (fun c_128 => ?_)
  · have D := (lea_rd hA).mp (tb_1 c_128)
    rw [if_pos (tb_1 c_128)] at g2
    obtain ⟨v, v1, v2, v3, v4⟩ := dig_N (lo := 48 + leaN x) (hi := 57) (by omega) (by omega) (by decide) D.2
    refine a_aload_n 137 dX12_readLaw_136 rfl rfl ?_
    refine a_get fd_X12_44 rfl 140 dX12_readLaw_137 rfl (by repeat (first | assumption | (refine rg_ne (by first | decide | omega) ?_) | apply rg_eq | refine rg_fr (by assumption) (by first | decide | (simp; omega)) ?_)) rfl ?_
    refine a_iload 142 dX12_readLaw_140 rfl rfl ?_
    refine a_aload_n 143 dX12_readLaw_142 rfl rfl ?_
    refine a_get fd_X12_121 rfl 146 dX12_readLaw_143 rfl (by repeat (first | assumption | (refine rg_ne (by first | decide | omega) ?_) | apply rg_eq | refine rg_fr (by assumption) (by first | decide | (simp; omega)) ?_)) rfl ?_
    rw [show i2 8 = nI v from u2.trans ((if_pos D.1).trans v3)]
    refine a_iastore 147 dX12_readLaw_146 rfl (by repeat (first | assumption | (refine rg_ne (by first | decide | omega) ?_) | apply rg_eq | refine rg_fr (by assumption) (by first | decide | (simp; omega)) ?_)) vx ?_
    refine a_iinc _ 150 dX12_readLaw_147 rfl rfl (by decide) rfl ?_
    refine a_aload_n 151 dX12_readLaw_150 rfl rfl ?_
    refine a_get fd_X12_118 rfl 154 dX12_readLaw_151 rfl (by repeat (first | assumption | (refine rg_ne (by first | decide | omega) ?_) | apply rg_eq | refine rg_fr (by assumption) (by first | decide | (simp; omega)) ?_)) rfl ?_
    refine a_iload_n 155 dX12_readLaw_154 rfl rfl ?_
    rw [g2]
    refine a_icmp_ge 162 158 dX12_readLaw_155 rfl (by decide) (fun c_155 => ?_) (fun c_155 => ?_)
    · refine a_iconst (0) 163 dX12_readLaw_162 rfl (by decide) ?_
      refine a_istore 165 dX12_readLaw_163 rfl (by decide) ?_
      refine a_iload 167 dX12_readLaw_165 rfl rfl ?_
      refine a_if_eq 197 170 dX12_readLaw_167 rfl (by decide) (fun c_167 => ?_) (fun c_167 => absurd rfl c_167)
      refine a_aload_n 198 dX12_readLaw_197 rfl rfl ?_
      refine a_dup 199 dX12_readLaw_198 rfl rfl ?_
      refine a_get fd_X12_118 rfl 202 dX12_readLaw_199 rfl (by repeat (first | assumption | (refine rg_ne (by first | decide | omega) ?_) | apply rg_eq | refine rg_fr (by assumption) (by first | decide | (simp; omega)) ?_)) rfl ?_
      refine a_iload 204 dX12_readLaw_202 rfl rfl ?_
      refine a_if_eq 211 207 dX12_readLaw_204 rfl (by decide) (fun c_204 => ?_) (fun c_204 => absurd rfl c_204)
      refine a_iconst (0) 212 dX12_readLaw_211 rfl (by decide) ?_
      refine a_iadd 213 dX12_readLaw_212 rfl ?_
      refine a_put fd_X12_118 cl_X12 rfl 216 dX12_readLaw_213 rfl (by repeat (first | assumption | (refine rg_ne (by first | decide | omega) ?_) | apply rg_eq | refine rg_fr (by assumption) (by first | decide | (simp; omega)) ?_)) (Nat.le_of_ble_eq_true rfl) rfl rfl rfl ?_
      refine a_goto 32 dX12_readLaw_216 (by decide) ?_
      refine a_iload 34 dX12_readLaw_32 rfl rfl ?_
      refine a_if_eq 219 37 dX12_readLaw_34 rfl (by decide) (fun c_34 => ?_) (fun c_34 => absurd rfl c_34)
      refine a_bipush (-9) 221 dX12_readLaw_219 rfl (by decide) ?_
      exact a_ireturn dX12_readLaw_221 rfl rfl (Nat.le_of_ble_eq_true rfl) (Nat.le_of_ble_eq_true rfl) ⟨upd i2 7 (i2 7 + 0), _, rg_eq (rg_ne (by decide) e2), rg_ne (by decide) (rg_eq e502), sameI_7 s2 (fun k a _ => pk_un a), fr_set (fr_set F2 (by decide)) (by decide), by rw [hL, lg_2 (code := codW w s) hp hx ex htx D v4, if_neg (fun u => nI_ge (a := p + 1 + 1) (b := N) u (by omega) c_155), cx]; exact ⟨rfl, updT_ok ht (by omega) (by omega), updT_I hrn⟩⟩
    · refine a_iconst (1) 159 dX12_readLaw_158 rfl (by decide) ?_
      refine a_goto 163 dX12_readLaw_159 (by decide) ?_
      refine a_istore 165 dX12_readLaw_163 rfl (by decide) ?_
      refine a_iload 167 dX12_readLaw_165 rfl rfl ?_
      refine a_if_eq 197 170 dX12_readLaw_167 rfl (by decide) (fun c_167 => absurd c_167 (by decide)) (fun c_167 => ?_)
      refine a_aload_n 171 dX12_readLaw_170 rfl rfl ?_
      refine a_get fd_X12_71 rfl 174 dX12_readLaw_171 rfl (by repeat (first | assumption | (refine rg_ne (by first | decide | omega) ?_) | apply rg_eq | refine rg_fr (by assumption) (by first | decide | (simp; omega)) ?_)) rfl ?_
      refine a_iload_n 175 dX12_readLaw_174 rfl rfl ?_
      refine a_aload_n 176 dX12_readLaw_175 rfl rfl ?_
      refine a_get fd_X12_118 rfl 179 dX12_readLaw_176 rfl (by repeat (first | assumption | (refine rg_ne (by first | decide | omega) ?_) | apply rg_eq | refine rg_fr (by assumption) (by first | decide | (simp; omega)) ?_)) rfl ?_
      refine a_iadd 180 dX12_readLaw_179 rfl ?_
      rw [g2, nI_add]
      refine a_iaload 181 dX12_readLaw_180 rfl (by repeat (first | assumption | (refine rg_ne (by first | decide | omega) ?_) | apply rg_eq | refine rg_fr (by assumption) (by first | decide | (simp; omega)) ?_)) (v180 (hp2N c_155)) ?_
      rw [c180]
      refine a_bipush (59) 183 dX12_readLaw_181 rfl (by decide) ?_
      refine a_icmp_ne 192 186 dX12_readLaw_183 rfl (by decide) (fun c_183 => ?_) (fun c_183 => ?_)
      · refine a_aload_n 193 dX12_readLaw_192 rfl rfl ?_
        refine a_get fd_X12_118 rfl 196 dX12_readLaw_193 rfl (by repeat (first | assumption | (refine rg_ne (by first | decide | omega) ?_) | apply rg_eq | refine rg_fr (by assumption) (by first | decide | (simp; omega)) ?_)) rfl ?_
        rw [g2]
        exact a_ireturn dX12_readLaw_196 rfl rfl (Nat.le_of_ble_eq_true rfl) (Nat.le_of_ble_eq_true rfl) ⟨i2, _, rg_ne (by decide) e2, rg_eq e502, s2, fr_set F2 (by decide), by rw [hL, lg_2 (code := codW w s) hp hx ex htx D v4, if_pos (hp2N c_155), if_neg (fun u => c_183 u.1)]; exact ⟨rfl, by have := hp2N c_155; omega⟩⟩
      · refine a_iload_n 187 dX12_readLaw_186 rfl rfl ?_
        refine a_bipush (7) 189 dX12_readLaw_187 rfl (by decide) ?_
        refine a_icmp_ne 197 192 dX12_readLaw_189 rfl (by decide) (fun c_189 => ?_) (fun c_189 => ?_)
        · refine a_aload_n 198 dX12_readLaw_197 rfl rfl ?_
          refine a_dup 199 dX12_readLaw_198 rfl rfl ?_
          refine a_get fd_X12_118 rfl 202 dX12_readLaw_199 rfl (by repeat (first | assumption | (refine rg_ne (by first | decide | omega) ?_) | apply rg_eq | refine rg_fr (by assumption) (by first | decide | (simp; omega)) ?_)) rfl ?_
          refine a_iload 204 dX12_readLaw_202 rfl rfl ?_
          refine a_if_eq 211 207 dX12_readLaw_204 rfl (by decide) (fun c_204 => absurd c_204 (by decide)) (fun c_204 => ?_)
          refine a_iconst (1) 208 dX12_readLaw_207 rfl (by decide) ?_
          refine a_goto 212 dX12_readLaw_208 (by decide) ?_
          refine a_iadd 213 dX12_readLaw_212 rfl ?_
          rw [g2, nI_1]
          refine a_put fd_X12_118 cl_X12 rfl 216 dX12_readLaw_213 rfl (by repeat (first | assumption | (refine rg_ne (by first | decide | omega) ?_) | apply rg_eq | refine rg_fr (by assumption) (by first | decide | (simp; omega)) ?_)) (Nat.le_of_ble_eq_true rfl) rfl rfl rfl ?_
          refine a_goto 32 dX12_readLaw_216 (by decide) ?_
          obtain ⟨r2, rfl⟩ : ∃ r2, r = r2 + 1 := ⟨r - 1, by have : r ≠ 0 := fun u => c_189 (h70 u); omega⟩
          exact IH r2 rfl (p + 3) _ (updT t x v) _ (upd i2 7 (nI (p + 3))) _ _ (by omega) (by have := hp2N c_155; omega) ((nI_1 _).trans (congrArg nI (by omega))) (updT_ok ht (by omega) (by omega)) (by rw [cx]; exact updT_I hrn) pk_us (sameI_7 s2 (fun k a _ => pk_un a)) (rg_eq (rg_ne (by decide) e2)) (rg_ne (by decide) (rg_eq e502)) (by rw [hL, lg_2 (code := codW w s) hp hx ex htx D v4, if_pos (hp2N c_155), if_pos ⟨c_183, by omega⟩]) (fr_set (fr_set F2 (by decide)) (by decide))
        · refine a_aload_n 193 dX12_readLaw_192 rfl rfl ?_
          refine a_get fd_X12_118 rfl 196 dX12_readLaw_193 rfl (by repeat (first | assumption | (refine rg_ne (by first | decide | omega) ?_) | apply rg_eq | refine rg_fr (by assumption) (by first | decide | (simp; omega)) ?_)) rfl ?_
          rw [g2]
          exact a_ireturn dX12_readLaw_196 rfl rfl (Nat.le_of_ble_eq_true rfl) (Nat.le_of_ble_eq_true rfl) ⟨i2, _, rg_ne (by decide) e2, rg_eq e502, s2, fr_set F2 (by decide), by rw [hL, lg_2 (code := codW w s) hp hx ex htx D v4, if_pos (hp2N c_155), if_neg (fun u => u.2 (h7 c_189))]; exact ⟨rfl, by have := hp2N c_155; omega⟩⟩
  · refine a_aload_n 132 dX12_readLaw_131 rfl rfl ?_
    refine a_get fd_X12_118 rfl 135 dX12_readLaw_132 rfl (by repeat (first | assumption | (refine rg_ne (by first | decide | omega) ?_) | apply rg_eq | refine rg_fr (by assumption) (by first | decide | (simp; omega)) ?_)) rfl ?_
    rw [g2, if_neg (b_eq0.mp c_128)]
    exact a_ireturn dX12_readLaw_135 rfl rfl (Nat.le_of_ble_eq_true rfl) (Nat.le_of_ble_eq_true rfl) ⟨i2, rn, e2, e502, s2, F2, by rw [hL, lg_1 (code := codW w s) hp hx ex htx (fun u => b_eq0.mp c_128 ((lea_rd hA).mpr u))]; exact ⟨rfl, by omega⟩⟩
set_option maxRecDepth 100000 in
set_option maxHeartbeats 400000 in
theorem lawS1 (h59 : h[59]? = some (.inl (gA G 0, 240, .inl w))) (hsN : s + N ≤ 240) (hN : N ≤ 60) {r : Nat} (IH : ∀ r', r = r' + 1 → lawW l G h i j w s N r') : lawW l G h i j w s N r := by
  intro p y t a5 i1 rn h1 hr6 hpN hy ht hrn g7 hs e38 e50 hL hf
  subst hy
  have e59 := rg_fr hf (by decide) h59
  have hpl : ¬ nI N ≤ nI p → p < N := fun u => Decidable.not_not.mp (fun x => u (nI_le (by omega) (by omega)))
  have v55 : p < N → vp_in (nI (s + p)) 240 := fun u => vp_in_nI (by omega) (by decide)
  have c55 : (nI (s + p)).toNatClampNeg = s + p := nI_clamp (by omega)
  by_cases C : p < N ∧ 0 ≤ numBI (codW w s p) ∧ t (numBI (codW w s p)).toNatClampNeg = none
  · obtain ⟨hp, h0, htx⟩ := C
    obtain ⟨x, hx, ex⟩ := num_ge (Int32.not_lt.mpr h0)
    rw [ex, nI_clamp (by omega)] at htx
    have ex2 : numBI (w (s + p)) = nI x := ex
    have vx : vp_in (nI x) 7 := vp_in_nI hx (by decide)
    have cx : (nI x).toNatClampNeg = x := nI_clamp (by omega)
    have B := lawB (l := l) h59 hsN hN IH hr6 ht hrn hs e38 e50 hL hf hp hx ex2 htx
    refine a_iload 34 dX12_readLaw_32 rfl rfl ?_
    refine a_if_eq 219 37 dX12_readLaw_34 rfl (by decide) (fun c_34 => absurd c_34 (by decide)) (fun c_34 => ?_)
    refine a_aload_n 38 dX12_readLaw_37 rfl rfl ?_
    refine a_get fd_X12_118 rfl 41 dX12_readLaw_38 rfl (by repeat (first | assumption | (refine rg_ne (by first | decide | omega) ?_) | apply rg_eq | refine rg_fr (by assumption) (by first | decide | (simp; omega)) ?_)) rfl ?_
    refine a_iload_n 42 dX12_readLaw_41 rfl rfl ?_
    rw [g7]
    refine a_icmp_ge 62 45 dX12_readLaw_42 rfl (by decide) (fun c_42 => absurd c_42 (nI_ge (a := p) (b := N) hp (by omega))) (fun c_42 => ?_)
    refine a_aload_n 46 dX12_readLaw_45 rfl rfl ?_
    refine a_get fd_X12_71 rfl 49 dX12_readLaw_46 rfl (by repeat (first | assumption | (refine rg_ne (by first | decide | omega) ?_) | apply rg_eq | refine rg_fr (by assumption) (by first | decide | (simp; omega)) ?_)) rfl ?_
    refine a_iload_n 50 dX12_readLaw_49 rfl rfl ?_
    refine a_aload_n 51 dX12_readLaw_50 rfl rfl ?_
    refine a_get fd_X12_118 rfl 54 dX12_readLaw_51 rfl (by repeat (first | assumption | (refine rg_ne (by first | decide | omega) ?_) | apply rg_eq | refine rg_fr (by assumption) (by first | decide | (simp; omega)) ?_)) rfl ?_
    refine a_iadd 55 dX12_readLaw_54 rfl ?_
    rw [g7, nI_add]
    refine a_iaload 56 dX12_readLaw_55 rfl (by repeat (first | assumption | (refine rg_ne (by first | decide | omega) ?_) | apply rg_eq | refine rg_fr (by assumption) (by first | decide | (simp; omega)) ?_)) (v55 (hpl c_42)) ?_
    rw [c55]
    refine a_callS ok_X12_whatBy ln_X12_206 is_X12_whatBy rfl 59 dX12_readLaw_56 rfl (k_X12_whatBy _) rfl rfl ⟨(Nat.le_of_ble_eq_true rfl), (Nat.le_of_ble_eq_true rfl)⟩ (Nat.le_of_ble_eq_true rfl) ⟨(Nat.le_of_ble_eq_true rfl), (Nat.le_of_ble_eq_true rfl)⟩ ?_
    rintro _ _ ⟨rfl, rfl⟩
    refine a_goto 64 dX12_readLaw_59 (by decide) ?_
    rw [ex2]
    refine a_istore 66 dX12_readLaw_64 rfl (by decide) ?_
    refine a_iload 68 dX12_readLaw_66 rfl rfl ?_
    refine a_if_lt 81 71 dX12_readLaw_68 rfl (by decide) (fun c_68 => absurd c_68 (nI_pos (by omega))) (fun c_68 => ?_)
    refine a_aload_n 72 dX12_readLaw_71 rfl rfl ?_
    refine a_get fd_X12_44 rfl 75 dX12_readLaw_72 rfl (by repeat (first | assumption | (refine rg_ne (by first | decide | omega) ?_) | apply rg_eq | refine rg_fr (by assumption) (by first | decide | (simp; omega)) ?_)) rfl ?_
    refine a_iload 77 dX12_readLaw_75 rfl rfl ?_
    refine a_iaload 78 dX12_readLaw_77 rfl (by repeat (first | assumption | (refine rg_ne (by first | decide | omega) ?_) | apply rg_eq | refine rg_fr (by assumption) (by first | decide | (simp; omega)) ?_)) vx ?_
    rw [cx, hrn x hx]
    refine a_if_lt 86 81 dX12_readLaw_78 rfl (by decide) (fun c_78 => ?_) (fun c_78 => absurd ((tolI_lt ht x).mpr htx) c_78)
    refine a_aload_n 87 dX12_readLaw_86 rfl rfl ?_
    refine a_dup 88 dX12_readLaw_87 rfl rfl ?_
    refine a_get fd_X12_118 rfl 91 dX12_readLaw_88 rfl (by repeat (first | assumption | (refine rg_ne (by first | decide | omega) ?_) | apply rg_eq | refine rg_fr (by assumption) (by first | decide | (simp; omega)) ?_)) rfl ?_
    refine a_iconst (1) 92 dX12_readLaw_91 rfl (by decide) ?_
    refine a_iadd 93 dX12_readLaw_92 rfl ?_
    rw [g7, nI_1]
    refine a_put fd_X12_118 cl_X12 rfl 96 dX12_readLaw_93 rfl (by repeat (first | assumption | (refine rg_ne (by first | decide | omega) ?_) | apply rg_eq | refine rg_fr (by assumption) (by first | decide | (simp; omega)) ?_)) (Nat.le_of_ble_eq_true rfl) rfl rfl rfl ?_
    refine a_aload_n 97 dX12_readLaw_96 rfl rfl ?_
    refine a_iload_n 98 dX12_readLaw_97 rfl rfl ?_
    refine a_iload_n 99 dX12_readLaw_98 rfl rfl ?_
    refine a_iload 101 dX12_readLaw_99 rfl rfl ?_
    refine a_iconst (3) 102 dX12_readLaw_101 rfl (by decide) ?_
    refine a_icmp_eq 118 105 dX12_readLaw_102 rfl (by decide) (fun c_102 => ?_) (fun c_102 => ?_)
    · refine a_iconst (1) 119 dX12_readLaw_118 rfl (by decide) ?_
      refine a_goto 123 dX12_readLaw_119 (by decide) ?_
      exact B _ (lea_1 x hx (Or.inl c_102))
    · refine a_iload 107 dX12_readLaw_105 rfl rfl ?_
      refine a_iconst (5) 108 dX12_readLaw_107 rfl (by decide) ?_
      refine a_icmp_eq 118 111 dX12_readLaw_108 rfl (by decide) (fun c_108 => ?_) (fun c_108 => ?_)
      · refine a_iconst (1) 119 dX12_readLaw_118 rfl (by decide) ?_
        refine a_goto 123 dX12_readLaw_119 (by decide) ?_
        exact B _ (lea_1 x hx (Or.inr (Or.inl c_108)))
      · refine a_iload 113 dX12_readLaw_111 rfl rfl ?_
        refine a_bipush (6) 115 dX12_readLaw_113 rfl (by decide) ?_
        refine a_icmp_ne 122 118 dX12_readLaw_115 rfl (by decide) (fun c_115 => ?_) (fun c_115 => ?_)
        · refine a_iconst (0) 123 dX12_readLaw_122 rfl (by decide) ?_
          exact B _ (lea_0 x hx c_102 c_108 c_115)
        · refine a_iconst (1) 119 dX12_readLaw_118 rfl (by decide) ?_
          refine a_goto 123 dX12_readLaw_119 (by decide) ?_
          exact B _ (lea_1 x hx (Or.inr (Or.inr c_115)))
  · have nC : ∀ {x : Nat}, x < 7 → numBI (w (s + p)) = nI x → p < N → t x = none → False := fun {x} hx ex hp u => C ⟨hp, by show 0 ≤ numBI (w (s + p)); rw [ex]; exact nI_pos' (by omega), by show t (numBI (w (s + p))).toNatClampNeg = none; rw [ex, nI_clamp (by omega)]; exact u⟩
    refine a_iload 34 dX12_readLaw_32 rfl rfl ?_
    refine a_if_eq 219 37 dX12_readLaw_34 rfl (by decide) (fun c_34 => absurd c_34 (by decide)) (fun c_34 => ?_)
    refine a_aload_n 38 dX12_readLaw_37 rfl rfl ?_
    refine a_get fd_X12_118 rfl 41 dX12_readLaw_38 rfl (by repeat (first | assumption | (refine rg_ne (by first | decide | omega) ?_) | apply rg_eq | refine rg_fr (by assumption) (by first | decide | (simp; omega)) ?_)) rfl ?_
    refine a_iload_n 42 dX12_readLaw_41 rfl rfl ?_
    rw [g7]
    refine a_icmp_ge 62 45 dX12_readLaw_42 rfl (by decide) (fun c_42 => ?_) (fun c_42 => ?_)
    · refine a_bipush (-9) 64 dX12_readLaw_62 rfl (by decide) ?_
      refine a_istore 66 dX12_readLaw_64 rfl (by decide) ?_
      refine a_iload 68 dX12_readLaw_66 rfl rfl ?_
      refine a_if_lt 81 71 dX12_readLaw_68 rfl (by decide) (fun c_68 => ?_) (fun c_68 => absurd (by decide) c_68)
      refine a_aload_n 82 dX12_readLaw_81 rfl rfl ?_
      refine a_get fd_X12_118 rfl 85 dX12_readLaw_82 rfl (by repeat (first | assumption | (refine rg_ne (by first | decide | omega) ?_) | apply rg_eq | refine rg_fr (by assumption) (by first | decide | (simp; omega)) ?_)) rfl ?_
      rw [g7]
      exact a_ireturn dX12_readLaw_85 rfl rfl (Nat.le_of_ble_eq_true rfl) (Nat.le_of_ble_eq_true rfl) ⟨i1, rn, e38, e50, hs, hf, by rw [hL, lg_0 C]; exact ⟨rfl, hpN⟩⟩
    · refine a_aload_n 46 dX12_readLaw_45 rfl rfl ?_
      refine a_get fd_X12_71 rfl 49 dX12_readLaw_46 rfl (by repeat (first | assumption | (refine rg_ne (by first | decide | omega) ?_) | apply rg_eq | refine rg_fr (by assumption) (by first | decide | (simp; omega)) ?_)) rfl ?_
      refine a_iload_n 50 dX12_readLaw_49 rfl rfl ?_
      refine a_aload_n 51 dX12_readLaw_50 rfl rfl ?_
      refine a_get fd_X12_118 rfl 54 dX12_readLaw_51 rfl (by repeat (first | assumption | (refine rg_ne (by first | decide | omega) ?_) | apply rg_eq | refine rg_fr (by assumption) (by first | decide | (simp; omega)) ?_)) rfl ?_
      refine a_iadd 55 dX12_readLaw_54 rfl ?_
      rw [g7, nI_add]
      refine a_iaload 56 dX12_readLaw_55 rfl (by repeat (first | assumption | (refine rg_ne (by first | decide | omega) ?_) | apply rg_eq | refine rg_fr (by assumption) (by first | decide | (simp; omega)) ?_)) (v55 (hpl c_42)) ?_
      rw [c55]
      refine a_callS ok_X12_whatBy ln_X12_206 is_X12_whatBy rfl 59 dX12_readLaw_56 rfl (k_X12_whatBy _) rfl rfl ⟨(Nat.le_of_ble_eq_true rfl), (Nat.le_of_ble_eq_true rfl)⟩ (Nat.le_of_ble_eq_true rfl) ⟨(Nat.le_of_ble_eq_true rfl), (Nat.le_of_ble_eq_true rfl)⟩ ?_
      rintro _ _ ⟨rfl, rfl⟩
      refine a_goto 64 dX12_readLaw_59 (by decide) ?_
      refine a_istore 66 dX12_readLaw_64 rfl (by decide) ?_
      refine a_iload 68 dX12_readLaw_66 rfl rfl ?_
      refine a_if_lt 81 71 dX12_readLaw_68 rfl (by decide) (fun c_68 => ?_) (fun c_68 => ?_)
      · refine a_aload_n 82 dX12_readLaw_81 rfl rfl ?_
        refine a_get fd_X12_118 rfl 85 dX12_readLaw_82 rfl (by repeat (first | assumption | (refine rg_ne (by first | decide | omega) ?_) | apply rg_eq | refine rg_fr (by assumption) (by first | decide | (simp; omega)) ?_)) rfl ?_
        rw [g7]
        exact a_ireturn dX12_readLaw_85 rfl rfl (Nat.le_of_ble_eq_true rfl) (Nat.le_of_ble_eq_true rfl) ⟨i1, rn, e38, e50, hs, hf, by rw [hL, lg_0 C]; exact ⟨rfl, hpN⟩⟩
      · obtain ⟨x, hx, ex⟩ := num_ge c_68
        rw [ex]
        refine a_aload_n 72 dX12_readLaw_71 rfl rfl ?_
        refine a_get fd_X12_44 rfl 75 dX12_readLaw_72 rfl (by repeat (first | assumption | (refine rg_ne (by first | decide | omega) ?_) | apply rg_eq | refine rg_fr (by assumption) (by first | decide | (simp; omega)) ?_)) rfl ?_
        refine a_iload 77 dX12_readLaw_75 rfl rfl ?_
        refine a_iaload 78 dX12_readLaw_77 rfl (by repeat (first | assumption | (refine rg_ne (by first | decide | omega) ?_) | apply rg_eq | refine rg_fr (by assumption) (by first | decide | (simp; omega)) ?_)) (vp_in_nI hx (by decide)) ?_
        rw [show (nI x).toNatClampNeg = x from nI_clamp (by omega), hrn x hx]
        refine a_if_lt 86 81 dX12_readLaw_78 rfl (by decide) (fun c_78 => absurd True.intro (fun _ => nC hx ex (hpl c_42) ((tolI_lt ht x).mp c_78))) (fun c_78 => ?_)
        refine a_aload_n 82 dX12_readLaw_81 rfl rfl ?_
        refine a_get fd_X12_118 rfl 85 dX12_readLaw_82 rfl (by repeat (first | assumption | (refine rg_ne (by first | decide | omega) ?_) | apply rg_eq | refine rg_fr (by assumption) (by first | decide | (simp; omega)) ?_)) rfl ?_
        rw [g7]
        exact a_ireturn dX12_readLaw_85 rfl rfl (Nat.le_of_ble_eq_true rfl) (Nat.le_of_ble_eq_true rfl) ⟨i1, rn, e38, e50, hs, hf, by rw [hL, lg_0 C]; exact ⟨rfl, hpN⟩⟩
theorem lawL (h59 : h[59]? = some (.inl (gA G 0, 240, .inl w))) (hsN : s + N ≤ 240) (hN : N ≤ 60) : ∀ r, lawW l G h i j w s N r
  | 0 => lawS1 h59 hsN hN (fun r' h => absurd h (by omega))
  | r + 1 => lawS1 h59 hsN hN (fun r' h => by cases h; exact lawL h59 hsN hN r)
set_option maxRecDepth 100000 in
set_option maxHeartbeats 400000 in
theorem k_X12_readLaw {f : Nat → Int32} (hm : h[38]? = some (mo G i j)) (h59 : h[59]? = some (.inl (gA G 0, 240, .inl w))) (h50 : h[50]? = some (.inl (gA G 0, 7, .inl f))) (hsN : s + N ≤ 240) (hN : N ≤ 60) : rM l G 2 mX12_readLaw 0 0 [.ref (gN G + 38), .int (nI s), .int (nI N)] h (lawQ G h i j N (lawS (codW w s) N)) := by
  have A : ∀ (r c : Nat) (y : Int32) (rn : Nat → Int32) (h1 : rH), c + r = 7 → y = nI c → h1[38]? = some (mo G i j) → h1[50]? = some (.inl (gA G 0, 7, .inl rn)) → (∀ t, t < c → rn t = (fun _ => (-9 : Int32)) t) → fr h h1 [38, 50] → rW l G (rRm 2 0 0) mX12_readLaw (rZ G (lawQ G h i j N (lawS (codW w s) N)) 0 0) 0 0 2 [some (.ref (gN G + 38)), some (.int (nI s)), some (.int (nI N)), some (.int y), none, none] [] h1 := by
    intro r
    induction r with
    | zero =>
      intro c y rn h1 hc hy e38 e50 hrn hf
      subst hy
      have ec : c = 7 := by omega
      subst ec
      refine a_iload_n 3 dX12_readLaw_2 rfl rfl ?_
      refine a_bipush (7) 5 dX12_readLaw_3 rfl (by decide) ?_
      refine a_icmp_ge 22 8 dX12_readLaw_5 rfl (by decide) (fun c_5 => ?_) (fun c_5 => absurd (Int32.le_refl _) c_5)
      refine a_aload_n 23 dX12_readLaw_22 rfl rfl ?_
      refine a_iconst (0) 24 dX12_readLaw_23 rfl (by decide) ?_
      refine a_put fd_X12_118 cl_X12 rfl 27 dX12_readLaw_24 rfl (by repeat (first | assumption | (refine rg_ne (by first | decide | omega) ?_) | apply rg_eq | refine rg_fr (by assumption) (by first | decide | (simp; omega)) ?_)) (Nat.le_of_ble_eq_true rfl) rfl rfl rfl ?_
      refine a_iconst (0) 28 dX12_readLaw_27 rfl (by decide) ?_
      refine a_istore_n 29 dX12_readLaw_28 rfl (by decide) ?_
      refine a_iconst (1) 30 dX12_readLaw_29 rfl (by decide) ?_
      refine a_istore 32 dX12_readLaw_30 rfl (by decide) ?_
      exact lawL h59 hsN hN 6 0 _ (fun _ => none) _ (upd i 7 0) rn _ (by omega) (Nat.zero_le _) rfl (fun _ _ u => by cases u) hrn rfl ⟨rfl, rfl, rfl, rfl, rfl, rfl, rfl, rfl⟩ (rg_eq e38) (rg_ne (by decide) e50) rfl (fr_set hf (by decide))
    | succ r ih =>
      intro c y rn h1 hc hy e38 e50 hrn hf
      subst hy
      have vc : vp_in (nI c) 7 := vp_in_nI (by omega) (by decide)
      have cc : (nI c).toNatClampNeg = c := nI_clamp (by omega)
      refine a_iload_n 3 dX12_readLaw_2 rfl rfl ?_
      refine a_bipush (7) 5 dX12_readLaw_3 rfl (by decide) ?_
      refine a_icmp_ge 22 8 dX12_readLaw_5 rfl (by decide) (fun c_5 => absurd c_5 (nI_ge (a := c) (b := 7) (by omega) (by decide))) (fun c_5 => ?_)
      refine a_aload_n 9 dX12_readLaw_8 rfl rfl ?_
      refine a_get fd_X12_44 rfl 12 dX12_readLaw_9 rfl (by repeat (first | assumption | (refine rg_ne (by first | decide | omega) ?_) | apply rg_eq | refine rg_fr (by assumption) (by first | decide | (simp; omega)) ?_)) rfl ?_
      refine a_iload_n 13 dX12_readLaw_12 rfl rfl ?_
      refine a_bipush (-9) 15 dX12_readLaw_13 rfl (by decide) ?_
      refine a_iastore 16 dX12_readLaw_15 rfl (by repeat (first | assumption | (refine rg_ne (by first | decide | omega) ?_) | apply rg_eq | refine rg_fr (by assumption) (by first | decide | (simp; omega)) ?_)) vc ?_
      refine a_iinc _ 19 dX12_readLaw_16 rfl rfl (by decide) rfl ?_
      refine a_goto 2 dX12_readLaw_19 (by decide) ?_
      exact ih (c + 1) _ _ _ (by omega) (nI_1 c) (rg_ne (by decide) e38) (rg_eq e50) (fun t ht => by rw [cc]; exact up_lt hrn rfl ht) (fr_set hf (by decide))
  refine rM_start (by decide) (Nat.le_of_ble_eq_true rfl) ?_
  refine a_iconst (0) 1 dX12_readLaw_0 rfl (by decide) ?_
  refine a_istore_n 2 dX12_readLaw_1 rfl (by decide) ?_
  exact A 7 0 _ f _ (by omega) rfl hm h50 (fun t ht => absurd ht (by omega)) (fr_refl _ _)
end MLAW
