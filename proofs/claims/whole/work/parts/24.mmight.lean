/-! THE MODEL's ones and laws, in numbers -/
/-- who is seen from seat c (the model's array) -/
def seenM (nb : Nat → Nat → Option Nat) (bl : Nat → Nat → Int32) (mir : Bool) (face : Nat → Nat) (c : Nat) : Nat → Int32 := (lineM nb bl mir (face c) c).getD (fun _ => 0)
/-- the model's carriage, with lines that end -/
def mcAt (G : rG) (h : rH) (i : Nat → Int32) (j : Nat → Int64) (nb : Nat → Nat → Option Nat) (bR bB : Nat → Int32) (wi n : Nat) (mir : Bool) (face : Nat → Nat) : Prop :=
  (∃ f, mgAt G h i j f bR bB nb wi) ∧ n ≤ 32 ∧ i 1 * i 2 = nI n ∧ i 3 = (if mir then 1 else 0) ∧ h[39]? = some (.inl (gA G 0, 32, .inl (fun c => nI (face c)))) ∧ (∀ c, face c < 4) ∧
  (∃ s, h[44]? = some (.inl (gA G 1, 32, .inl s)) ∧ ∀ d, n ≤ d → s d = 0) ∧ (∀ c, c < n → ∃ s, lineM nb (blM bR bB wi) mir (face c) c = some s ∧ isB s ∧ ∀ d, n ≤ d → s d = 0)
/-- behind a line: only the array of who is seen has changed -/
theorem mcAt.line {G : rG} {h h' : rH} {i : Nat → Int32} {j : Nat → Int64} {nb : Nat → Nat → Option Nat} {bR bB : Nat → Int32} {wi n : Nat} {mir : Bool} {face : Nat → Nat} (q : mcAt G h i j nb bR bB wi n mir face) {s : Nat → Int32} (hs : h'[44]? = some (.inl (gA G 1, 32, .inl s))) (h0 : ∀ d, n ≤ d → s d = 0) {S : List Nat} (hf : fr h h' S) (h1 : 38 ∉ S) (h2 : 43 ∉ S) (h3 : 40 ∉ S) (h4 : 41 ∉ S) (h5 : 39 ∉ S) : mcAt G h' i j nb bR bB wi n mir face := by
  obtain ⟨⟨f, q1⟩, q2, q3, q4, q5, q6, q7, q8⟩ := q
  exact ⟨⟨f, q1.fr hf h1 h2 h3 h4⟩, q2, q3, q4, rg_fr hf h5 q5, q6, ⟨s, hs, h0⟩, q8⟩
theorem mcAt.fr {G : rG} {h h' : rH} {i : Nat → Int32} {j : Nat → Int64} {nb : Nat → Nat → Option Nat} {bR bB : Nat → Int32} {wi n : Nat} {mir : Bool} {face : Nat → Nat} (q : mcAt G h i j nb bR bB wi n mir face) {S : List Nat} (hf : fr h h' S) (h1 : 38 ∉ S) (h2 : 43 ∉ S) (h3 : 40 ∉ S) (h4 : 41 ∉ S) (h5 : 39 ∉ S) (h6 : 44 ∉ S) : mcAt G h' i j nb bR bB wi n mir face := by
  obtain ⟨s, hs, h0⟩ := q.2.2.2.2.2.2.1
  exact q.line (rg_fr hf h6 hs) h0 hf h1 h2 h3 h4 h5
/-- the model's ones: m of them; kind, seat, slept, kin -/
def moAt (G : rG) (h : rH) (i : Nat → Int32) (j : Nat → Int64) (n m : Nat) (kd se sl ki : Nat → Nat) : Prop :=
  h[38]? = some (mo G i j) ∧ i 15 = nI m ∧ m ≤ 12 ∧ (∃ f, h[45]? = some (.inl (gA G 0, 12, .inl f)) ∧ ∀ x, x < m → f x = nI (kd x) ∧ kd x < 3) ∧ (∃ f, h[46]? = some (.inl (gA G 0, 12, .inl f)) ∧ ∀ x, x < m → f x = nI (se x) ∧ se x < n) ∧
  (∃ f, h[47]? = some (.inl (gA G 0, 12, .inl f)) ∧ ∀ x, x < m → f x = nI (sl x) ∧ sl x < 10) ∧ (∃ f, h[48]? = some (.inl (gA G 0, 12, .inl f)) ∧ ∀ x, x < m → f x = nI (ki x) ∧ ki x < 10)
theorem moAt.fr {G : rG} {h h' : rH} {i : Nat → Int32} {j : Nat → Int64} {n m : Nat} {kd se sl ki : Nat → Nat} (q : moAt G h i j n m kd se sl ki) {S : List Nat} (hf : fr h h' S) (h1 : 38 ∉ S) (h2 : 45 ∉ S) (h3 : 46 ∉ S) (h4 : 47 ∉ S) (h5 : 48 ∉ S) : moAt G h' i j n m kd se sl ki := by
  obtain ⟨q1, q2, q3, ⟨f4, q4, q4'⟩, ⟨f5, q5, q5'⟩, ⟨f6, q6, q6'⟩, ⟨f7, q7, q7'⟩⟩ := q
  exact ⟨rg_fr hf h1 q1, q2, q3, ⟨f4, rg_fr hf h2 q4, q4'⟩, ⟨f5, rg_fr hf h3 q5, q5'⟩, ⟨f6, rg_fr hf h4 q6, q6'⟩, ⟨f7, rg_fr hf h5 q7, q7'⟩⟩
/-- the model's laws: nl of them, of seven numbers -/
def mlAt (G : rG) (h : rH) (i : Nat → Int32) (j : Nat → Int64) (nl : Nat) (nu : Nat → Nat → Nat) : Prop :=
  h[38]? = some (mo G i j) ∧ i 20 = nI nl ∧ nl ≤ 6 ∧ ∃ f, h[49]? = some (.inl (gA G 0, 42, .inl f)) ∧ ∀ l w, l < nl → w < 7 → f (7 * l + w) = nI (nu l w) ∧ nu l w < 10
theorem mlAt.fr {G : rG} {h h' : rH} {i : Nat → Int32} {j : Nat → Int64} {nl : Nat} {nu : Nat → Nat → Nat} (q : mlAt G h i j nl nu) {S : List Nat} (hf : fr h h' S) (h1 : 38 ∉ S) (h2 : 49 ∉ S) : mlAt G h' i j nl nu := by
  obtain ⟨q1, q2, q3, f, q4, q5⟩ := q
  exact ⟨rg_fr hf h1 q1, q2, q3, f, rg_fr hf h2 q4, q5⟩
/-- the seats have a gap between them -/
abbrev hearM (nb : Nat → Nat → Option Nat) (c d : Nat) : Bool := gapB nb c d 4
abbrev seesM (nb : Nat → Nat → Option Nat) (bl : Nat → Nat → Int32) (mir : Bool) (face se : Nat → Nat) (x y : Nat) : Prop := x ≠ y ∧ ¬ seenM nb bl mir face (se x) (se y) = 0
/-- what one of a kind takes of a might -/
def takenN (kd : Nat) (alike : Bool) (its young : Nat) : Nat := if kd = 0 then its else if kd = 2 ∧ alike = false then 0 else its * young / 9
section MMIGHT
variable {l : Launch} {G : rG} {h : rH} {i : Nat → Int32} {j : Nat → Int64} {bR bB : Nat → Int32} {nb : Nat → Nat → Option Nat} {wi n m nl : Nat} {mir : Bool} {face kd se sl ki : Nat → Nat} {nu : Nat → Nat → Nat}
theorem k_X12_ofN (hl : mlAt G h i j nl nu) {z w : Nat} (hz : z < nl) (hw : w < 7) : rM l G 0 mX12_of 0 0 [.ref (gN G + 38), .int (nI z), .int (nI w)] h (rV h (some (.int (nI (nu z w))))) := by
  obtain ⟨q1, q2, q3, f, q4, q5⟩ := hl
  have e : (7 : Int32) * nI z + nI w = nI (7 * z + w) := by
    rw [show (7 : Int32) = nI 7 from rfl, pk_mul, nI_add]
  have h0 := k_X12_of (l := l) q1 q4 (nI z) (nI w) (by rw [e]; exact vp_in_nI (by omega) (by decide))
  rw [e, nI_clamp (by omega), (q5 z w hz hw).1] at h0
  exact h0
set_option maxRecDepth 100000 in
set_option maxHeartbeats 400000 in
theorem k_X12_doesHear (hc : mcAt G h i j nb bR bB wi n mir face) (ho : moAt G h i j n m kd se sl ki) {x y : Nat} (hx : x < m) (hy : y < m) : rM l G 2 mX12_doesHear 0 0 [.ref (gN G + 38), .int (nI x), .int (nI y)] h (rV h (some (.int (if hearM nb (se x) (se y) then 1 else 0)))) := by
  obtain ⟨⟨f, hg⟩, hn, -⟩ := hc
  obtain ⟨hm, -, hm12, -, ⟨f5, q5, q5'⟩, -⟩ := ho
  have vx : vp_in (nI x) 12 := vp_in_nI (by omega) (by decide)
  have vy : vp_in (nI y) 12 := vp_in_nI (by omega) (by decide)
  have ex := q5' x hx
  have ey := q5' y hy
  refine rM_start (by decide) (Nat.le_of_ble_eq_true rfl) ?_
  refine a_aload_n 1 dX12_doesHear_0 rfl rfl ?_
  refine a_aload_n 2 dX12_doesHear_1 rfl rfl ?_
  refine a_get fd_X12_32 rfl 5 dX12_doesHear_2 rfl (by repeat (first | assumption | (refine rg_ne (by first | decide | omega) ?_) | apply rg_eq | refine rg_fr (by assumption) (by first | decide | (simp; omega)) ?_)) rfl ?_
  refine a_iload_n 6 dX12_doesHear_5 rfl rfl ?_
  refine a_iaload 7 dX12_doesHear_6 rfl (by repeat (first | assumption | (refine rg_ne (by first | decide | omega) ?_) | apply rg_eq | refine rg_fr (by assumption) (by first | decide | (simp; omega)) ?_)) (by assumption) ?_
  refine a_aload_n 8 dX12_doesHear_7 rfl rfl ?_
  refine a_get fd_X12_32 rfl 11 dX12_doesHear_8 rfl (by repeat (first | assumption | (refine rg_ne (by first | decide | omega) ?_) | apply rg_eq | refine rg_fr (by assumption) (by first | decide | (simp; omega)) ?_)) rfl ?_
  refine a_iload_n 12 dX12_doesHear_11 rfl rfl ?_
  refine a_iaload 13 dX12_doesHear_12 rfl (by repeat (first | assumption | (refine rg_ne (by first | decide | omega) ?_) | apply rg_eq | refine rg_fr (by assumption) (by first | decide | (simp; omega)) ?_)) (by assumption) ?_
  rw [nI_clamp (by omega), nI_clamp (by omega), ex.1, ey.1]
  refine a_callV ok_X12_isGap ln_X12_185 in_X12_isGap rfl 16 dX12_doesHear_13 rfl (k_X12_isGap hm hg.2.2.2.1 hg.2.2.2.2.1 (by omega) (by omega)) (by repeat (first | assumption | (refine rg_ne (by first | decide | omega) ?_) | apply rg_eq | refine rg_fr (by assumption) (by first | decide | (simp; omega)) ?_)) rfl rfl rfl ⟨(Nat.le_of_ble_eq_true rfl), (Nat.le_of_ble_eq_true rfl)⟩ (Nat.le_of_ble_eq_true rfl) ⟨(Nat.le_of_ble_eq_true rfl), (Nat.le_of_ble_eq_true rfl)⟩ ?_
  rintro _ _ ⟨rfl, rfl⟩
  exact a_ireturn dX12_doesHear_16 rfl (nb01 (by split <;> simp)) (Nat.le_of_ble_eq_true rfl) (Nat.le_of_ble_eq_true rfl) ⟨rfl, rfl⟩
set_option maxRecDepth 100000 in
set_option maxHeartbeats 400000 in
theorem k_X12_doesSee (hc : mcAt G h i j nb bR bB wi n mir face) (ho : moAt G h i j n m kd se sl ki) {x y : Nat} (hx : x < m) (hy : y < m) : rM l G 3 mX12_doesSee 0 0 [.ref (gN G + 38), .int (nI x), .int (nI y)] h (fun h' v => v = some (.int (if seesM nb (blM bR bB wi) mir face se x y then 1 else 0)) ∧ mcAt G h' i j nb bR bB wi n mir face ∧ fr h h' [44]) := by
  have hc0 := hc
  obtain ⟨⟨f, hg⟩, hn, hsn, hmi, hfa, hf4, ⟨s, hs, hs0⟩, hL⟩ := hc
  obtain ⟨hm, -, hm12, -, ⟨f5, q5, q5'⟩, -⟩ := ho
  have vx : vp_in (nI x) 12 := vp_in_nI (by omega) (by decide)
  have vy : vp_in (nI y) 12 := vp_in_nI (by omega) (by decide)
  have ex := q5' x hx
  have ey := q5' y hy
  obtain ⟨s', hL', hB', h0'⟩ := hL (se x) ex.2
  have hsm : seenM nb (blM bR bB wi) mir face (se x) = s' := by unfold seenM; rw [hL']; rfl
  have hne : nI x = nI y ↔ x = y := nI_eq (by omega) (by omega)
  refine rM_start (by decide) (Nat.le_of_ble_eq_true rfl) ?_
  refine a_aload_n 1 dX12_doesSee_0 rfl rfl ?_
  refine a_aload_n 2 dX12_doesSee_1 rfl rfl ?_
  refine a_get fd_X12_32 rfl 5 dX12_doesSee_2 rfl (by repeat (first | assumption | (refine rg_ne (by first | decide | omega) ?_) | apply rg_eq | refine rg_fr (by assumption) (by first | decide | (simp; omega)) ?_)) rfl ?_
  refine a_iload_n 6 dX12_doesSee_5 rfl rfl ?_
  refine a_iaload 7 dX12_doesSee_6 rfl (by repeat (first | assumption | (refine rg_ne (by first | decide | omega) ?_) | apply rg_eq | refine rg_fr (by assumption) (by first | decide | (simp; omega)) ?_)) (by assumption) ?_
  rw [nI_clamp (by omega), ex.1]
  refine a_callV ok_X12_layLine ln_X12_178 in_X12_layLine rfl 10 dX12_doesSee_7 rfl (k_X12_layLine hg hn hsn hmi hfa (by omega) (hf4 _) rfl hs hs0 hL') (by repeat (first | assumption | (refine rg_ne (by first | decide | omega) ?_) | apply rg_eq | refine rg_fr (by assumption) (by first | decide | (simp; omega)) ?_)) rfl rfl rfl ⟨(Nat.le_of_ble_eq_true rfl), (Nat.le_of_ble_eq_true rfl)⟩ (Nat.le_of_ble_eq_true rfl) ⟨(Nat.le_of_ble_eq_true rfl), (Nat.le_of_ble_eq_true rfl)⟩ ?_
  rintro h1 v ⟨rfl, hs1, hf1⟩
  refine a_iload_n 11 dX12_doesSee_10 rfl rfl ?_
  refine a_iload_n 12 dX12_doesSee_11 rfl rfl ?_
  refine a_icmp_eq 33 15 dX12_doesSee_12 rfl (by decide) (fun c_12 => ?_) (fun c_12 => ?_)
  · refine a_iconst (0) 34 dX12_doesSee_33 rfl (by decide) ?_
    exact a_ireturn dX12_doesSee_34 rfl rfl (Nat.le_of_ble_eq_true rfl) (Nat.le_of_ble_eq_true rfl) ⟨by rw [if_neg (fun q => q.1 (hne.mp c_12))], hc0.line hs1 h0' hf1 (by decide) (by decide) (by decide) (by decide) (by decide), hf1⟩
  · refine a_aload_n 16 dX12_doesSee_15 rfl rfl ?_
    refine a_get fd_X12_26 rfl 19 dX12_doesSee_16 rfl (by repeat (first | assumption | (refine rg_ne (by first | decide | omega) ?_) | apply rg_eq | refine rg_fr (by assumption) (by first | decide | (simp; omega)) ?_)) rfl ?_
    refine a_aload_n 20 dX12_doesSee_19 rfl rfl ?_
    refine a_get fd_X12_32 rfl 23 dX12_doesSee_20 rfl (by repeat (first | assumption | (refine rg_ne (by first | decide | omega) ?_) | apply rg_eq | refine rg_fr (by assumption) (by first | decide | (simp; omega)) ?_)) rfl ?_
    refine a_iload_n 24 dX12_doesSee_23 rfl rfl ?_
    refine a_iaload 25 dX12_doesSee_24 rfl (by repeat (first | assumption | (refine rg_ne (by first | decide | omega) ?_) | apply rg_eq | refine rg_fr (by assumption) (by first | decide | (simp; omega)) ?_)) (by assumption) ?_
    rw [nI_clamp (by omega), ey.1]
    refine a_baload 26 dX12_doesSee_25 rfl (by repeat (first | assumption | (refine rg_ne (by first | decide | omega) ?_) | apply rg_eq | refine rg_fr (by assumption) (by first | decide | (simp; omega)) ?_)) (vp_in_nI (by omega) (by decide)) ?_
    rw [nI_clamp (by omega)]
    refine a_if_eq 33 29 dX12_doesSee_26 rfl (by decide) (fun c_26 => ?_) (fun c_26 => ?_)
    · refine a_iconst (0) 34 dX12_doesSee_33 rfl (by decide) ?_
      exact a_ireturn dX12_doesSee_34 rfl rfl (Nat.le_of_ble_eq_true rfl) (Nat.le_of_ble_eq_true rfl) ⟨by rw [if_neg (fun q => q.2 (by rw [hsm]; exact c_26))], hc0.line hs1 h0' hf1 (by decide) (by decide) (by decide) (by decide) (by decide), hf1⟩
    · refine a_iconst (1) 30 dX12_doesSee_29 rfl (by decide) ?_
      refine a_goto 34 dX12_doesSee_30 (by decide) ?_
      exact a_ireturn dX12_doesSee_34 rfl rfl (Nat.le_of_ble_eq_true rfl) (Nat.le_of_ble_eq_true rfl) ⟨by rw [if_pos ⟨fun q => c_12 (hne.mpr q), by rw [hsm]; exact c_26⟩], hc0.line hs1 h0' hf1 (by decide) (by decide) (by decide) (by decide) (by decide), hf1⟩
end MMIGHT
