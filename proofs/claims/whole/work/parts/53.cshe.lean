/-! THE CLASS's calls on sheets -/
abbrev setS (T : Tn) (f : Int32) (z : Nat) (hb : Bool) (ln : Int32) (sz : Nat) (ce : Nat → Int32) : Tn := (T.1, T.2.1, T.2.2.1, T.2.2.2.1, ((fun q => if q = z then hb else T.has q), (fun q => if q = z then ln else T.ln q), (fun q => if q = z then sz else T.sz q), (fun q => if q = z then ce else T.ce q)), f, T.tr)
abbrev cutI (lane v : Int32) : Int32 := if lane = 0 then v.toInt8.toInt32 else if lane = 1 then v.toInt16.toInt32 else v
abbrev laneI (c : Int32) : Prop := 0 ≤ c ∧ c ≤ 2
abbrev hasC (sz : Nat) (i n : Int32) : Prop := 0 ≤ i ∧ i ≤ nI sz ∧ 0 ≤ n ∧ n ≤ nI sz - i
theorem all_S {G : rG} {h h' : rH} {T : Tn} (q : cAll G h T) {z : Nat} (hz : z < 4) {f : Int32} {hb : Bool} {ln : Int32} {sz : Nat} {ce : Nat → Int32} (e0 : h'[0]? = some (ytc G (nI T.m) (nI T.nl) f T.tr)) (e1 : h'[30 + 2 * z]? = some (.inr (8, [.ref (gN G + (31 + 2 * z)), .int (bI hb), .int ln, .int (nI sz)]))) (e2 : ∃ g, h'[31 + 2 * z]? = some (.inl (gA G 0, 60, .inl g)) ∧ ∀ k, k < sz → g k = ce k) (hf : kp h h' [0, 30 + 2 * z, 31 + 2 * z]) : cAll G h' (setS T f z hb ln sz ce) := by
  obtain ⟨⟨h0, h1, h2, h3, h4, h5, h6, ⟨⟨p, h7, h7'⟩, h8⟩⟩, q2, q3⟩ := q
  have mem : ∀ k ∈ [0, 30 + 2 * z, 31 + 2 * z], k = 0 ∨ (30 ≤ k ∧ k ≤ 37) := by
    intro k hk
    simp only [List.mem_cons, List.not_mem_nil, or_false] at hk
    omega
  have zz := cTxt.kp ⟨h1, h2⟩ hf (fun k hk => by have := mem k hk; omega)
  refine ⟨⟨e0, zz.1, zz.2, h3.kp hf (fun k hk => by have := mem k hk; omega), h4.kp hf (fun k hk => by have := mem k hk; omega), h5.kp hf (fun k hk => by have := mem k hk; omega), h6.kp hf (fun k hk => by have := mem k hk; omega), ⟨⟨p, kp_get hf (fun hk => by have := mem _ hk; omega) h7, h7'⟩, fun x hx => ?_⟩⟩, q2.kp hf (fun k hk => by have := mem k hk; omega), q3.kp hf (fun k hk => by have := mem k hk; omega)⟩
  by_cases e : x = z
  · subst e
    dsimp only
    rw [if_pos rfl, if_pos rfl, if_pos rfl, if_pos rfl]
    exact ⟨e1, e2⟩
  · dsimp only
    rw [if_neg e, if_neg e, if_neg e, if_neg e]
    obtain ⟨a, g, b, c⟩ := h8 x hx
    refine ⟨kp_get hf ?_ a, g, kp_get hf ?_ b, c⟩
    · simp only [List.mem_cons, List.not_mem_nil, or_false]; omega
    · simp only [List.mem_cons, List.not_mem_nil, or_false]; omega
theorem kp_S {h h' : rH} {z : Nat} (hz : z < 4) (hf : kp h h' [0, 30 + 2 * z, 31 + 2 * z]) : kp h h' cL := by
  refine kp_mono hf (fun k hk => ?_)
  simp only [List.mem_cons, List.not_mem_nil, or_false] at hk
  rcases (show z = 0 ∨ z = 1 ∨ z = 2 ∨ z = 3 by omega) with e | e | e | e <;> subst e <;> rcases hk with e | e | e <;> subst e <;> decide
theorem sh_at {G : rG} {h : rH} {T : Tn} (q : cAll G h T) {z : Nat} (hz : z < 4) : h[30 + 2 * z]? = some (.inr (8, [.ref (gN G + (31 + 2 * z)), .int (bI (T.has z)), .int (T.ln z), .int (nI (T.sz z))])) ∧ ∃ f, h[31 + 2 * z]? = some (.inl (gA G 0, 60, .inl f)) ∧ ∀ k, k < T.sz z → f k = T.ce z k := q.1.2.2.2.2.2.2.2.2 z hz
theorem bI_0 {b : Bool} : bI b = 0 ↔ b = false := by cases b <;> decide
theorem bI_n {b : Bool} : ¬ bI b = 0 ↔ b = true := by cases b <;> decide
def aLose (T : Tn) (c : Int32) : Int32 := match oT 4 c with
  | some z => bI (T.has z)
  | none => -1
def tLose (T : Tn) (c : Int32) : Tn := match oT 4 c with
  | some z => setS T T.fa z false (T.ln z) (T.sz z) (T.ce z)
  | none => T
def aSheet (T : Tn) (c d n : Int32) : Int32 := match oT 4 c with
  | some z => if laneI d ∧ n ≤ 60 then (if n < 0 then -14 else 1) else -2
  | none => -1
def tSheet (T : Tn) (c d n : Int32) : Tn := match oT 4 c with
  | some z => if laneI d ∧ n ≤ 60 then (if n < 0 then setFT T 4 T.tr else setS T 0 z true d n.toNatClampNeg (fun _ => 0)) else setFT T 0 T.tr
  | none => setFT T 0 T.tr
def aPut (T : Tn) (c i v : Int32) : Int32 := match oT 4 c with
  | some z => if T.has z then (match oT (T.sz z) i with
    | some k => 1
    | none => -13) else -11
  | none => -1
def tPut (T : Tn) (c i v : Int32) : Tn := match oT 4 c with
  | some z => if T.has z then (match oT (T.sz z) i with
    | some k => setS T 0 z true (T.ln z) (T.sz z) (upd (T.ce z) k (cutI (T.ln z) v))
    | none => setFT T 3 T.tr) else setFT T 1 T.tr
  | none => setFT T 0 T.tr
def cellF (T : Tn) (z : Nat) (i d : Int32) : Int32 := if T.has z then (if T.ln z = d then (match oT (T.sz z) i with
    | some _ => 0
    | none => 3) else 2) else 1
def aCell (T : Tn) (c i d : Int32) : Int64 := match oT 4 c with
  | some z => if laneI d then (if cellF T z i d = 0 then (T.ce z i.toNatClampNeg).toInt64 else lost64) else lost64
  | none => lost64
def tCell (T : Tn) (c i d : Int32) : Tn := match oT 4 c with
  | some z => if laneI d then setFT T (cellF T z i d) T.tr else setFT T 0 T.tr
  | none => setFT T 0 T.tr
/-- what refuses cells of a sheet: answer, fault -/
def refF (T : Tn) (c d i n : Int32) : Int32 × Int32 := match oT 4 c with
  | some z => if laneI d then (if T.has z then (if T.ln z = d then (if n < 0 then (-14, 4) else if hasC (T.sz z) i n then (0, 0) else (-13, 3)) else (-12, 2)) else (-11, 1)) else (-2, 0)
  | none => (-1, 0)
section CSHE
variable {l : Launch} {G : rG} {h : rH} {T : Tn}
set_option maxRecDepth 100000 in
set_option maxHeartbeats 400000 in
theorem k_X8_renew {a b : Nat} {hr lane len : Int32} {f : Nat → Int32} (hne : a ≠ b) (hc : h[a]? = some (.inr (8, [.ref (gN G + b), .int hr, .int lane, .int len]))) (hf : h[b]? = some (.inl (gA G 0, 60, .inl f))) (x y : Int32) : rM l G 0 mX8_renew 0 0 [.ref (gN G + a), .int x, .int y] h (fun h' v => v = none ∧ h'[a]? = some (.inr (8, [.ref (gN G + b), .int 1, .int x, .int y])) ∧ (∃ g, h'[b]? = some (.inl (gA G 0, 60, .inl g)) ∧ ∀ k, k < 60 → g k = 0) ∧ fr h h' [a, b]) := by
  refine rM_start (by decide) (Nat.le_of_ble_eq_true rfl) ?_
  have L : ∀ (r k : Nat) (g : Nat → Int32) (h1 : rH) (z : Int32), k + r = 60 → z = nI k → h1[a]? = some (.inr (8, [.ref (gN G + b), .int hr, .int lane, .int len])) → h1[b]? = some (.inl (gA G 0, 60, .inl g)) → (∀ i, i < k → g i = 0) → fr h h1 [a, b] → rW l G (rRm 0 0 0) mX8_renew (rZ G (fun h' v => v = none ∧ h'[a]? = some (.inr (8, [.ref (gN G + b), .int 1, .int x, .int y])) ∧ (∃ g, h'[b]? = some (.inl (gA G 0, 60, .inl g)) ∧ ∀ k, k < 60 → g k = 0) ∧ fr h h' [a, b]) 0 0) 0 0 2 [some (.ref (gN G + a)), some (.int x), some (.int y), some (.int z)] [] h1 := by
    intro r
    induction r with
    | zero =>
      intro k g h1 z hk hz hc1 hg hg0 hfr
      subst hz
      have e : k = 60 := by omega
      subst e
      refine a_iload_n 3 dX8_renew_2 rfl rfl ?_
      refine a_aload_n 4 dX8_renew_3 rfl rfl ?_
      refine a_get fd_X8_9 rfl 7 dX8_renew_4 rfl (by repeat (first | assumption | (refine rg_ne (by first | decide | omega) ?_) | apply rg_eq | refine rg_fr (by assumption) (by first | decide | (simp; omega)) ?_)) rfl ?_
      refine a_alen_0 8 dX8_renew_7 rfl (by repeat (first | assumption | (refine rg_ne (by first | decide | omega) ?_) | apply rg_eq | refine rg_fr (by assumption) (by first | decide | (simp; omega)) ?_)) ?_
      refine a_icmp_ge 24 11 dX8_renew_8 rfl (by decide) (fun c_8 => ?_) (fun c_8 => absurd (by decide) c_8)
      refine a_aload_n 25 dX8_renew_24 rfl rfl ?_
      refine a_iconst (1) 26 dX8_renew_25 rfl (by decide) ?_
      refine a_put fd_X8_15 cl_X8 rfl 29 dX8_renew_26 rfl (by repeat (first | assumption | (refine rg_ne (by first | decide | omega) ?_) | apply rg_eq | refine rg_fr (by assumption) (by first | decide | (simp; omega)) ?_)) (Nat.le_of_ble_eq_true rfl) rfl rfl rfl ?_
      refine a_aload_n 30 dX8_renew_29 rfl rfl ?_
      refine a_iload_n 31 dX8_renew_30 rfl rfl ?_
      refine a_put fd_X8_19 cl_X8 rfl 34 dX8_renew_31 rfl (by repeat (first | assumption | (refine rg_ne (by first | decide | omega) ?_) | apply rg_eq | refine rg_fr (by assumption) (by first | decide | (simp; omega)) ?_)) (Nat.le_of_ble_eq_true rfl) rfl rfl rfl ?_
      refine a_aload_n 35 dX8_renew_34 rfl rfl ?_
      refine a_iload_n 36 dX8_renew_35 rfl rfl ?_
      refine a_put fd_X8_23 cl_X8 rfl 39 dX8_renew_36 rfl (by repeat (first | assumption | (refine rg_ne (by first | decide | omega) ?_) | apply rg_eq | refine rg_fr (by assumption) (by first | decide | (simp; omega)) ?_)) (Nat.le_of_ble_eq_true rfl) rfl rfl rfl ?_
      exact a_return dX8_renew_39 rfl (Nat.le_of_ble_eq_true rfl) (Nat.le_of_ble_eq_true rfl) ⟨rfl, rg_eq (rg_eq (rg_eq hc1)), ⟨g, rg_ne hne (rg_ne hne (rg_ne hne hg)), hg0⟩, fr_set (fr_set (fr_set hfr (by simp)) (by simp)) (by simp)⟩
    | succ r ih =>
      intro k g h1 z hk hz hc1 hg hg0 hfr
      subst hz
      have vk : vp_in (nI k) 60 := vp_in_nI (by omega) (by decide)
      refine a_iload_n 3 dX8_renew_2 rfl rfl ?_
      refine a_aload_n 4 dX8_renew_3 rfl rfl ?_
      refine a_get fd_X8_9 rfl 7 dX8_renew_4 rfl (by repeat (first | assumption | (refine rg_ne (by first | decide | omega) ?_) | apply rg_eq | refine rg_fr (by assumption) (by first | decide | (simp; omega)) ?_)) rfl ?_
      refine a_alen_0 8 dX8_renew_7 rfl (by repeat (first | assumption | (refine rg_ne (by first | decide | omega) ?_) | apply rg_eq | refine rg_fr (by assumption) (by first | decide | (simp; omega)) ?_)) ?_
      refine a_icmp_ge 24 11 dX8_renew_8 rfl (by decide) (fun c_8 => absurd c_8 (nI_ge (a := k) (b := 60) (by omega) (by decide))) (fun c_8 => ?_)
      refine a_aload_n 12 dX8_renew_11 rfl rfl ?_
      refine a_get fd_X8_9 rfl 15 dX8_renew_12 rfl (by repeat (first | assumption | (refine rg_ne (by first | decide | omega) ?_) | apply rg_eq | refine rg_fr (by assumption) (by first | decide | (simp; omega)) ?_)) rfl ?_
      refine a_iload_n 16 dX8_renew_15 rfl rfl ?_
      refine a_iconst (0) 17 dX8_renew_16 rfl (by decide) ?_
      refine a_iastore 18 dX8_renew_17 rfl (by repeat (first | assumption | (refine rg_ne (by first | decide | omega) ?_) | apply rg_eq | refine rg_fr (by assumption) (by first | decide | (simp; omega)) ?_)) vk ?_
      refine a_iinc _ 21 dX8_renew_18 rfl rfl (by decide) rfl ?_
      refine a_goto 2 dX8_renew_21 (by decide) ?_
      exact ih (k + 1) _ _ _ (by omega) (nI_1 k) (rg_ne (fun e => hne e.symm) hc1) (by rw [nI_clamp (by omega)]; exact rg_eq hg) (up_0 hg0) (fr_set hfr (by simp))
  refine a_iconst (0) 1 dX8_renew_0 rfl (by decide) ?_
  refine a_istore_n 2 dX8_renew_1 rfl (by decide) ?_
  exact L 60 0 f _ _ (by omega) rfl hc hf (fun i hi => absurd hi (by omega)) (fr_refl _ _)
set_option maxRecDepth 100000 in
set_option maxHeartbeats 400000 in
theorem c_lose (q : cAll G h T) (c : Int32) : rM l G 12 mX11_lose 0 0 [.ref (gN G + 0), .int c] h (fun h' v => v = some (.int (aLose T c)) ∧ cAll G h' (tLose T c) ∧ kp h h' cL) := by
  have hy := q.1.1
  rcases oT_cases (n := 4) (by decide) c with ⟨e, hc⟩ | ⟨z, hz, rfl, e⟩
  · have ea : aLose T c = -1 := by unfold aLose; rw [e]
    have et : tLose T c = T := by unfold tLose; rw [e]
    refine rM_start (by decide) (Nat.le_of_ble_eq_true rfl) ?_
    refine a_aload_n 1 dX11_lose_0 rfl rfl ?_
    refine a_iload_n 2 dX11_lose_1 rfl rfl ?_
    refine a_callV ok_X11_sheetAt ln_X11_86 in_X11_sheetAt rfl 5 dX11_lose_2 rfl (c_sheetN q.1 hc) (by repeat (first | assumption | (refine rg_ne (by first | decide | omega) ?_) | apply rg_eq | refine rg_fr (by assumption) (by first | decide | (simp; omega)) ?_)) rfl rfl rfl ⟨(Nat.le_of_ble_eq_true rfl), (Nat.le_of_ble_eq_true rfl)⟩ (Nat.le_of_ble_eq_true rfl) ⟨(Nat.le_of_ble_eq_true rfl), (Nat.le_of_ble_eq_true rfl)⟩ ?_
    rintro _ _ ⟨rfl, rfl⟩
    refine a_astoreN_n 6 dX11_lose_5 rfl (by decide) ?_
    refine a_aloadN_n 7 dX11_lose_6 rfl rfl ?_
    refine a_ifnonnullN 10 dX11_lose_7 rfl ?_
    refine a_iconst (-1) 11 dX11_lose_10 rfl (by decide) ?_
    exact a_ireturn dX11_lose_11 rfl rfl (Nat.le_of_ble_eq_true rfl) (Nat.le_of_ble_eq_true rfl) ⟨by rw [ea], by rw [et]; exact q, fun _ _ _ => rfl⟩
  · have ea : aLose T (nI z) = bI (T.has z) := by unfold aLose; rw [e]
    have et : tLose T (nI z) = setS T T.fa z false (T.ln z) (T.sz z) (T.ce z) := by unfold tLose; rw [e]
    obtain ⟨hs, f, hf, hfx⟩ := sh_at q hz
    have hk : kp h (h.set (30 + 2 * z) (.inr (8, [.ref (gN G + (31 + 2 * z)), .int 0, .int (T.ln z), .int (nI (T.sz z))]))) [0, 30 + 2 * z, 31 + 2 * z] := kp_fr (fr_set (fr_refl _ _) (by simp))
    have qb : cAll G (h.set (30 + 2 * z) (.inr (8, [.ref (gN G + (31 + 2 * z)), .int 0, .int (T.ln z), .int (nI (T.sz z))]))) (setS T T.fa z false (T.ln z) (T.sz z) (T.ce z)) := all_S q hz (rg_ne (by omega) hy) (rg_eq hs) ⟨f, rg_ne (by omega) hf, hfx⟩ hk
    refine rM_start (by decide) (Nat.le_of_ble_eq_true rfl) ?_
    refine a_aload_n 1 dX11_lose_0 rfl rfl ?_
    refine a_iload_n 2 dX11_lose_1 rfl rfl ?_
    refine a_callV ok_X11_sheetAt ln_X11_86 in_X11_sheetAt rfl 5 dX11_lose_2 rfl (c_sheet q.1 hz) (by repeat (first | assumption | (refine rg_ne (by first | decide | omega) ?_) | apply rg_eq | refine rg_fr (by assumption) (by first | decide | (simp; omega)) ?_)) rfl rfl rfl ⟨(Nat.le_of_ble_eq_true rfl), (Nat.le_of_ble_eq_true rfl)⟩ (Nat.le_of_ble_eq_true rfl) ⟨(Nat.le_of_ble_eq_true rfl), (Nat.le_of_ble_eq_true rfl)⟩ ?_
    rintro _ _ ⟨rfl, rfl⟩
    refine a_astore_n 6 dX11_lose_5 rfl (by decide) ?_
    refine a_aload_n 7 dX11_lose_6 rfl rfl ?_
    refine a_ifnonnull 12 dX11_lose_7 (by decide) ?_
    refine a_aload_n 13 dX11_lose_12 rfl rfl ?_
    refine a_get fd_X11_329 rfl 16 dX11_lose_13 rfl (by repeat (first | assumption | (refine rg_ne (by first | decide | omega) ?_) | apply rg_eq | refine rg_fr (by assumption) (by first | decide | (simp; omega)) ?_)) rfl ?_
    refine a_if_eq 23 19 dX11_lose_16 rfl (by decide) (fun c_16 => ?_) (fun c_16 => ?_)
    · refine a_iconst (0) 24 dX11_lose_23 rfl (by decide) ?_
      refine a_istore_n 25 dX11_lose_24 rfl (by decide) ?_
      refine a_aload_n 26 dX11_lose_25 rfl rfl ?_
      refine a_iconst (0) 27 dX11_lose_26 rfl (by decide) ?_
      refine a_put fd_X11_329 cl_X8 rfl 30 dX11_lose_27 rfl (by repeat (first | assumption | (refine rg_ne (by first | decide | omega) ?_) | apply rg_eq | refine rg_fr (by assumption) (by first | decide | (simp; omega)) ?_)) (Nat.le_of_ble_eq_true rfl) rfl rfl rfl ?_
      refine a_iload_n 31 dX11_lose_30 rfl rfl ?_
      exact a_ireturn dX11_lose_31 rfl rfl (Nat.le_of_ble_eq_true rfl) (Nat.le_of_ble_eq_true rfl) ⟨by rw [ea, bI_0.mp c_16]; rfl, by rw [et]; exact qb, kp_S hz hk⟩
    · refine a_iconst (1) 20 dX11_lose_19 rfl (by decide) ?_
      refine a_goto 24 dX11_lose_20 (by decide) ?_
      refine a_istore_n 25 dX11_lose_24 rfl (by decide) ?_
      refine a_aload_n 26 dX11_lose_25 rfl rfl ?_
      refine a_iconst (0) 27 dX11_lose_26 rfl (by decide) ?_
      refine a_put fd_X11_329 cl_X8 rfl 30 dX11_lose_27 rfl (by repeat (first | assumption | (refine rg_ne (by first | decide | omega) ?_) | apply rg_eq | refine rg_fr (by assumption) (by first | decide | (simp; omega)) ?_)) (Nat.le_of_ble_eq_true rfl) rfl rfl rfl ?_
      refine a_iload_n 31 dX11_lose_30 rfl rfl ?_
      exact a_ireturn dX11_lose_31 rfl rfl (Nat.le_of_ble_eq_true rfl) (Nat.le_of_ble_eq_true rfl) ⟨by rw [ea, bI_n.mp c_16]; rfl, by rw [et]; exact qb, kp_S hz hk⟩
end CSHE
