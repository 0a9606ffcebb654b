/-! THE CLASS: bare yawns, who mends them, spread -/
theorem i_gtN {a b : Nat} (ha : a < 2 ^ 31) (hb : b < 2 ^ 31) : nI a < nI b ↔ a < b := nI_ltI ha hb
/-- how the minutes and ones that mend are told, one by one: how many, the first one's minute and number -/
abbrev misS : Type := Nat × Int32 × Int32
def misY (T : Tn) (z t : Nat) : Nat → misS → misS
  | 0, s => s
  | y + 1, s => if menT T z t y then (if (misY T z t y s).1 = 0 then (1, nI t, nI y) else ((misY T z t y s).1 + 1, (misY T z t y s).2)) else misY T z t y s
def misT (T : Tn) (z lo : Nat) : Nat → misS → misS
  | 0, s => s
  | k + 1, s => misY T z (lo + k) T.m (misT T z lo k s)
theorem misY_le (T : Tn) (z t : Nat) : ∀ y s, (misY T z t y s).1 ≤ s.1 + y
  | 0, s => Nat.le_refl _
  | y + 1, s => by
    have h := misY_le T z t y s
    rw [misY]
    split
    · split
      · show 1 ≤ _; omega
      · show (misY T z t y s).1 + 1 ≤ _; omega
    · omega
theorem misT_le (T : Tn) (z lo : Nat) : ∀ k s, (misT T z lo k s).1 ≤ s.1 + k * T.m
  | 0, s => by simp [misT]
  | k + 1, s => by
    have h := misT_le T z lo k s
    have h2 := misY_le T z (lo + k) T.m (misT T z lo k s)
    rw [misT, Nat.add_mul]
    omega
theorem up_B {f : Nat → Int32} {j : Nat} {P : Nat → Int32} {x : Int32} (h : ∀ i, i < j → f i = P i) (hx : x = P j) : ∀ i, i < j + 1 → upd f j x i = P i := by
  intro i hi
  by_cases e : i = j
  · subst e; rw [pk_us]; exact hx
  · rw [pk_un e]; exact h i (by omega)
theorem men_t {T : Tn} {z a x t y : Nat} (h1 : t + T.nu z 5 ≤ a ∧ a ≤ t + T.nu z 6) (h2 : ¬ mz T z x y = 0) : 0 < fromN T.nu (T.mi z) z a x t y := by
  unfold fromN
  unfold mz at h2
  by_cases e : x = y
  · rw [if_pos e] at h2; exact absurd rfl h2
  · rw [if_neg e] at h2
    rw [if_pos ⟨e, h1⟩]
    exact Nat.pos_of_ne_zero h2
theorem men_f1 {T : Tn} {z a x t y : Nat} (h1 : ¬ (t + T.nu z 5 ≤ a ∧ a ≤ t + T.nu z 6)) : ¬ 0 < fromN T.nu (T.mi z) z a x t y := by
  unfold fromN
  rw [if_neg (fun q => h1 q.2)]
  omega
theorem men_f2 {T : Tn} {z a x t y : Nat} (h2 : mz T z x y = 0) : ¬ 0 < fromN T.nu (T.mi z) z a x t y := by
  unfold fromN
  unfold mz at h2
  by_cases e : x = y
  · rw [if_neg (fun q => q.1 e)]; omega
  · rw [if_neg e] at h2
    split
    · omega
    · omega
section CMISS
variable {l : Launch} {G : rG} {h : rH} {T : Tn} {z : Nat}
set_option maxRecDepth 100000 in
set_option maxHeartbeats 400000 in
theorem k_X11_markBare (q : wgAt G h T z) (o : T.ok) (hr : ∃ f, h[29]? = some (.inl (gA G 1, 24, .inl f))) : rM l G 5 mX11_markBare 0 0 [.ref (gN G + 0), .ref (gN G + T.la z)] h (fun h' v => v = some (.int (noI (barT T z))) ∧ fr h h' [29] ∧ ∃ f, h'[29]? = some (.inl (gA G 1, 24, .inl f)) ∧ ∀ j, j < T.ny → f j = if T.all z j = 0 then 1 else 0) := by
  have hny := o.ny24
  have hz := q.2.1
  obtain ⟨f0, hf0⟩ := hr
  refine rM_start (by decide) (Nat.le_of_ble_eq_true rfl) ?_
  have L : ∀ (r j : Nat) (f : Nat → Int32) (h1 : rH) (s y : Int32), j + r = T.ny → s = noI (firstN (fun q => decide (T.all z q = 0)) j 0) → y = nI j → h1[29]? = some (.inl (gA G 1, 24, .inl f)) → (∀ i, i < j → f i = if T.all z i = 0 then 1 else 0) → fr h h1 [29] → rW l G (rRm 5 0 0) mX11_markBare (rZ G (fun h' v => v = some (.int (noI (barT T z))) ∧ fr h h' [29] ∧ ∃ f, h'[29]? = some (.inl (gA G 1, 24, .inl f)) ∧ ∀ j, j < T.ny → f j = if T.all z j = 0 then 1 else 0) 0 0) 0 0 5 [some (.ref (gN G + 0)), some (.ref (gN G + T.la z)), some (.int s), some (.int y)] [] h1 := by
    intro r
    induction r with
    | zero =>
      intro j f h1 s y hj hs hy hf hfx hfr
      subst hy; subst hs
      have e : j = T.ny := by omega
      subst e
      have q1 := q.kp (kp_fr hfr) (by decide) (by decide) (by decide)
      have hy1 := q1.1.1
      have r1 := (wg_row q1).1
      refine a_iload_n 6 dX11_markBare_5 rfl rfl ?_
      refine a_aload_n 7 dX11_markBare_6 rfl rfl ?_
      refine a_get fd_X11_53 rfl 10 dX11_markBare_7 rfl (by repeat (first | assumption | (refine rg_ne (by first | decide | omega) ?_) | apply rg_eq | refine rg_fr (by assumption) (by first | decide | (simp; omega)) ?_)) rfl ?_
      refine a_get fd_X11_195 rfl 13 dX11_markBare_10 rfl (by repeat (first | assumption | (refine rg_ne (by first | decide | omega) ?_) | apply rg_eq | refine rg_fr (by assumption) (by first | decide | (simp; omega)) ?_)) rfl ?_
      refine a_icmp_ge 68 16 dX11_markBare_13 rfl (by decide) (fun c_13 => ?_) (fun c_13 => absurd (Int32.le_refl _) c_13)
      refine a_iload_n 69 dX11_markBare_68 rfl rfl ?_
      exact a_ireturn dX11_markBare_69 rfl rfl (Nat.le_of_ble_eq_true rfl) (Nat.le_of_ble_eq_true rfl) ⟨rfl, hfr, f, hf, hfx⟩
    | succ r ih =>
      intro j f h1 s y hj hs hy hf hfx hfr
      subst hy; subst hs
      have q1 := q.kp (kp_fr hfr) (by decide) (by decide) (by decide)
      have hy1 := q1.1.1
      have r1 := (wg_row q1).1
      have vj : vp_in (nI j) 24 := vp_in_nI (by omega) (by decide)
      have hle := nI_le0 (k := T.all z j) (by have := all_lt o (q := j) hz (by omega); omega)
      have e0 : (nI j).toNatClampNeg = j := nI_clamp (by omega)
      cases hb : firstN (fun q => decide (T.all z q = 0)) j 0 with
      | none =>
        have hno := fun i (hi : i < j) => firstN_no hb i (Nat.zero_le _) (by omega)
        by_cases ha : T.all z j = 0
        · skip
          refine a_iload_n 6 dX11_markBare_5 rfl rfl ?_
          refine a_aload_n 7 dX11_markBare_6 rfl rfl ?_
          refine a_get fd_X11_53 rfl 10 dX11_markBare_7 rfl (by repeat (first | assumption | (refine rg_ne (by first | decide | omega) ?_) | apply rg_eq | refine rg_fr (by assumption) (by first | decide | (simp; omega)) ?_)) rfl ?_
          refine a_get fd_X11_195 rfl 13 dX11_markBare_10 rfl (by repeat (first | assumption | (refine rg_ne (by first | decide | omega) ?_) | apply rg_eq | refine rg_fr (by assumption) (by first | decide | (simp; omega)) ?_)) rfl ?_
          refine a_icmp_ge 68 16 dX11_markBare_13 rfl (by decide) (fun c_13 => absurd c_13 (nI_ge (a := j) (b := T.ny) (by omega) (by omega))) (fun c_13 => ?_)
          refine a_iload_n 17 dX11_markBare_16 rfl rfl ?_
          refine a_aload_n 18 dX11_markBare_17 rfl rfl ?_
          refine a_get fd_X11_77 rfl 21 dX11_markBare_18 rfl (by repeat (first | assumption | (refine rg_ne (by first | decide | omega) ?_) | apply rg_eq | refine rg_fr (by assumption) (by first | decide | (simp; omega)) ?_)) rfl ?_
          refine a_alen_1 22 dX11_markBare_21 rfl (by repeat (first | assumption | (refine rg_ne (by first | decide | omega) ?_) | apply rg_eq | refine rg_fr (by assumption) (by first | decide | (simp; omega)) ?_)) ?_
          refine a_icmp_ge 68 25 dX11_markBare_22 rfl (by decide) (fun c_22 => absurd c_22 (nI_ge (a := j) (b := 24) (by omega) (by decide))) (fun c_22 => ?_)
          refine a_aload_n 26 dX11_markBare_25 rfl rfl ?_
          refine a_get fd_X11_77 rfl 29 dX11_markBare_26 rfl (by repeat (first | assumption | (refine rg_ne (by first | decide | omega) ?_) | apply rg_eq | refine rg_fr (by assumption) (by first | decide | (simp; omega)) ?_)) rfl ?_
          refine a_iload_n 30 dX11_markBare_29 rfl rfl ?_
          refine a_aload_n 31 dX11_markBare_30 rfl rfl ?_
          refine a_aload_n 32 dX11_markBare_31 rfl rfl ?_
          refine a_iload_n 33 dX11_markBare_32 rfl rfl ?_
          refine a_callV ok_X11_wholeMight ln_X11_226 in_X11_wholeMight rfl 36 dX11_markBare_33 rfl (k_X11_wholeMight q1 o (by omega)) (by repeat (first | assumption | (refine rg_ne (by first | decide | omega) ?_) | apply rg_eq | refine rg_fr (by assumption) (by first | decide | (simp; omega)) ?_)) rfl rfl rfl ⟨(Nat.le_of_ble_eq_true rfl), (Nat.le_of_ble_eq_true rfl)⟩ (Nat.le_of_ble_eq_true rfl) ⟨(Nat.le_of_ble_eq_true rfl), (Nat.le_of_ble_eq_true rfl)⟩ ?_
          rintro _ _ ⟨rfl, rfl⟩
          refine a_if_gt 43 39 dX11_markBare_36 rfl (by decide) (fun c_36 => absurd (hle.mpr ha) (Int32.not_le.mpr c_36)) (fun c_36 => ?_)
          refine a_iconst (1) 40 dX11_markBare_39 rfl (by decide) ?_
          refine a_goto 44 dX11_markBare_40 (by decide) ?_
          refine a_bastore 45 dX11_markBare_44 rfl (by repeat (first | assumption | (refine rg_ne (by first | decide | omega) ?_) | apply rg_eq | refine rg_fr (by assumption) (by first | decide | (simp; omega)) ?_)) vj ?_
          refine a_aload_n 46 dX11_markBare_45 rfl rfl ?_
          refine a_get fd_X11_77 rfl 49 dX11_markBare_46 rfl (by repeat (first | assumption | (refine rg_ne (by first | decide | omega) ?_) | apply rg_eq | refine rg_fr (by assumption) (by first | decide | (simp; omega)) ?_)) rfl ?_
          refine a_iload_n 50 dX11_markBare_49 rfl rfl ?_
          refine a_baload 51 dX11_markBare_50 rfl (by repeat (first | assumption | (refine rg_ne (by first | decide | omega) ?_) | apply rg_eq | refine rg_fr (by assumption) (by first | decide | (simp; omega)) ?_)) vj ?_
          rw [pk_us]
          refine a_if_eq 62 54 dX11_markBare_51 rfl (by decide) (fun c_51 => absurd c_51 (by decide)) (fun c_51 => ?_)
          refine a_iload_n 55 dX11_markBare_54 rfl rfl ?_
          refine a_bipush (-9) 57 dX11_markBare_55 rfl (by decide) ?_
          refine a_icmp_ne 62 60 dX11_markBare_57 rfl (by decide) (fun c_57 => absurd rfl c_57) (fun c_57 => ?_)
          refine a_iload_n 61 dX11_markBare_60 rfl rfl ?_
          refine a_istore_n 62 dX11_markBare_61 rfl (by decide) ?_
          refine a_iinc _ 65 dX11_markBare_62 rfl rfl (by decide) rfl ?_
          refine a_goto 5 dX11_markBare_65 (by decide) ?_
          exact ih (j + 1) _ _ _ _ (by omega) (by rw [firstN_some (k := j) (by omega) (by omega) (decide_eq_true ha) (fun i h1 h2 => hno i h2)]) (nI_1 j) (by rw [e0]; exact rg_eq hf) (up_B hfx (by rw [if_pos ha]; rfl)) (fr_set hfr (by decide))
        · skip
          refine a_iload_n 6 dX11_markBare_5 rfl rfl ?_
          refine a_aload_n 7 dX11_markBare_6 rfl rfl ?_
          refine a_get fd_X11_53 rfl 10 dX11_markBare_7 rfl (by repeat (first | assumption | (refine rg_ne (by first | decide | omega) ?_) | apply rg_eq | refine rg_fr (by assumption) (by first | decide | (simp; omega)) ?_)) rfl ?_
          refine a_get fd_X11_195 rfl 13 dX11_markBare_10 rfl (by repeat (first | assumption | (refine rg_ne (by first | decide | omega) ?_) | apply rg_eq | refine rg_fr (by assumption) (by first | decide | (simp; omega)) ?_)) rfl ?_
          refine a_icmp_ge 68 16 dX11_markBare_13 rfl (by decide) (fun c_13 => absurd c_13 (nI_ge (a := j) (b := T.ny) (by omega) (by omega))) (fun c_13 => ?_)
          refine a_iload_n 17 dX11_markBare_16 rfl rfl ?_
          refine a_aload_n 18 dX11_markBare_17 rfl rfl ?_
          refine a_get fd_X11_77 rfl 21 dX11_markBare_18 rfl (by repeat (first | assumption | (refine rg_ne (by first | decide | omega) ?_) | apply rg_eq | refine rg_fr (by assumption) (by first | decide | (simp; omega)) ?_)) rfl ?_
          refine a_alen_1 22 dX11_markBare_21 rfl (by repeat (first | assumption | (refine rg_ne (by first | decide | omega) ?_) | apply rg_eq | refine rg_fr (by assumption) (by first | decide | (simp; omega)) ?_)) ?_
          refine a_icmp_ge 68 25 dX11_markBare_22 rfl (by decide) (fun c_22 => absurd c_22 (nI_ge (a := j) (b := 24) (by omega) (by decide))) (fun c_22 => ?_)
          refine a_aload_n 26 dX11_markBare_25 rfl rfl ?_
          refine a_get fd_X11_77 rfl 29 dX11_markBare_26 rfl (by repeat (first | assumption | (refine rg_ne (by first | decide | omega) ?_) | apply rg_eq | refine rg_fr (by assumption) (by first | decide | (simp; omega)) ?_)) rfl ?_
          refine a_iload_n 30 dX11_markBare_29 rfl rfl ?_
          refine a_aload_n 31 dX11_markBare_30 rfl rfl ?_
          refine a_aload_n 32 dX11_markBare_31 rfl rfl ?_
          refine a_iload_n 33 dX11_markBare_32 rfl rfl ?_
          refine a_callV ok_X11_wholeMight ln_X11_226 in_X11_wholeMight rfl 36 dX11_markBare_33 rfl (k_X11_wholeMight q1 o (by omega)) (by repeat (first | assumption | (refine rg_ne (by first | decide | omega) ?_) | apply rg_eq | refine rg_fr (by assumption) (by first | decide | (simp; omega)) ?_)) rfl rfl rfl ⟨(Nat.le_of_ble_eq_true rfl), (Nat.le_of_ble_eq_true rfl)⟩ (Nat.le_of_ble_eq_true rfl) ⟨(Nat.le_of_ble_eq_true rfl), (Nat.le_of_ble_eq_true rfl)⟩ ?_
          rintro _ _ ⟨rfl, rfl⟩
          refine a_if_gt 43 39 dX11_markBare_36 rfl (by decide) (fun c_36 => ?_) (fun c_36 => absurd (fun z => ha (hle.mp z)) (fun z => c_36 (Int32.not_le.mp z)))
          refine a_iconst (0) 44 dX11_markBare_43 rfl (by decide) ?_
          refine a_bastore 45 dX11_markBare_44 rfl (by repeat (first | assumption | (refine rg_ne (by first | decide | omega) ?_) | apply rg_eq | refine rg_fr (by assumption) (by first | decide | (simp; omega)) ?_)) vj ?_
          refine a_aload_n 46 dX11_markBare_45 rfl rfl ?_
          refine a_get fd_X11_77 rfl 49 dX11_markBare_46 rfl (by repeat (first | assumption | (refine rg_ne (by first | decide | omega) ?_) | apply rg_eq | refine rg_fr (by assumption) (by first | decide | (simp; omega)) ?_)) rfl ?_
          refine a_iload_n 50 dX11_markBare_49 rfl rfl ?_
          refine a_baload 51 dX11_markBare_50 rfl (by repeat (first | assumption | (refine rg_ne (by first | decide | omega) ?_) | apply rg_eq | refine rg_fr (by assumption) (by first | decide | (simp; omega)) ?_)) vj ?_
          rw [pk_us]
          refine a_if_eq 62 54 dX11_markBare_51 rfl (by decide) (fun c_51 => ?_) (fun c_51 => absurd rfl c_51)
          refine a_iinc _ 65 dX11_markBare_62 rfl rfl (by decide) rfl ?_
          refine a_goto 5 dX11_markBare_65 (by decide) ?_
          exact ih (j + 1) _ _ _ _ (by omega) (by rw [firstN_none (fun i h1 h2 => by rcases Nat.lt_or_ge i j with e | e; exact hno i e; rw [show i = j by omega]; exact decide_eq_false ha)]) (nI_1 j) (by rw [e0]; exact rg_eq hf) (up_B hfx (by rw [if_neg ha]; rfl)) (fr_set hfr (by decide))
      | some k =>
        have hsp := firstN_spec hb
        have hnn : ¬ nI k = -9 := nI_ne9 (by omega)
        by_cases ha : T.all z j = 0
        · skip
          refine a_iload_n 6 dX11_markBare_5 rfl rfl ?_
          refine a_aload_n 7 dX11_markBare_6 rfl rfl ?_
          refine a_get fd_X11_53 rfl 10 dX11_markBare_7 rfl (by repeat (first | assumption | (refine rg_ne (by first | decide | omega) ?_) | apply rg_eq | refine rg_fr (by assumption) (by first | decide | (simp; omega)) ?_)) rfl ?_
          refine a_get fd_X11_195 rfl 13 dX11_markBare_10 rfl (by repeat (first | assumption | (refine rg_ne (by first | decide | omega) ?_) | apply rg_eq | refine rg_fr (by assumption) (by first | decide | (simp; omega)) ?_)) rfl ?_
          refine a_icmp_ge 68 16 dX11_markBare_13 rfl (by decide) (fun c_13 => absurd c_13 (nI_ge (a := j) (b := T.ny) (by omega) (by omega))) (fun c_13 => ?_)
          refine a_iload_n 17 dX11_markBare_16 rfl rfl ?_
          refine a_aload_n 18 dX11_markBare_17 rfl rfl ?_
          refine a_get fd_X11_77 rfl 21 dX11_markBare_18 rfl (by repeat (first | assumption | (refine rg_ne (by first | decide | omega) ?_) | apply rg_eq | refine rg_fr (by assumption) (by first | decide | (simp; omega)) ?_)) rfl ?_
          refine a_alen_1 22 dX11_markBare_21 rfl (by repeat (first | assumption | (refine rg_ne (by first | decide | omega) ?_) | apply rg_eq | refine rg_fr (by assumption) (by first | decide | (simp; omega)) ?_)) ?_
          refine a_icmp_ge 68 25 dX11_markBare_22 rfl (by decide) (fun c_22 => absurd c_22 (nI_ge (a := j) (b := 24) (by omega) (by decide))) (fun c_22 => ?_)
          refine a_aload_n 26 dX11_markBare_25 rfl rfl ?_
          refine a_get fd_X11_77 rfl 29 dX11_markBare_26 rfl (by repeat (first | assumption | (refine rg_ne (by first | decide | omega) ?_) | apply rg_eq | refine rg_fr (by assumption) (by first | decide | (simp; omega)) ?_)) rfl ?_
          refine a_iload_n 30 dX11_markBare_29 rfl rfl ?_
          refine a_aload_n 31 dX11_markBare_30 rfl rfl ?_
          refine a_aload_n 32 dX11_markBare_31 rfl rfl ?_
          refine a_iload_n 33 dX11_markBare_32 rfl rfl ?_
          refine a_callV ok_X11_wholeMight ln_X11_226 in_X11_wholeMight rfl 36 dX11_markBare_33 rfl (k_X11_wholeMight q1 o (by omega)) (by repeat (first | assumption | (refine rg_ne (by first | decide | omega) ?_) | apply rg_eq | refine rg_fr (by assumption) (by first | decide | (simp; omega)) ?_)) rfl rfl rfl ⟨(Nat.le_of_ble_eq_true rfl), (Nat.le_of_ble_eq_true rfl)⟩ (Nat.le_of_ble_eq_true rfl) ⟨(Nat.le_of_ble_eq_true rfl), (Nat.le_of_ble_eq_true rfl)⟩ ?_
          rintro _ _ ⟨rfl, rfl⟩
          refine a_if_gt 43 39 dX11_markBare_36 rfl (by decide) (fun c_36 => absurd (hle.mpr ha) (Int32.not_le.mpr c_36)) (fun c_36 => ?_)
          refine a_iconst (1) 40 dX11_markBare_39 rfl (by decide) ?_
          refine a_goto 44 dX11_markBare_40 (by decide) ?_
          refine a_bastore 45 dX11_markBare_44 rfl (by repeat (first | assumption | (refine rg_ne (by first | decide | omega) ?_) | apply rg_eq | refine rg_fr (by assumption) (by first | decide | (simp; omega)) ?_)) vj ?_
          refine a_aload_n 46 dX11_markBare_45 rfl rfl ?_
          refine a_get fd_X11_77 rfl 49 dX11_markBare_46 rfl (by repeat (first | assumption | (refine rg_ne (by first | decide | omega) ?_) | apply rg_eq | refine rg_fr (by assumption) (by first | decide | (simp; omega)) ?_)) rfl ?_
          refine a_iload_n 50 dX11_markBare_49 rfl rfl ?_
          refine a_baload 51 dX11_markBare_50 rfl (by repeat (first | assumption | (refine rg_ne (by first | decide | omega) ?_) | apply rg_eq | refine rg_fr (by assumption) (by first | decide | (simp; omega)) ?_)) vj ?_
          rw [pk_us]
          refine a_if_eq 62 54 dX11_markBare_51 rfl (by decide) (fun c_51 => absurd c_51 (by decide)) (fun c_51 => ?_)
          refine a_iload_n 55 dX11_markBare_54 rfl rfl ?_
          refine a_bipush (-9) 57 dX11_markBare_55 rfl (by decide) ?_
          refine a_icmp_ne 62 60 dX11_markBare_57 rfl (by decide) (fun c_57 => ?_) (fun c_57 => absurd c_57 hnn)
          refine a_iinc _ 65 dX11_markBare_62 rfl rfl (by decide) rfl ?_
          refine a_goto 5 dX11_markBare_65 (by decide) ?_
          exact ih (j + 1) _ _ _ _ (by omega) (by rw [firstN_some (k := k) (by omega) (by omega) hsp.2.2.1 (fun i h1 h2 => hsp.2.2.2 i h1 h2)]) (nI_1 j) (by rw [e0]; exact rg_eq hf) (up_B hfx (by rw [if_pos ha]; rfl)) (fr_set hfr (by decide))
        · skip
          refine a_iload_n 6 dX11_markBare_5 rfl rfl ?_
          refine a_aload_n 7 dX11_markBare_6 rfl rfl ?_
          refine a_get fd_X11_53 rfl 10 dX11_markBare_7 rfl (by repeat (first | assumption | (refine rg_ne (by first | decide | omega) ?_) | apply rg_eq | refine rg_fr (by assumption) (by first | decide | (simp; omega)) ?_)) rfl ?_
          refine a_get fd_X11_195 rfl 13 dX11_markBare_10 rfl (by repeat (first | assumption | (refine rg_ne (by first | decide | omega) ?_) | apply rg_eq | refine rg_fr (by assumption) (by first | decide | (simp; omega)) ?_)) rfl ?_
          refine a_icmp_ge 68 16 dX11_markBare_13 rfl (by decide) (fun c_13 => absurd c_13 (nI_ge (a := j) (b := T.ny) (by omega) (by omega))) (fun c_13 => ?_)
          refine a_iload_n 17 dX11_markBare_16 rfl rfl ?_
          refine a_aload_n 18 dX11_markBare_17 rfl rfl ?_
          refine a_get fd_X11_77 rfl 21 dX11_markBare_18 rfl (by repeat (first | assumption | (refine rg_ne (by first | decide | omega) ?_) | apply rg_eq | refine rg_fr (by assumption) (by first | decide | (simp; omega)) ?_)) rfl ?_
          refine a_alen_1 22 dX11_markBare_21 rfl (by repeat (first | assumption | (refine rg_ne (by first | decide | omega) ?_) | apply rg_eq | refine rg_fr (by assumption) (by first | decide | (simp; omega)) ?_)) ?_
          refine a_icmp_ge 68 25 dX11_markBare_22 rfl (by decide) (fun c_22 => absurd c_22 (nI_ge (a := j) (b := 24) (by omega) (by decide))) (fun c_22 => ?_)
          refine a_aload_n 26 dX11_markBare_25 rfl rfl ?_
          refine a_get fd_X11_77 rfl 29 dX11_markBare_26 rfl (by repeat (first | assumption | (refine rg_ne (by first | decide | omega) ?_) | apply rg_eq | refine rg_fr (by assumption) (by first | decide | (simp; omega)) ?_)) rfl ?_
          refine a_iload_n 30 dX11_markBare_29 rfl rfl ?_
          refine a_aload_n 31 dX11_markBare_30 rfl rfl ?_
          refine a_aload_n 32 dX11_markBare_31 rfl rfl ?_
          refine a_iload_n 33 dX11_markBare_32 rfl rfl ?_
          refine a_callV ok_X11_wholeMight ln_X11_226 in_X11_wholeMight rfl 36 dX11_markBare_33 rfl (k_X11_wholeMight q1 o (by omega)) (by repeat (first | assumption | (refine rg_ne (by first | decide | omega) ?_) | apply rg_eq | refine rg_fr (by assumption) (by first | decide | (simp; omega)) ?_)) rfl rfl rfl ⟨(Nat.le_of_ble_eq_true rfl), (Nat.le_of_ble_eq_true rfl)⟩ (Nat.le_of_ble_eq_true rfl) ⟨(Nat.le_of_ble_eq_true rfl), (Nat.le_of_ble_eq_true rfl)⟩ ?_
          rintro _ _ ⟨rfl, rfl⟩
          refine a_if_gt 43 39 dX11_markBare_36 rfl (by decide) (fun c_36 => ?_) (fun c_36 => absurd (fun z => ha (hle.mp z)) (fun z => c_36 (Int32.not_le.mp z)))
          refine a_iconst (0) 44 dX11_markBare_43 rfl (by decide) ?_
          refine a_bastore 45 dX11_markBare_44 rfl (by repeat (first | assumption | (refine rg_ne (by first | decide | omega) ?_) | apply rg_eq | refine rg_fr (by assumption) (by first | decide | (simp; omega)) ?_)) vj ?_
          refine a_aload_n 46 dX11_markBare_45 rfl rfl ?_
          refine a_get fd_X11_77 rfl 49 dX11_markBare_46 rfl (by repeat (first | assumption | (refine rg_ne (by first | decide | omega) ?_) | apply rg_eq | refine rg_fr (by assumption) (by first | decide | (simp; omega)) ?_)) rfl ?_
          refine a_iload_n 50 dX11_markBare_49 rfl rfl ?_
          refine a_baload 51 dX11_markBare_50 rfl (by repeat (first | assumption | (refine rg_ne (by first | decide | omega) ?_) | apply rg_eq | refine rg_fr (by assumption) (by first | decide | (simp; omega)) ?_)) vj ?_
          rw [pk_us]
          refine a_if_eq 62 54 dX11_markBare_51 rfl (by decide) (fun c_51 => ?_) (fun c_51 => absurd rfl c_51)
          refine a_iinc _ 65 dX11_markBare_62 rfl rfl (by decide) rfl ?_
          refine a_goto 5 dX11_markBare_65 (by decide) ?_
          exact ih (j + 1) _ _ _ _ (by omega) (by rw [firstN_some (k := k) (by omega) (by omega) hsp.2.2.1 (fun i h1 h2 => hsp.2.2.2 i h1 h2)]) (nI_1 j) (by rw [e0]; exact rg_eq hf) (up_B hfx (by rw [if_neg ha]; rfl)) (fr_set hfr (by decide))
  refine a_bipush (-9) 2 dX11_markBare_0 rfl (by decide) ?_
  refine a_istore_n 3 dX11_markBare_2 rfl (by decide) ?_
  refine a_iconst (0) 4 dX11_markBare_3 rfl (by decide) ?_
  refine a_istore_n 5 dX11_markBare_4 rfl (by decide) ?_
  exact L T.ny 0 f0 _ _ _ (by omega) rfl rfl hf0 (fun i hi => absurd hi (by omega)) (fr_refl _ _)
set_option maxRecDepth 100000 in
set_option maxHeartbeats 400000 in
theorem k_X11_mends (q : wgAt G h T z) (o : T.ok) {f : Nat → Int32} (hf : h[29]? = some (.inl (gA G 1, 24, .inl f))) (hfx : ∀ j, j < T.ny → f j = if T.all z j = 0 then 1 else 0) {t y : Nat} (ht : t < 2 ^ 30) (hym : y < T.m) : rM l G 5 mX11_mends 0 0 [.ref (gN G + 0), .ref (gN G + T.la z), .int (nI t), .int (nI y)] h (rV h (some (.int (if menT T z t y then 1 else 0)))) := by
  have hny := o.ny24
  have hz := q.2.1
  have hy := q.1.1
  have r1 := (wg_row q).1
  obtain ⟨cb, fl, ⟨hl1, hl2⟩, hl⟩ := c_lat q.1 hz
  have hu5 := o.nu10 hz (w := 5) (by decide)
  have hu6 := o.nu10 hz (w := 6) (by decide)
  refine rM_start (by decide) (Nat.le_of_ble_eq_true rfl) ?_
  have L : ∀ (r j : Nat) (y1 : Int32) (o5 : Option Value), j + r = T.ny → y1 = nI j → andN (fun j => decide (0 < fromN T.nu (T.mi z) z (T.ym j) (T.yw j) t y) || decide (0 < T.all z j)) j = true → rW l G (rRm 5 0 0) mX11_mends (rZ G (rV h (some (.int (if menT T z t y then 1 else 0)))) 0 0) 0 0 3 [some (.ref (gN G + 0)), some (.ref (gN G + T.la z)), some (.int (nI t)), some (.int (nI y)), some (.int y1), o5] [] h := by
    intro r
    induction r with
    | zero =>
      intro j y1 o5 hj hy1 ha
      subst hy1
      have e : j = T.ny := by omega
      subst e
      refine a_iload 5 dX11_mends_3 rfl rfl ?_
      refine a_aload_n 6 dX11_mends_5 rfl rfl ?_
      refine a_get fd_X11_53 rfl 9 dX11_mends_6 rfl (by repeat (first | assumption | (refine rg_ne (by first | decide | omega) ?_) | apply rg_eq | refine rg_fr (by assumption) (by first | decide | (simp; omega)) ?_)) rfl ?_
      refine a_get fd_X11_195 rfl 12 dX11_mends_9 rfl (by repeat (first | assumption | (refine rg_ne (by first | decide | omega) ?_) | apply rg_eq | refine rg_fr (by assumption) (by first | decide | (simp; omega)) ?_)) rfl ?_
      refine a_icmp_ge 82 15 dX11_mends_12 rfl (by decide) (fun c_12 => ?_) (fun c_12 => absurd (Int32.le_refl _) c_12)
      refine a_iconst (1) 83 dX11_mends_82 rfl (by decide) ?_
      exact a_ireturn dX11_mends_83 rfl rfl (Nat.le_of_ble_eq_true rfl) (Nat.le_of_ble_eq_true rfl) ⟨rfl, by rw [show menT T z t y = true from ha]; rfl⟩
    | succ r ih =>
      intro j y1 o5 hj hy1 ha
      subst hy1
      have vj : vp_in (nI j) 24 := vp_in_nI (by omega) (by decide)
      have e0 : (nI j).toNatClampNeg = j := nI_clamp (by omega)
      have hym2 := o.ym (q := j) (by omega)
      have hyw2 := o.yw (q := j) (by omega)
      have hmz := mi_lt o (x := T.yw j) (y := y) hz
      have hle := nI_le0 (k := mz T z (T.yw j) y) (by unfold mz; split <;> omega)
      have e3 : (fl 5 ≤ nI (T.ym j) - nI t ∧ nI (T.ym j) - nI t ≤ fl 6) ↔ (t + T.nu z 5 ≤ T.ym j ∧ T.ym j ≤ t + T.nu z 6) := by
        rw [hl 5 (by decide), hl 6 (by decide), i_le, i_le, nI_toInt (by omega), nI_toInt (by omega), pk_sub_toInt (by omega) (by omega)]
        omega
      by_cases hb : T.all z j = 0
      · have hbf : ¬ f j = 0 := by rw [hfx j (by omega), if_pos hb]; decide
        have hP : ∀ b, b = decide (0 < fromN T.nu (T.mi z) z (T.ym j) (T.yw j) t y) → (fun j => decide (0 < fromN T.nu (T.mi z) z (T.ym j) (T.yw j) t y) || decide (0 < T.all z j)) j = b := by
          intro b hb2
          show (decide (0 < fromN T.nu (T.mi z) z (T.ym j) (T.yw j) t y) || decide (0 < T.all z j)) = b
          rw [hb, hb2]; simp
        refine a_iload 5 dX11_mends_3 rfl rfl ?_
        refine a_aload_n 6 dX11_mends_5 rfl rfl ?_
        refine a_get fd_X11_53 rfl 9 dX11_mends_6 rfl (by repeat (first | assumption | (refine rg_ne (by first | decide | omega) ?_) | apply rg_eq | refine rg_fr (by assumption) (by first | decide | (simp; omega)) ?_)) rfl ?_
        refine a_get fd_X11_195 rfl 12 dX11_mends_9 rfl (by repeat (first | assumption | (refine rg_ne (by first | decide | omega) ?_) | apply rg_eq | refine rg_fr (by assumption) (by first | decide | (simp; omega)) ?_)) rfl ?_
        refine a_icmp_ge 82 15 dX11_mends_12 rfl (by decide) (fun c_12 => absurd c_12 (nI_ge (a := j) (b := T.ny) (by omega) (by omega))) (fun c_12 => ?_)
        refine a_iload 17 dX11_mends_15 rfl rfl ?_
        refine a_aload_n 18 dX11_mends_17 rfl rfl ?_
        refine a_get fd_X11_77 rfl 21 dX11_mends_18 rfl (by repeat (first | assumption | (refine rg_ne (by first | decide | omega) ?_) | apply rg_eq | refine rg_fr (by assumption) (by first | decide | (simp; omega)) ?_)) rfl ?_
        refine a_alen_1 22 dX11_mends_21 rfl (by repeat (first | assumption | (refine rg_ne (by first | decide | omega) ?_) | apply rg_eq | refine rg_fr (by assumption) (by first | decide | (simp; omega)) ?_)) ?_
        refine a_icmp_ge 82 25 dX11_mends_22 rfl (by decide) (fun c_22 => absurd c_22 (nI_ge (a := j) (b := 24) (by omega) (by decide))) (fun c_22 => ?_)
        refine a_aload_n 26 dX11_mends_25 rfl rfl ?_
        refine a_get fd_X11_77 rfl 29 dX11_mends_26 rfl (by repeat (first | assumption | (refine rg_ne (by first | decide | omega) ?_) | apply rg_eq | refine rg_fr (by assumption) (by first | decide | (simp; omega)) ?_)) rfl ?_
        refine a_iload 31 dX11_mends_29 rfl rfl ?_
        refine a_baload 32 dX11_mends_31 rfl (by repeat (first | assumption | (refine rg_ne (by first | decide | omega) ?_) | apply rg_eq | refine rg_fr (by assumption) (by first | decide | (simp; omega)) ?_)) vj ?_
        rw [e0]
        refine a_if_eq 76 35 dX11_mends_32 rfl (by decide) (fun c_32 => absurd c_32 hbf) (fun c_32 => ?_)
        refine a_aload_n 36 dX11_mends_35 rfl rfl ?_
        refine a_get fd_X11_53 rfl 39 dX11_mends_36 rfl (by repeat (first | assumption | (refine rg_ne (by first | decide | omega) ?_) | apply rg_eq | refine rg_fr (by assumption) (by first | decide | (simp; omega)) ?_)) rfl ?_
        refine a_iload 41 dX11_mends_39 rfl rfl ?_
        refine a_callV ok_X10_minuteOf ln_X11_211 in_X10_minuteOf rfl 44 dX11_mends_41 rfl (c_minute q.1 o (by omega)) (by repeat (first | assumption | (refine rg_ne (by first | decide | omega) ?_) | apply rg_eq | refine rg_fr (by assumption) (by first | decide | (simp; omega)) ?_)) rfl rfl rfl ⟨(Nat.le_of_ble_eq_true rfl), (Nat.le_of_ble_eq_true rfl)⟩ (Nat.le_of_ble_eq_true rfl) ⟨(Nat.le_of_ble_eq_true rfl), (Nat.le_of_ble_eq_true rfl)⟩ ?_
        rintro _ _ ⟨rfl, rfl⟩
        refine a_iload_n 45 dX11_mends_44 rfl rfl ?_
        refine a_isub 46 dX11_mends_45 rfl ?_
        refine a_istore 48 dX11_mends_46 rfl (by decide) ?_
        refine a_aload_n 49 dX11_mends_48 rfl rfl ?_
        refine a_iload 51 dX11_mends_49 rfl rfl ?_
        refine a_callV ok_X5_allows ln_X11_401 in_X5_allows rfl 54 dX11_mends_51 rfl (k_X5_allows hl1 hl2 _) (by repeat (first | assumption | (refine rg_ne (by first | decide | omega) ?_) | apply rg_eq | refine rg_fr (by assumption) (by first | decide | (simp; omega)) ?_)) rfl rfl rfl ⟨(Nat.le_of_ble_eq_true rfl), (Nat.le_of_ble_eq_true rfl)⟩ (Nat.le_of_ble_eq_true rfl) ⟨(Nat.le_of_ble_eq_true rfl), (Nat.le_of_ble_eq_true rfl)⟩ ?_
        rintro _ _ ⟨rfl, rfl⟩
        refine a_if_eq 74 57 dX11_mends_54 rfl (by decide) (fun c_54 => ?_) (fun c_54 => ?_)
        · refine a_iconst (0) 75 dX11_mends_74 rfl (by decide) ?_
          exact a_ireturn dX11_mends_75 rfl rfl (Nat.le_of_ble_eq_true rfl) (Nat.le_of_ble_eq_true rfl) ⟨rfl, by rw [show menT T z t y = false from andN_f (i := j) (by omega) (hP false (decide_eq_false (men_f1 (fun e => b_eq0.mp c_54 (e3.mpr e)))).symm)]; rfl⟩
        · refine a_aload_n 58 dX11_mends_57 rfl rfl ?_
          refine a_aload_n 59 dX11_mends_58 rfl rfl ?_
          refine a_get fd_X11_53 rfl 62 dX11_mends_59 rfl (by repeat (first | assumption | (refine rg_ne (by first | decide | omega) ?_) | apply rg_eq | refine rg_fr (by assumption) (by first | decide | (simp; omega)) ?_)) rfl ?_
          refine a_iload 64 dX11_mends_62 rfl rfl ?_
          refine a_callV ok_X10_whoOf ln_X11_214 in_X10_whoOf rfl 67 dX11_mends_64 rfl (c_who q.1 o (by omega)) (by repeat (first | assumption | (refine rg_ne (by first | decide | omega) ?_) | apply rg_eq | refine rg_fr (by assumption) (by first | decide | (simp; omega)) ?_)) rfl rfl rfl ⟨(Nat.le_of_ble_eq_true rfl), (Nat.le_of_ble_eq_true rfl)⟩ (Nat.le_of_ble_eq_true rfl) ⟨(Nat.le_of_ble_eq_true rfl), (Nat.le_of_ble_eq_true rfl)⟩ ?_
          rintro _ _ ⟨rfl, rfl⟩
          refine a_iload_n 68 dX11_mends_67 rfl rfl ?_
          refine a_callV ok_X11_weighed ln_X11_404 in_X11_weighed rfl 71 dX11_mends_68 rfl (wg_w q o hyw2 hym) (by repeat (first | assumption | (refine rg_ne (by first | decide | omega) ?_) | apply rg_eq | refine rg_fr (by assumption) (by first | decide | (simp; omega)) ?_)) rfl rfl rfl ⟨(Nat.le_of_ble_eq_true rfl), (Nat.le_of_ble_eq_true rfl)⟩ (Nat.le_of_ble_eq_true rfl) ⟨(Nat.le_of_ble_eq_true rfl), (Nat.le_of_ble_eq_true rfl)⟩ ?_
          rintro _ _ ⟨rfl, rfl⟩
          refine a_if_gt 76 74 dX11_mends_71 rfl (by decide) (fun c_71 => ?_) (fun c_71 => ?_)
          · refine a_iinc _ 79 dX11_mends_76 rfl rfl (by decide) rfl ?_
            refine a_goto 3 dX11_mends_79 (by decide) ?_
            exact ih (j + 1) _ _ (by omega) (nI_1 j) (by rw [andN, ha]; exact (Bool.true_and _).trans (hP true (decide_eq_true (men_t (e3.mp (Decidable.not_not.mp (fun q => c_54 (if_neg q)))) (fun e => (Int32.not_le.mpr c_71) (hle.mpr e)))).symm))
          · refine a_iconst (0) 75 dX11_mends_74 rfl (by decide) ?_
            exact a_ireturn dX11_mends_75 rfl rfl (Nat.le_of_ble_eq_true rfl) (Nat.le_of_ble_eq_true rfl) ⟨rfl, by rw [show menT T z t y = false from andN_f (i := j) (by omega) (hP false (decide_eq_false (men_f2 (hle.mp (Int32.not_lt.mp c_71)))).symm)]; rfl⟩
      · have hbf : f j = 0 := by rw [hfx j (by omega), if_neg hb]
        refine a_iload 5 dX11_mends_3 rfl rfl ?_
        refine a_aload_n 6 dX11_mends_5 rfl rfl ?_
        refine a_get fd_X11_53 rfl 9 dX11_mends_6 rfl (by repeat (first | assumption | (refine rg_ne (by first | decide | omega) ?_) | apply rg_eq | refine rg_fr (by assumption) (by first | decide | (simp; omega)) ?_)) rfl ?_
        refine a_get fd_X11_195 rfl 12 dX11_mends_9 rfl (by repeat (first | assumption | (refine rg_ne (by first | decide | omega) ?_) | apply rg_eq | refine rg_fr (by assumption) (by first | decide | (simp; omega)) ?_)) rfl ?_
        refine a_icmp_ge 82 15 dX11_mends_12 rfl (by decide) (fun c_12 => absurd c_12 (nI_ge (a := j) (b := T.ny) (by omega) (by omega))) (fun c_12 => ?_)
        refine a_iload 17 dX11_mends_15 rfl rfl ?_
        refine a_aload_n 18 dX11_mends_17 rfl rfl ?_
        refine a_get fd_X11_77 rfl 21 dX11_mends_18 rfl (by repeat (first | assumption | (refine rg_ne (by first | decide | omega) ?_) | apply rg_eq | refine rg_fr (by assumption) (by first | decide | (simp; omega)) ?_)) rfl ?_
        refine a_alen_1 22 dX11_mends_21 rfl (by repeat (first | assumption | (refine rg_ne (by first | decide | omega) ?_) | apply rg_eq | refine rg_fr (by assumption) (by first | decide | (simp; omega)) ?_)) ?_
        refine a_icmp_ge 82 25 dX11_mends_22 rfl (by decide) (fun c_22 => absurd c_22 (nI_ge (a := j) (b := 24) (by omega) (by decide))) (fun c_22 => ?_)
        refine a_aload_n 26 dX11_mends_25 rfl rfl ?_
        refine a_get fd_X11_77 rfl 29 dX11_mends_26 rfl (by repeat (first | assumption | (refine rg_ne (by first | decide | omega) ?_) | apply rg_eq | refine rg_fr (by assumption) (by first | decide | (simp; omega)) ?_)) rfl ?_
        refine a_iload 31 dX11_mends_29 rfl rfl ?_
        refine a_baload 32 dX11_mends_31 rfl (by repeat (first | assumption | (refine rg_ne (by first | decide | omega) ?_) | apply rg_eq | refine rg_fr (by assumption) (by first | decide | (simp; omega)) ?_)) vj ?_
        rw [e0]
        refine a_if_eq 76 35 dX11_mends_32 rfl (by decide) (fun c_32 => ?_) (fun c_32 => absurd hbf c_32)
        refine a_iinc _ 79 dX11_mends_76 rfl rfl (by decide) rfl ?_
        refine a_goto 3 dX11_mends_79 (by decide) ?_
        exact ih (j + 1) _ _ (by omega) (nI_1 j) (by rw [andN, ha, decide_eq_true (Nat.pos_of_ne_zero hb), Bool.or_true]; rfl)
  refine a_iconst (0) 1 dX11_mends_0 rfl (by decide) ?_
  refine a_istore 3 dX11_mends_1 rfl (by decide) ?_
  exact L T.ny 0 _ _ (by omega) rfl rfl
set_option maxRecDepth 100000 in
set_option maxHeartbeats 400000 in
theorem k_X11_weighedSpread (q : wgAt G h T z) (o : T.ok) : rM l G 3 mX11_weighedSpread 0 0 [.ref (gN G + 0)] h (rV h (some (.int (nI (sprT T z))))) := by
  have hm := o.m12
  have hy := q.1.1
  refine rM_start (by decide) (Nat.le_of_ble_eq_true rfl) ?_
  have L : ∀ (r x : Nat) (s y : Int32) (o3 : Option Value), x + r = T.m → s = nI (sumN (fun x => sumN (fun y => mz T z x y) T.m) x) → y = nI x → rW l G (rRm 3 0 0) mX11_weighedSpread (rZ G (rV h (some (.int (nI (sprT T z))))) 0 0) 0 0 4 [some (.ref (gN G + 0)), some (.int s), some (.int y), o3] [] h := by
    intro r
    induction r with
    | zero =>
      intro x s y o3 hx hs hy2
      subst hs; subst hy2
      have e : x = T.m := by omega
      subst e
      refine a_iload_n 5 dX11_weighedSpread_4 rfl rfl ?_
      refine a_aload_n 6 dX11_weighedSpread_5 rfl rfl ?_
      refine a_get fd_X11_98 rfl 9 dX11_weighedSpread_6 rfl (by repeat (first | assumption | (refine rg_ne (by first | decide | omega) ?_) | apply rg_eq | refine rg_fr (by assumption) (by first | decide | (simp; omega)) ?_)) rfl ?_
      refine a_icmp_ge 43 12 dX11_weighedSpread_9 rfl (by decide) (fun c_9 => ?_) (fun c_9 => absurd (Int32.le_refl _) c_9)
      refine a_iload_n 44 dX11_weighedSpread_43 rfl rfl ?_
      exact a_ireturn dX11_weighedSpread_44 rfl rfl (Nat.le_of_ble_eq_true rfl) (Nat.le_of_ble_eq_true rfl) ⟨rfl, rfl⟩
    | succ r ih =>
      intro x s y o3 hx hs hy2
      subst hs; subst hy2
      have L2 : ∀ (r2 y : Nat) (s y1 : Int32), y + r2 = T.m → s = nI (sumN (fun x => sumN (fun y => mz T z x y) T.m) x + sumN (fun y => mz T z x y) y) → y1 = nI y → rW l G (rRm 3 0 0) mX11_weighedSpread (rZ G (rV h (some (.int (nI (sprT T z))))) 0 0) 0 0 14 [some (.ref (gN G + 0)), some (.int s), some (.int (nI x)), some (.int y1)] [] h := by
        intro r2
        induction r2 with
        | zero =>
          intro y s y1 hy2 hs hy1
          subst hs; subst hy1
          have e : y = T.m := by omega
          subst e
          refine a_iload_n 15 dX11_weighedSpread_14 rfl rfl ?_
          refine a_aload_n 16 dX11_weighedSpread_15 rfl rfl ?_
          refine a_get fd_X11_98 rfl 19 dX11_weighedSpread_16 rfl (by repeat (first | assumption | (refine rg_ne (by first | decide | omega) ?_) | apply rg_eq | refine rg_fr (by assumption) (by first | decide | (simp; omega)) ?_)) rfl ?_
          refine a_icmp_ge 37 22 dX11_weighedSpread_19 rfl (by decide) (fun c_19 => ?_) (fun c_19 => absurd (Int32.le_refl _) c_19)
          refine a_iinc _ 40 dX11_weighedSpread_37 rfl rfl (by decide) rfl ?_
          refine a_goto 4 dX11_weighedSpread_40 (by decide) ?_
          exact ih (x + 1) _ _ _ (by omega) rfl (nI_1 x)
        | succ r2 ih2 =>
          intro y s y1 hy2 hs hy1
          subst hs; subst hy1
          refine a_iload_n 15 dX11_weighedSpread_14 rfl rfl ?_
          refine a_aload_n 16 dX11_weighedSpread_15 rfl rfl ?_
          refine a_get fd_X11_98 rfl 19 dX11_weighedSpread_16 rfl (by repeat (first | assumption | (refine rg_ne (by first | decide | omega) ?_) | apply rg_eq | refine rg_fr (by assumption) (by first | decide | (simp; omega)) ?_)) rfl ?_
          refine a_icmp_ge 37 22 dX11_weighedSpread_19 rfl (by decide) (fun c_19 => absurd c_19 (nI_ge (a := y) (b := T.m) (by omega) (by omega))) (fun c_19 => ?_)
          refine a_iload_n 23 dX11_weighedSpread_22 rfl rfl ?_
          refine a_aload_n 24 dX11_weighedSpread_23 rfl rfl ?_
          refine a_iload_n 25 dX11_weighedSpread_24 rfl rfl ?_
          refine a_iload_n 26 dX11_weighedSpread_25 rfl rfl ?_
          refine a_callV ok_X11_weighed ln_X11_404 in_X11_weighed rfl 29 dX11_weighedSpread_26 rfl (wg_w q o (by omega) (by omega)) (by repeat (first | assumption | (refine rg_ne (by first | decide | omega) ?_) | apply rg_eq | refine rg_fr (by assumption) (by first | decide | (simp; omega)) ?_)) rfl rfl rfl ⟨(Nat.le_of_ble_eq_true rfl), (Nat.le_of_ble_eq_true rfl)⟩ (Nat.le_of_ble_eq_true rfl) ⟨(Nat.le_of_ble_eq_true rfl), (Nat.le_of_ble_eq_true rfl)⟩ ?_
          rintro _ _ ⟨rfl, rfl⟩
          refine a_iadd 30 dX11_weighedSpread_29 rfl ?_
          refine a_istore_n 31 dX11_weighedSpread_30 rfl (by decide) ?_
          refine a_iinc _ 34 dX11_weighedSpread_31 rfl rfl (by decide) rfl ?_
          refine a_goto 14 dX11_weighedSpread_34 (by decide) ?_
          exact ih2 (y + 1) _ _ (by omega) (by rw [sumN, ← Nat.add_assoc, nI_add]) (nI_1 y)
      refine a_iload_n 5 dX11_weighedSpread_4 rfl rfl ?_
      refine a_aload_n 6 dX11_weighedSpread_5 rfl rfl ?_
      refine a_get fd_X11_98 rfl 9 dX11_weighedSpread_6 rfl (by repeat (first | assumption | (refine rg_ne (by first | decide | omega) ?_) | apply rg_eq | refine rg_fr (by assumption) (by first | decide | (simp; omega)) ?_)) rfl ?_
      refine a_icmp_ge 43 12 dX11_weighedSpread_9 rfl (by decide) (fun c_9 => absurd c_9 (nI_ge (a := x) (b := T.m) (by omega) (by omega))) (fun c_9 => ?_)
      refine a_iconst (0) 13 dX11_weighedSpread_12 rfl (by decide) ?_
      refine a_istore_n 14 dX11_weighedSpread_13 rfl (by decide) ?_
      exact L2 T.m 0 _ _ (by omega) rfl rfl
  refine a_iconst (0) 1 dX11_weighedSpread_0 rfl (by decide) ?_
  refine a_istore_n 2 dX11_weighedSpread_1 rfl (by decide) ?_
  refine a_iconst (0) 3 dX11_weighedSpread_2 rfl (by decide) ?_
  refine a_istore_n 4 dX11_weighedSpread_3 rfl (by decide) ?_
  exact L T.m 0 _ _ _ (by omega) rfl rfl
abbrev misV (s : misS) (c : Int32) : Int32 := if c = 0 then nI s.1 else if c = 1 then s.2.1 else s.2.2
abbrev misA (T : Tn) (z b : Nat) : misS := misT T z (b - T.nu z 6) (b + 1 - T.nu z 5 - (b - T.nu z 6)) (0, -9, -9)
theorem lastI {b f t : Nat} (hb : b < 2 ^ 30) (hf : f < 2 ^ 30) (ht : t < 2 ^ 30) : nI b - nI f < nI t ↔ b < t + f := by
  rw [i_lt, pk_sub_toInt hb hf, nI_toInt (by omega)]
  omega
theorem maxI0 {b f : Nat} (hb : b < 2 ^ 30) (hf : f < 2 ^ 30) : (if (0 : Int32) < nI b - nI f then nI b - nI f else 0) = nI (b - f) := by
  by_cases e : f < b
  · rw [if_pos (by rw [i_lt, pk_sub_toInt hb hf]; show (0 : Int) < _; omega), pk_sub (by omega)]
  · rw [if_neg (by rw [i_lt, pk_sub_toInt hb hf]; show ¬ (0 : Int) < _; omega), show b - f = 0 by omega]
    rfl
set_option maxRecDepth 100000 in
set_option maxHeartbeats 400000 in
theorem k_X11_findMissed (q : wgAt G h T z) (o : T.ok) {f : Nat → Int32} (hf : h[29]? = some (.inl (gA G 1, 24, .inl f))) (hfx : ∀ j, j < T.ny → f j = if T.all z j = 0 then 1 else 0) {b : Nat} (hb : b < 600) (c : Int32) : rM l G 6 mX11_findMissed 0 0 [.ref (gN G + 0), .ref (gN G + T.la z), .int (nI b), .int c] h (rV h (some (.int (misV (misA T z b) c)))) := by
  have hm := o.m12
  have hz := q.2.1
  have hy := q.1.1
  obtain ⟨cb, fl, ⟨hl1, hl2⟩, hl⟩ := c_lat q.1 hz
  have hu5 := o.nu10 hz (w := 5) (by decide)
  have hu6 := o.nu10 hz (w := 6) (by decide)
  have hl5 := hl 5 (by decide)
  have hl6 := hl 6 (by decide)
  refine rM_start (by decide) (Nat.le_of_ble_eq_true rfl) ?_
  have L : ∀ (r k : Nat) (s4 s5 s6 y : Int32) (o9 : Option Value), k + r = b + 1 - T.nu z 5 - (b - T.nu z 6) → s4 = nI (misT T z (b - T.nu z 6) k (0, -9, -9)).1 → s5 = (misT T z (b - T.nu z 6) k (0, -9, -9)).2.1 → s6 = (misT T z (b - T.nu z 6) k (0, -9, -9)).2.2 → y = nI (b - T.nu z 6 + k) → rW l G (rRm 6 0 0) mX11_findMissed (rZ G (rV h (some (.int (misV (misA T z b) c)))) 0 0) 0 0 34 [some (.ref (gN G + 0)), some (.ref (gN G + T.la z)), some (.int (nI b)), some (.int c), some (.int s4), some (.int s5), some (.int s6), some (.int (nI b - nI (T.nu z 5))), some (.int y), o9] [] h := by
    intro r
    induction r with
    | zero =>
      intro k s4 s5 s6 y o9 hk h4 h5 h6 hy2
      subst h4; subst h5; subst h6; subst hy2
      have e : k = b + 1 - T.nu z 5 - (b - T.nu z 6) := by omega
      refine a_iload 36 dX11_findMissed_34 rfl rfl ?_
      refine a_iload 38 dX11_findMissed_36 rfl rfl ?_
      refine a_icmp_gt 93 41 dX11_findMissed_38 rfl (by decide) (fun c_38 => ?_) (fun c_38 => absurd ((lastI (by omega) (by omega) (by omega)).mpr (by omega)) c_38)
      refine a_iload_n 94 dX11_findMissed_93 rfl rfl ?_
      refine a_if_ne 100 97 dX11_findMissed_94 rfl (by decide) (fun c_94 => ?_) (fun c_94 => ?_)
      · refine a_iload_n 101 dX11_findMissed_100 rfl rfl ?_
        refine a_iconst (1) 102 dX11_findMissed_101 rfl (by decide) ?_
        refine a_icmp_ne 110 105 dX11_findMissed_102 rfl (by decide) (fun c_102 => ?_) (fun c_102 => ?_)
        · refine a_iload 112 dX11_findMissed_110 rfl rfl ?_
          exact a_ireturn dX11_findMissed_112 rfl rfl (Nat.le_of_ble_eq_true rfl) (Nat.le_of_ble_eq_true rfl) ⟨rfl, by unfold misV misA; rw [← e, if_neg c_94, if_neg c_102]⟩
        · refine a_iload 107 dX11_findMissed_105 rfl rfl ?_
          refine a_goto 112 dX11_findMissed_107 (by decide) ?_
          exact a_ireturn dX11_findMissed_112 rfl rfl (Nat.le_of_ble_eq_true rfl) (Nat.le_of_ble_eq_true rfl) ⟨rfl, by unfold misV misA; rw [← e, if_neg c_94, if_pos c_102]⟩
      · refine a_iload 99 dX11_findMissed_97 rfl rfl ?_
        exact a_ireturn dX11_findMissed_99 rfl rfl (Nat.le_of_ble_eq_true rfl) (Nat.le_of_ble_eq_true rfl) ⟨rfl, by unfold misV misA; rw [← e, if_pos c_94]⟩
    | succ r ih =>
      intro k s4 s5 s6 y o9 hk h4 h5 h6 hy2
      subst h4; subst h5; subst h6; subst hy2
      have L2 : ∀ (r2 y : Nat) (s4 s5 s6 y1 : Int32), y + r2 = T.m → s4 = nI (misY T z (b - T.nu z 6 + k) y (misT T z (b - T.nu z 6) k (0, -9, -9))).1 → s5 = (misY T z (b - T.nu z 6 + k) y (misT T z (b - T.nu z 6) k (0, -9, -9))).2.1 → s6 = (misY T z (b - T.nu z 6 + k) y (misT T z (b - T.nu z 6) k (0, -9, -9))).2.2 → y1 = nI y → rW l G (rRm 6 0 0) mX11_findMissed (rZ G (rV h (some (.int (misV (misA T z b) c)))) 0 0) 0 0 44 [some (.ref (gN G + 0)), some (.ref (gN G + T.la z)), some (.int (nI b)), some (.int c), some (.int s4), some (.int s5), some (.int s6), some (.int (nI b - nI (T.nu z 5))), some (.int (nI (b - T.nu z 6 + k))), some (.int y1)] [] h := by
        intro r2
        induction r2 with
        | zero =>
          intro y s4 s5 s6 y1 hy2 h4 h5 h6 hy1
          subst h4; subst h5; subst h6; subst hy1
          have e : y = T.m := by omega
          subst e
          refine a_iload 46 dX11_findMissed_44 rfl rfl ?_
          refine a_aload_n 47 dX11_findMissed_46 rfl rfl ?_
          refine a_get fd_X11_98 rfl 50 dX11_findMissed_47 rfl (by repeat (first | assumption | (refine rg_ne (by first | decide | omega) ?_) | apply rg_eq | refine rg_fr (by assumption) (by first | decide | (simp; omega)) ?_)) rfl ?_
          refine a_icmp_ge 87 53 dX11_findMissed_50 rfl (by decide) (fun c_50 => ?_) (fun c_50 => absurd (Int32.le_refl _) c_50)
          refine a_iinc _ 90 dX11_findMissed_87 rfl rfl (by decide) rfl ?_
          refine a_goto 34 dX11_findMissed_90 (by decide) ?_
          exact ih (k + 1) _ _ _ _ _ (by omega) rfl rfl rfl (nI_1 _)
        | succ r2 ih2 =>
          intro y s4 s5 s6 y1 hy2 h4 h5 h6 hy1
          subst h4; subst h5; subst h6; subst hy1
          have hle1 := misT_le T z (b - T.nu z 6) k (0, -9, -9)
          have hle2 := misY_le T z (b - T.nu z 6 + k) y (misT T z (b - T.nu z 6) k (0, -9, -9))
          have hkm : k * T.m ≤ 600 * 12 := Nat.mul_le_mul (by omega) hm
          have h00 : (misY T z (b - T.nu z 6 + k) y (misT T z (b - T.nu z 6) k (0, -9, -9))).1 < 2 ^ 30 := by
            have : (((0 : Nat), (-9 : Int32), (-9 : Int32)) : misS).1 = 0 := rfl
            omega
          have hz0 : nI (misY T z (b - T.nu z 6 + k) y (misT T z (b - T.nu z 6) k (0, -9, -9))).1 = 0 ↔ (misY T z (b - T.nu z 6 + k) y (misT T z (b - T.nu z 6) k (0, -9, -9))).1 = 0 := by
            rw [← nI_0]; exact nI_eq (by omega) (by omega)
          by_cases hM : menT T z (b - T.nu z 6 + k) y = true
          · skip
            refine a_iload 46 dX11_findMissed_44 rfl rfl ?_
            refine a_aload_n 47 dX11_findMissed_46 rfl rfl ?_
            refine a_get fd_X11_98 rfl 50 dX11_findMissed_47 rfl (by repeat (first | assumption | (refine rg_ne (by first | decide | omega) ?_) | apply rg_eq | refine rg_fr (by assumption) (by first | decide | (simp; omega)) ?_)) rfl ?_
            refine a_icmp_ge 87 53 dX11_findMissed_50 rfl (by decide) (fun c_50 => absurd c_50 (nI_ge (a := y) (b := T.m) (by omega) (by omega))) (fun c_50 => ?_)
            refine a_aload_n 54 dX11_findMissed_53 rfl rfl ?_
            refine a_aload_n 55 dX11_findMissed_54 rfl rfl ?_
            refine a_iload 57 dX11_findMissed_55 rfl rfl ?_
            refine a_iload 59 dX11_findMissed_57 rfl rfl ?_
            refine a_callV ok_X11_mends ln_X11_417 in_X11_mends rfl 62 dX11_findMissed_59 rfl (k_X11_mends q o hf hfx (by omega) (by omega)) (by repeat (first | assumption | (refine rg_ne (by first | decide | omega) ?_) | apply rg_eq | refine rg_fr (by assumption) (by first | decide | (simp; omega)) ?_)) rfl rfl rfl ⟨(Nat.le_of_ble_eq_true rfl), (Nat.le_of_ble_eq_true rfl)⟩ (Nat.le_of_ble_eq_true rfl) ⟨(Nat.le_of_ble_eq_true rfl), (Nat.le_of_ble_eq_true rfl)⟩ ?_
            rintro _ _ ⟨rfl, rfl⟩
            refine a_if_eq 81 65 dX11_findMissed_62 rfl (by decide) (fun c_62 => absurd c_62 (by rw [if_pos hM]; decide)) (fun c_62 => ?_)
            refine a_iload 67 dX11_findMissed_65 rfl rfl ?_
            refine a_if_ne 78 70 dX11_findMissed_67 rfl (by decide) (fun c_67 => ?_) (fun c_67 => ?_)
            · refine a_iinc _ 81 dX11_findMissed_78 rfl rfl (by decide) rfl ?_
              refine a_iinc _ 84 dX11_findMissed_81 rfl rfl (by decide) rfl ?_
              refine a_goto 44 dX11_findMissed_84 (by decide) ?_
              exact ih2 (y + 1) _ _ _ _ (by omega) (by rw [misY, if_pos hM, if_neg (fun e => c_67 (hz0.mpr e))]; exact nI_1 _) (by rw [misY, if_pos hM, if_neg (fun e => c_67 (hz0.mpr e))]) (by rw [misY, if_pos hM, if_neg (fun e => c_67 (hz0.mpr e))]) (nI_1 y)
            · refine a_iload 72 dX11_findMissed_70 rfl rfl ?_
              refine a_istore 74 dX11_findMissed_72 rfl (by decide) ?_
              refine a_iload 76 dX11_findMissed_74 rfl rfl ?_
              refine a_istore 78 dX11_findMissed_76 rfl (by decide) ?_
              refine a_iinc _ 81 dX11_findMissed_78 rfl rfl (by decide) rfl ?_
              refine a_iinc _ 84 dX11_findMissed_81 rfl rfl (by decide) rfl ?_
              refine a_goto 44 dX11_findMissed_84 (by decide) ?_
              exact ih2 (y + 1) _ _ _ _ (by omega) (by rw [misY, if_pos hM, if_pos (hz0.mp c_67), hz0.mp c_67]; rfl) (by rw [misY, if_pos hM, if_pos (hz0.mp c_67)]) (by rw [misY, if_pos hM, if_pos (hz0.mp c_67)]) (nI_1 y)
          · skip
            refine a_iload 46 dX11_findMissed_44 rfl rfl ?_
            refine a_aload_n 47 dX11_findMissed_46 rfl rfl ?_
            refine a_get fd_X11_98 rfl 50 dX11_findMissed_47 rfl (by repeat (first | assumption | (refine rg_ne (by first | decide | omega) ?_) | apply rg_eq | refine rg_fr (by assumption) (by first | decide | (simp; omega)) ?_)) rfl ?_
            refine a_icmp_ge 87 53 dX11_findMissed_50 rfl (by decide) (fun c_50 => absurd c_50 (nI_ge (a := y) (b := T.m) (by omega) (by omega))) (fun c_50 => ?_)
            refine a_aload_n 54 dX11_findMissed_53 rfl rfl ?_
            refine a_aload_n 55 dX11_findMissed_54 rfl rfl ?_
            refine a_iload 57 dX11_findMissed_55 rfl rfl ?_
            refine a_iload 59 dX11_findMissed_57 rfl rfl ?_
            refine a_callV ok_X11_mends ln_X11_417 in_X11_mends rfl 62 dX11_findMissed_59 rfl (k_X11_mends q o hf hfx (by omega) (by omega)) (by repeat (first | assumption | (refine rg_ne (by first | decide | omega) ?_) | apply rg_eq | refine rg_fr (by assumption) (by first | decide | (simp; omega)) ?_)) rfl rfl rfl ⟨(Nat.le_of_ble_eq_true rfl), (Nat.le_of_ble_eq_true rfl)⟩ (Nat.le_of_ble_eq_true rfl) ⟨(Nat.le_of_ble_eq_true rfl), (Nat.le_of_ble_eq_true rfl)⟩ ?_
            rintro _ _ ⟨rfl, rfl⟩
            refine a_if_eq 81 65 dX11_findMissed_62 rfl (by decide) (fun c_62 => ?_) (fun c_62 => absurd (if_neg hM) c_62)
            refine a_iinc _ 84 dX11_findMissed_81 rfl rfl (by decide) rfl ?_
            refine a_goto 44 dX11_findMissed_84 (by decide) ?_
            exact ih2 (y + 1) _ _ _ _ (by omega) (by rw [misY, if_neg hM]) (by rw [misY, if_neg hM]) (by rw [misY, if_neg hM]) (nI_1 y)
      refine a_iload 36 dX11_findMissed_34 rfl rfl ?_
      refine a_iload 38 dX11_findMissed_36 rfl rfl ?_
      refine a_icmp_gt 93 41 dX11_findMissed_38 rfl (by decide) (fun c_38 => absurd c_38 (fun z => absurd ((lastI (by omega) (by omega) (by omega)).mp z) (by omega))) (fun c_38 => ?_)
      refine a_iconst (0) 42 dX11_findMissed_41 rfl (by decide) ?_
      refine a_istore 44 dX11_findMissed_42 rfl (by decide) ?_
      exact L2 T.m 0 _ _ _ _ (by omega) rfl rfl rfl rfl
  refine a_iconst (0) 1 dX11_findMissed_0 rfl (by decide) ?_
  refine a_istore 3 dX11_findMissed_1 rfl (by decide) ?_
  refine a_bipush (-9) 5 dX11_findMissed_3 rfl (by decide) ?_
  refine a_istore 7 dX11_findMissed_5 rfl (by decide) ?_
  refine a_bipush (-9) 9 dX11_findMissed_7 rfl (by decide) ?_
  refine a_istore 11 dX11_findMissed_9 rfl (by decide) ?_
  refine a_iload_n 12 dX11_findMissed_11 rfl rfl ?_
  refine a_aload_n 13 dX11_findMissed_12 rfl rfl ?_
  refine a_iconst (5) 14 dX11_findMissed_13 rfl (by decide) ?_
  refine a_callV ok_X5_number ln_X11_184 in_X5_number rfl 17 dX11_findMissed_14 rfl (k_X5_num hl1 hl2 5 (by decide)) (by repeat (first | assumption | (refine rg_ne (by first | decide | omega) ?_) | apply rg_eq | refine rg_fr (by assumption) (by first | decide | (simp; omega)) ?_)) rfl rfl rfl ⟨(Nat.le_of_ble_eq_true rfl), (Nat.le_of_ble_eq_true rfl)⟩ (Nat.le_of_ble_eq_true rfl) ⟨(Nat.le_of_ble_eq_true rfl), (Nat.le_of_ble_eq_true rfl)⟩ ?_
  rintro _ _ ⟨rfl, rfl⟩
  rw [hl5]
  refine a_isub 18 dX11_findMissed_17 rfl ?_
  refine a_istore 20 dX11_findMissed_18 rfl (by decide) ?_
  refine a_iconst (0) 21 dX11_findMissed_20 rfl (by decide) ?_
  refine a_iload_n 22 dX11_findMissed_21 rfl rfl ?_
  refine a_aload_n 23 dX11_findMissed_22 rfl rfl ?_
  refine a_bipush (6) 25 dX11_findMissed_23 rfl (by decide) ?_
  refine a_callV ok_X5_number ln_X11_184 in_X5_number rfl 28 dX11_findMissed_25 rfl (k_X5_num hl1 hl2 6 (by decide)) (by repeat (first | assumption | (refine rg_ne (by first | decide | omega) ?_) | apply rg_eq | refine rg_fr (by assumption) (by first | decide | (simp; omega)) ?_)) rfl rfl rfl ⟨(Nat.le_of_ble_eq_true rfl), (Nat.le_of_ble_eq_true rfl)⟩ (Nat.le_of_ble_eq_true rfl) ⟨(Nat.le_of_ble_eq_true rfl), (Nat.le_of_ble_eq_true rfl)⟩ ?_
  rintro _ _ ⟨rfl, rfl⟩
  rw [hl6]
  refine a_isub 29 dX11_findMissed_28 rfl ?_
  refine a_mmax lm_X11_257 rfl 32 dX11_findMissed_29 rfl (Nat.le_of_ble_eq_true rfl) (Nat.le_of_ble_eq_true rfl) ⟨(Nat.le_of_ble_eq_true rfl), (Nat.le_of_ble_eq_true rfl)⟩ ?_
  rw [maxI0 (by omega) (by omega)]
  refine a_istore 34 dX11_findMissed_32 rfl (by decide) ?_
  exact L _ 0 _ _ _ _ _ (Nat.zero_add _) rfl rfl rfl rfl
end CMISS
