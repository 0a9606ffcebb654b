/-! THE CLASS's calls over a law's mights: could, barred, trees, causes, most, goesOn, chain, missed, spread -/
def cAll (G : rG) (h : rH) (T : Tn) : Prop := cAt G h T ∧ cRow G h ∧ cPla G h
abbrev cL : List Nat := [0, 1, 2, 3, 4, 5, 6, 7, 8, 9, 10, 11, 12, 13, 14, 15, 16, 17, 18, 19, 20, 21, 22, 23, 24, 25, 26, 27, 28, 29, 30, 31, 32, 33, 34, 35, 36, 37]
theorem kp_mono {h h' : rH} {S S' : List Nat} (q : kp h h' S) (hS : ∀ k ∈ S, k ∈ S') : kp h h' S' := fun k hk hn => q k hk (fun z => hn (hS k z))
theorem kp_trans {h h1 h2 : rH} {S : List Nat} (q : kp h h1 S) (q2 : kp h1 h2 S) (hl : h.length ≤ h1.length) : kp h h2 S := fun k hk hn => (q2 k (Nat.lt_of_lt_of_le hk hl) hn).trans (q k hk hn)
theorem ex_kp {α : Type} {F : α → va_E} {h h' : rH} {S : List Nat} {k : Nat} (q : ∃ f, h[k]? = some (F f)) (hf : kp h h' S) (hk : k ∉ S) : ∃ f, h'[k]? = some (F f) := by
  obtain ⟨f, e⟩ := q
  exact ⟨f, kp_get hf hk e⟩
theorem cPla.kp {G : rG} {h h' : rH} {S : List Nat} (q : cPla G h) (hf : kp h h' S) (hS : ∀ k ∈ S, k < 17 ∨ 24 < k) : cPla G h' := by
  obtain ⟨⟨a, b, c, q1⟩, q2, q3, q4, q5, q6, q7, q8⟩ := q
  have g : ∀ k, 17 ≤ k → k ≤ 24 → k ∉ S := fun k a b hk => by have := hS k hk; omega
  exact ⟨⟨a, b, c, kp_get hf (g _ (by decide) (by decide)) q1⟩, ex_kp q2 hf (g _ (by decide) (by decide)), ex_kp q3 hf (g _ (by decide) (by decide)), ex_kp q4 hf (g _ (by decide) (by decide)), ex_kp q5 hf (g _ (by decide) (by decide)), ex_kp q6 hf (g _ (by decide) (by decide)), ex_kp q7 hf (g _ (by decide) (by decide)), ex_kp q8 hf (g _ (by decide) (by decide))⟩
theorem cRow.kp {G : rG} {h h' : rH} {S : List Nat} (q : cRow G h) (hf : kp h h' S) (hS : ∀ k ∈ S, k < 25 ∨ 29 < k) : cRow G h' := by
  obtain ⟨q2, q3, q4, q5, q6⟩ := q
  have g : ∀ k, 25 ≤ k → k ≤ 29 → k ∉ S := fun k a b hk => by have := hS k hk; omega
  exact ⟨ex_kp q2 hf (g _ (by decide) (by decide)), ex_kp q3 hf (g _ (by decide) (by decide)), ex_kp q4 hf (g _ (by decide) (by decide)), ex_kp q5 hf (g _ (by decide) (by decide)), ex_kp q6 hf (g _ (by decide) (by decide))⟩
/-- behind a law's weighing -/
theorem wg_all {G : rG} {h h' : rH} {T : Tn} {z : Nat} (q : cAll G h T) (w : wgAt G h' T z) (hf : fr h h' [25, 26]) : cAll G h' T := by
  obtain ⟨q1, ⟨a1, a2, a3, a4, a5⟩, q3⟩ := q
  obtain ⟨w1, -, ⟨f, w2, -⟩, g, w3, -⟩ := w
  exact ⟨w1, ⟨⟨f, w2⟩, ⟨g, w3⟩, ex_kp a3 (kp_fr hf) (by decide), ex_kp a4 (kp_fr hf) (by decide), ex_kp a5 (kp_fr hf) (by decide)⟩, q3.kp (kp_fr hf) (by decide)⟩
theorem all_27 {G : rG} {h h' : rH} {T : Tn} (q : cAll G h T) (w : ∃ f, h'[27]? = some (.inl (gA G 0, 12, .inl f))) (hf : fr h h' [27]) : cAll G h' T := by
  obtain ⟨q1, ⟨a1, a2, a3, a4, a5⟩, q3⟩ := q
  exact ⟨q1.fr hf (by decide), ⟨ex_kp a1 (kp_fr hf) (by decide), ex_kp a2 (kp_fr hf) (by decide), w, ex_kp a4 (kp_fr hf) (by decide), ex_kp a5 (kp_fr hf) (by decide)⟩, q3.kp (kp_fr hf) (by decide)⟩
theorem all_28 {G : rG} {h h' : rH} {T : Tn} (q : cAll G h T) (w : ∃ f, h'[28]? = some (.inl (gA G 0, 24, .inl f))) (hf : fr h h' [28]) : cAll G h' T := by
  obtain ⟨q1, ⟨a1, a2, a3, a4, a5⟩, q3⟩ := q
  exact ⟨q1.fr hf (by decide), ⟨ex_kp a1 (kp_fr hf) (by decide), ex_kp a2 (kp_fr hf) (by decide), ex_kp a3 (kp_fr hf) (by decide), w, ex_kp a5 (kp_fr hf) (by decide)⟩, q3.kp (kp_fr hf) (by decide)⟩
theorem all_29 {G : rG} {h h' : rH} {T : Tn} (q : cAll G h T) (w : ∃ f, h'[29]? = some (.inl (gA G 1, 24, .inl f))) (hf : fr h h' [29]) : cAll G h' T := by
  obtain ⟨q1, ⟨a1, a2, a3, a4, a5⟩, q3⟩ := q
  exact ⟨q1.fr hf (by decide), ⟨ex_kp a1 (kp_fr hf) (by decide), ex_kp a2 (kp_fr hf) (by decide), ex_kp a3 (kp_fr hf) (by decide), ex_kp a4 (kp_fr hf) (by decide), w⟩, q3.kp (kp_fr hf) (by decide)⟩
/-- a number that stands for one of n -/
def oT (n : Nat) (c : Int32) : Option Nat := if 0 ≤ c ∧ c < nI n then some c.toNatClampNeg else none
theorem oT_cases {n : Nat} (hn : n < 2 ^ 31) (c : Int32) : (oT n c = none ∧ ¬ (0 ≤ c ∧ c < nI n)) ∨ ∃ x, x < n ∧ c = nI x ∧ oT n c = some x := by
  by_cases e : 0 ≤ c ∧ c < nI n
  · obtain ⟨x, hx, hc⟩ := nI_of_lt hn e.1 e.2
    exact Or.inr ⟨x, hx, hc, by unfold oT; rw [if_pos e, hc, nI_clamp (by omega)]⟩
  · exact Or.inl ⟨if_neg e, e⟩
theorem oT_yes {n x : Nat} (hx : x < n) (hn : n < 2 ^ 31) : 0 ≤ nI x ∧ nI x < nI n := ⟨nI_pos' (by omega), nI_lt hx hn⟩
/-! the answers -/
def aCould (T : Tn) (c d : Int32) : Int32 := match oT T.nl c, oT T.ny d with
  | some z, some q => bsN (fun p => decide (0 < T.src z q p)) q
  | _, _ => -1
def aBarred (T : Tn) (c : Int32) : Int32 := match oT T.nl c with
  | some z => noI (barT T z)
  | none => -1
def treL (T : Tn) (z : Nat) : Nat → Int64
  | 0 => 1
  | j + 1 => let x := treL T z j * (nI (cntT T z j)).toInt64; x - x / 1000000007 * 1000000007
def aTrees (T : Tn) (c : Int32) : Int32 := match oT T.nl c with
  | some z => (treL T z T.ny).toInt32
  | none => -1
def aCauses (T : Tn) (c d : Int32) : Int32 := match oT T.nl c, oT T.m d with
  | some z, some x => if barT T z = none then nI (cauT T z x) else -3
  | _, _ => -1
def mosT (T : Tn) (z : Nat) : Nat → Option Nat
  | 0 => none
  | x + 1 => match mosT T z x with
    | none => some x
    | some b => if cauT T z b < cauT T z x then some x else some b
def aMost (T : Tn) (c : Int32) : Int32 := match oT T.nl c with
  | some z => if barT T z = none then noI (mosT T z T.m) else -3
  | none => -1
abbrev cntW (T : Tn) (x : Nat) : Nat := sumN (fun j => if T.yw j = x then 1 else 0) T.ny
def aGoes (T : Tn) (c : Int32) : Int32 := match oT T.nl c with
  | some z => if barT T z = none then (if andN (fun x => decide (cauT T z x ≤ 1000000 * cntW T x)) T.m then 0 else 1) else -3
  | none => -1
def ahd (T : Tn) (z : Nat) (c : Nat → Nat) (j : Nat) : Nat → Nat
  | 0 => 0
  | i + 1 => if ahd T z c j i < c i ∧ 0 < T.src z j i then c i else ahd T z c j i
def chA (T : Tn) (z : Nat) : Nat → Nat → Nat
  | 0 => fun _ => 0
  | j + 1 => fun k => if k = j then ahd T z (chA T z j) j j + 1 else chA T z j k
def lonT (T : Tn) (z : Nat) : Nat → Nat
  | 0 => 0
  | j + 1 => if lonT T z j < ahd T z (chA T z j) j j + 1 then ahd T z (chA T z j) j j + 1 else lonT T z j
theorem ahd_le {T : Tn} {z : Nat} {c : Nat → Nat} (hc : ∀ k, c k ≤ k + 1) (j : Nat) : ∀ i, ahd T z c j i ≤ i
  | 0 => Nat.le_refl _
  | i + 1 => by
    have h1 := hc i
    have h2 := ahd_le (T := T) (z := z) hc j i
    rw [ahd]
    split <;> omega
theorem chA_le (T : Tn) (z : Nat) : ∀ j k, chA T z j k ≤ k + 1
  | 0, k => Nat.zero_le _
  | j + 1, k => by
    show (if k = j then _ else _) ≤ _
    by_cases e : k = j
    · rw [if_pos e, e]
      have := ahd_le (T := T) (z := z) (chA_le T z j) j j
      omega
    · rw [if_neg e]; exact chA_le T z j k
theorem lonT_le (T : Tn) (z : Nat) : ∀ j, lonT T z j ≤ j
  | 0 => Nat.le_refl _
  | j + 1 => by
    have := ahd_le (T := T) (z := z) (chA_le T z j) j j
    have := lonT_le T z j
    rw [lonT]
    split <;> omega
def aChain (T : Tn) (c : Int32) : Int32 := match oT T.nl c with
  | some z => nI (lonT T z T.ny)
  | none => -1
def aMissed (T : Tn) (c d : Int32) : Int32 := match oT T.nl c with
  | some z => if 0 ≤ d ∧ d ≤ 2 then (match barT T z with
    | some b => misV (misA T z (T.ym b)) d
    | none => -3) else -2
  | none => -1
def aSpread (T : Tn) (c : Int32) : Int32 := match oT T.nl c with
  | some z => nI (sprT T z)
  | none => -1
section CPUB
variable {l : Launch} {G : rG} {h : rH} {T : Tn}
theorem c_has (q : cAt G h T) (c : Int32) : rM l G 0 mX10_has 0 0 [.ref (gN G + 14), .int c] h (rV h (some (.int (if 0 ≤ c ∧ c < nI T.ny then 1 else 0)))) := k_X10_has q.2.2.2.2.2.2.1.1 c
set_option maxRecDepth 100000 in
set_option maxHeartbeats 400000 in
theorem c_could (q : cAll G h T) (o : T.ok) (c d : Int32) : rM l G 12 mX11_could 0 0 [.ref (gN G + 0), .int c, .int d] h (fun h' v => v = some (.int (aCould T c d)) ∧ cAll G h' T ∧ kp h h' cL) := by
  have hnl := o.nl6
  have hny := o.ny24
  rcases oT_cases (n := T.nl) (by omega) c with ⟨e, hc⟩ | ⟨z, hz, rfl, e⟩
  · have hy := q.1.1
    have ea : aCould T c d = -1 := by unfold aCould; rw [e]
    refine rM_start (by decide) (Nat.le_of_ble_eq_true rfl) ?_
    refine a_aload_n 1 dX11_could_0 rfl rfl ?_
    refine a_iload_n 2 dX11_could_1 rfl rfl ?_
    refine a_callV ok_X11_weighedLaw ln_X11_217 in_X11_weighedLaw rfl 5 dX11_could_2 rfl (k_X11_weighedLawN q.1 hc) (by repeat (first | assumption | (refine rg_ne (by first | decide | omega) ?_) | apply rg_eq | refine rg_fr (by assumption) (by first | decide | (simp; omega)) ?_)) rfl rfl rfl ⟨(Nat.le_of_ble_eq_true rfl), (Nat.le_of_ble_eq_true rfl)⟩ (Nat.le_of_ble_eq_true rfl) ⟨(Nat.le_of_ble_eq_true rfl), (Nat.le_of_ble_eq_true rfl)⟩ ?_
    rintro _ _ ⟨rfl, rfl⟩
    refine a_astoreN_n 6 dX11_could_5 rfl (by decide) ?_
    refine a_aloadN_n 7 dX11_could_6 rfl rfl ?_
    refine a_ifnullN 21 dX11_could_7 (by decide) ?_
    refine a_iconst (-1) 22 dX11_could_21 rfl (by decide) ?_
    exact a_ireturn dX11_could_22 rfl rfl (Nat.le_of_ble_eq_true rfl) (Nat.le_of_ble_eq_true rfl) ⟨by rw [ea], q, fun _ _ _ => rfl⟩
  · have hy := q.1.1
    refine rM_start (by decide) (Nat.le_of_ble_eq_true rfl) ?_
    rcases oT_cases (n := T.ny) (by omega) d with ⟨e2, hd⟩ | ⟨j, hj, rfl, e2⟩
    · have ea : aCould T (nI z) d = -1 := by unfold aCould; rw [e, e2]
      refine a_aload_n 1 dX11_could_0 rfl rfl ?_
      refine a_iload_n 2 dX11_could_1 rfl rfl ?_
      refine a_callV ok_X11_weighedLaw ln_X11_217 in_X11_weighedLaw rfl 5 dX11_could_2 rfl (k_X11_weighedLaw q.1 o q.2.1 hz) (by repeat (first | assumption | (refine rg_ne (by first | decide | omega) ?_) | apply rg_eq | refine rg_fr (by assumption) (by first | decide | (simp; omega)) ?_)) rfl rfl rfl ⟨(Nat.le_of_ble_eq_true rfl), (Nat.le_of_ble_eq_true rfl)⟩ (Nat.le_of_ble_eq_true rfl) ⟨(Nat.le_of_ble_eq_true rfl), (Nat.le_of_ble_eq_true rfl)⟩ ?_
      rintro h1 _ ⟨rfl, w1, hf1⟩
      have hy1 := w1.1.1
      have r1 := (wg_row w1).1
      have qa := wg_all q w1 hf1
      refine a_astore_n 6 dX11_could_5 rfl (by decide) ?_
      refine a_aload_n 7 dX11_could_6 rfl rfl ?_
      refine a_ifnull 10 dX11_could_7 rfl ?_
      refine a_aload_n 11 dX11_could_10 rfl rfl ?_
      refine a_get fd_X11_53 rfl 14 dX11_could_11 rfl (by repeat (first | assumption | (refine rg_ne (by first | decide | omega) ?_) | apply rg_eq | refine rg_fr (by assumption) (by first | decide | (simp; omega)) ?_)) rfl ?_
      refine a_iload_n 15 dX11_could_14 rfl rfl ?_
      refine a_callV ok_X10_has ln_X11_208 in_X10_has rfl 18 dX11_could_15 rfl (c_has w1.1 d) (by repeat (first | assumption | (refine rg_ne (by first | decide | omega) ?_) | apply rg_eq | refine rg_fr (by assumption) (by first | decide | (simp; omega)) ?_)) rfl rfl rfl ⟨(Nat.le_of_ble_eq_true rfl), (Nat.le_of_ble_eq_true rfl)⟩ (Nat.le_of_ble_eq_true rfl) ⟨(Nat.le_of_ble_eq_true rfl), (Nat.le_of_ble_eq_true rfl)⟩ ?_
      rintro _ _ ⟨rfl, rfl⟩
      refine a_if_ne 23 21 dX11_could_18 rfl (by decide) (fun c_18 => absurd (if_neg hd) c_18) (fun c_18 => ?_)
      refine a_iconst (-1) 22 dX11_could_21 rfl (by decide) ?_
      exact a_ireturn dX11_could_22 rfl rfl (Nat.le_of_ble_eq_true rfl) (Nat.le_of_ble_eq_true rfl) ⟨by rw [ea], qa, kp_mono (kp_fr hf1) (by decide)⟩
    · have ea : aCould T (nI z) (nI j) = bsN (fun p => decide (0 < T.src z j p)) j := by unfold aCould; rw [e, e2]
      have L : ∀ (h1 : rH) (w1 : wgAt G h1 T z) (hf1 : fr h h1 [25, 26]) (r i : Nat) (s y : Int32), i + r = T.ny → s = bsN (fun p => decide (0 < T.src z j p)) i → y = nI i → rW l G (rRm 12 0 0) mX11_could (rZ G (fun h' v => v = some (.int (aCould T (nI z) (nI j))) ∧ cAll G h' T ∧ kp h h' cL) 0 0) 0 0 29 [some (.ref (gN G + 0)), some (.int (nI z)), some (.int (nI j)), some (.ref (gN G + T.la z)), some (.int s), some (.int y)] [] h1 := by
        intro h1 w1 hf1 r
        have hy1 := w1.1.1
        have r1 := (wg_row w1).1
        induction r with
        | zero =>
          intro i s y hi hs hy2
          subst hs; subst hy2
          have e : i = T.ny := by omega
          subst e
          refine a_iload 31 dX11_could_29 rfl rfl ?_
          refine a_aload_n 32 dX11_could_31 rfl rfl ?_
          refine a_get fd_X11_53 rfl 35 dX11_could_32 rfl (by repeat (first | assumption | (refine rg_ne (by first | decide | omega) ?_) | apply rg_eq | refine rg_fr (by assumption) (by first | decide | (simp; omega)) ?_)) rfl ?_
          refine a_get fd_X11_195 rfl 38 dX11_could_35 rfl (by repeat (first | assumption | (refine rg_ne (by first | decide | omega) ?_) | apply rg_eq | refine rg_fr (by assumption) (by first | decide | (simp; omega)) ?_)) rfl ?_
          refine a_icmp_ge 67 41 dX11_could_38 rfl (by decide) (fun c_38 => ?_) (fun c_38 => absurd (Int32.le_refl _) c_38)
          refine a_iload 69 dX11_could_67 rfl rfl ?_
          exact a_ireturn dX11_could_69 rfl rfl (Nat.le_of_ble_eq_true rfl) (Nat.le_of_ble_eq_true rfl) ⟨by rw [ea, bsN_ext (j := j) (by omega) (fun i h1 h2 => by rw [src_0 h1]; rfl)], wg_all q w1 hf1, kp_mono (kp_fr hf1) (by decide)⟩
        | succ r ih =>
          intro i s y hi hs hy2
          subst hs; subst hy2
          have hle := nI_le0 (k := T.src z j i) (by have := src_lt o (j := j) (i := i) hz; omega)
          refine a_iload 31 dX11_could_29 rfl rfl ?_
          refine a_aload_n 32 dX11_could_31 rfl rfl ?_
          refine a_get fd_X11_53 rfl 35 dX11_could_32 rfl (by repeat (first | assumption | (refine rg_ne (by first | decide | omega) ?_) | apply rg_eq | refine rg_fr (by assumption) (by first | decide | (simp; omega)) ?_)) rfl ?_
          refine a_get fd_X11_195 rfl 38 dX11_could_35 rfl (by repeat (first | assumption | (refine rg_ne (by first | decide | omega) ?_) | apply rg_eq | refine rg_fr (by assumption) (by first | decide | (simp; omega)) ?_)) rfl ?_
          refine a_icmp_ge 67 41 dX11_could_38 rfl (by decide) (fun c_38 => absurd c_38 (nI_ge (a := i) (b := T.ny) (by omega) (by omega))) (fun c_38 => ?_)
          refine a_aload_n 42 dX11_could_41 rfl rfl ?_
          refine a_aload_n 43 dX11_could_42 rfl rfl ?_
          refine a_iload_n 44 dX11_could_43 rfl rfl ?_
          refine a_iload 46 dX11_could_44 rfl rfl ?_
          refine a_callV ok_X11_sourceMight ln_X11_220 in_X11_sourceMight rfl 49 dX11_could_46 rfl (k_X11_sourceMight w1 o hj (by omega)) (by repeat (first | assumption | (refine rg_ne (by first | decide | omega) ?_) | apply rg_eq | refine rg_fr (by assumption) (by first | decide | (simp; omega)) ?_)) rfl rfl rfl ⟨(Nat.le_of_ble_eq_true rfl), (Nat.le_of_ble_eq_true rfl)⟩ (Nat.le_of_ble_eq_true rfl) ⟨(Nat.le_of_ble_eq_true rfl), (Nat.le_of_ble_eq_true rfl)⟩ ?_
          rintro _ _ ⟨rfl, rfl⟩
          refine a_if_le 61 52 dX11_could_49 rfl (by decide) (fun c_49 => ?_) (fun c_49 => ?_)
          · refine a_iinc _ 64 dX11_could_61 rfl rfl (by decide) rfl ?_
            refine a_goto 29 dX11_could_64 (by decide) ?_
            exact ih (i + 1) _ _ (by omega) (by rw [bsN, hle.mp c_49]; exact Int32.or_zero.symm) (nI_1 i)
          · refine a_iload 54 dX11_could_52 rfl rfl ?_
            refine a_iconst (1) 55 dX11_could_54 rfl (by decide) ?_
            refine a_iload 57 dX11_could_55 rfl rfl ?_
            refine a_ishl 58 dX11_could_57 rfl ?_
            refine a_ior 59 dX11_could_58 rfl ?_
            refine a_istore 61 dX11_could_59 rfl (by decide) ?_
            refine a_iinc _ 64 dX11_could_61 rfl rfl (by decide) rfl ?_
            refine a_goto 29 dX11_could_64 (by decide) ?_
            exact ih (i + 1) _ _ (by omega) (bsN_t (P := fun p => decide (0 < T.src z j p)) (decide_eq_true (Nat.pos_of_ne_zero (fun e => c_49 (hle.mpr e))))) (nI_1 i)
      refine a_aload_n 1 dX11_could_0 rfl rfl ?_
      refine a_iload_n 2 dX11_could_1 rfl rfl ?_
      refine a_callV ok_X11_weighedLaw ln_X11_217 in_X11_weighedLaw rfl 5 dX11_could_2 rfl (k_X11_weighedLaw q.1 o q.2.1 hz) (by repeat (first | assumption | (refine rg_ne (by first | decide | omega) ?_) | apply rg_eq | refine rg_fr (by assumption) (by first | decide | (simp; omega)) ?_)) rfl rfl rfl ⟨(Nat.le_of_ble_eq_true rfl), (Nat.le_of_ble_eq_true rfl)⟩ (Nat.le_of_ble_eq_true rfl) ⟨(Nat.le_of_ble_eq_true rfl), (Nat.le_of_ble_eq_true rfl)⟩ ?_
      rintro h1 _ ⟨rfl, w1, hf1⟩
      have hy1 := w1.1.1
      have r1 := (wg_row w1).1
      refine a_astore_n 6 dX11_could_5 rfl (by decide) ?_
      refine a_aload_n 7 dX11_could_6 rfl rfl ?_
      refine a_ifnull 10 dX11_could_7 rfl ?_
      refine a_aload_n 11 dX11_could_10 rfl rfl ?_
      refine a_get fd_X11_53 rfl 14 dX11_could_11 rfl (by repeat (first | assumption | (refine rg_ne (by first | decide | omega) ?_) | apply rg_eq | refine rg_fr (by assumption) (by first | decide | (simp; omega)) ?_)) rfl ?_
      refine a_iload_n 15 dX11_could_14 rfl rfl ?_
      refine a_callV ok_X10_has ln_X11_208 in_X10_has rfl 18 dX11_could_15 rfl (c_has w1.1 (nI j)) (by repeat (first | assumption | (refine rg_ne (by first | decide | omega) ?_) | apply rg_eq | refine rg_fr (by assumption) (by first | decide | (simp; omega)) ?_)) rfl rfl rfl ⟨(Nat.le_of_ble_eq_true rfl), (Nat.le_of_ble_eq_true rfl)⟩ (Nat.le_of_ble_eq_true rfl) ⟨(Nat.le_of_ble_eq_true rfl), (Nat.le_of_ble_eq_true rfl)⟩ ?_
      rintro _ _ ⟨rfl, rfl⟩
      refine a_if_ne 23 21 dX11_could_18 rfl (by decide) (fun c_18 => ?_) (fun c_18 => absurd c_18 (by rw [if_pos (oT_yes hj (by omega))]; decide))
      refine a_iconst (0) 24 dX11_could_23 rfl (by decide) ?_
      refine a_istore 26 dX11_could_24 rfl (by decide) ?_
      refine a_iconst (0) 27 dX11_could_26 rfl (by decide) ?_
      refine a_istore 29 dX11_could_27 rfl (by decide) ?_
      exact L _ w1 hf1 T.ny 0 _ _ (by omega) rfl rfl
end CPUB
