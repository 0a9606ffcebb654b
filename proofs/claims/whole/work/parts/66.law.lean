/-! THE CLASS: law -/
abbrev lawI (f : Nat → Int32) (w : Nat) : Int32 := if w = 6 then (if f 6 < f 5 then f 5 else f 6) else f w
abbrev nuT (t : tolT) (w : Nat) : Nat := if w = 6 then max (numT t 6) (numT t 5) else numT t w
abbrev newLaw (T : Tn) (t : tolT) (hl : Nat) : Tn := (T.1, T.2.1, (T.nl + 1, (fun z w => if z = T.nl then nuT t w else T.nu z w), (fun z => if z = T.nl then hl else T.la z)), T.2.2.2.1, T.2.2.2.2.1, 0, T.tr)
def lawR (T : Tn) (X : Sum Nat tolT) (hl : Nat) : Int32 × Tn := match X with
  | .inl p => (-100 - nI p, setFT T 0 T.tr)
  | .inr t => if T.nl = 6 then (-4, setFT T 0 T.tr) else (nI T.nl, newLaw T t hl)
def aLaw (T : Tn) (c d i n : Int32) (hl : Nat) : Int32 × Tn := if (refF T c d i n).1 = 0 then (match oT 4 c with
    | some z => lawR T (lawS (codeT T z i.toNatClampNeg) n.toNatClampNeg) hl
    | none => (0, T)) else ((refF T c d i n).1, setFT T (refF T c d i n).2 T.tr)
theorem numT_lt {t : tolT} (h : tolOk t) (w : Nat) : numT t w < 10 := by
  unfold numT
  cases e : t w with
  | none =>
    show untN w < 10
    unfold untN
    (repeat' split) <;> omega
  | some v => exact (h w v e).2
theorem numT_1 {t : tolT} (h : tolOk t) : 1 ≤ numT t 5 := by
  unfold numT
  cases e : t 5 with
  | none => decide
  | some v => exact (h 5 v e).1
theorem nuT_lt {t : tolT} (h : tolOk t) (w : Nat) : nuT t w < 10 := by
  have h6 := numT_lt h 6
  have h5 := numT_lt h 5
  have hw := numT_lt h w
  unfold nuT
  split <;> omega
theorem lawI_N {t : tolT} (h : tolOk t) {f : Nat → Int32} (hf : ∀ w, w < 7 → f w = nI (numT t w)) : ∀ w, w < 7 → lawI f w = nI (nuT t w) := by
  intro w hw
  have h6 := numT_lt h 6
  have h5 := numT_lt h 5
  unfold lawI nuT
  by_cases e : w = 6
  · rw [if_pos e, if_pos e, hf 6 (by decide), hf 5 (by decide)]
    by_cases z : numT t 6 < numT t 5
    · rw [if_pos (nI_lt z (by omega)), Nat.max_eq_right (by omega)]
    · rw [if_neg (nI_nlt (by omega) (by omega)), Nat.max_eq_left (by omega)]
  · rw [if_neg e, if_neg e, hf w hw]
theorem all_txtL {G : rG} {h h' : rH} {T : Tn} {s : ltS} (q : cAll G h T) (e : ltAt G h' s) (hf : fr h h' [4, 5, 6]) : cAll G h' T := by
  obtain ⟨⟨h0, ⟨s2, t1, t2⟩, -, h3, h4, h5, h6, h7⟩, q2, q3⟩ := q
  have hk := kp_fr hf
  exact ⟨⟨kp_get hk (by decide) h0, ⟨s2, kp_get hk (by decide) t1, kp_get hk (by decide) t2⟩, ⟨s, e⟩, h3.kp hk (by decide), h4.kp hk (by decide), h5.kp hk (by decide), h6.kp hk (by decide), h7.kp hk (by decide)⟩, q2.kp hk (by decide), q3.kp hk (by decide)⟩
theorem law_fin {G : rG} {h h3 h4 : rH} {T : Tn} {t : tolT} {f : Nat → Int32} {p : Nat → Option Nat} {hl : Nat} (ht : tolOk t) (q : cAll G h (setFT T 0 T.tr)) (hnl : T.nl < 6) (hlen : 61 ≤ hl) (hl0 : h.length = hl) (hp : h[13]? = some (.inl (gA G 4, 6, .inr (.inr (.inr (.inr p)))))) (ha : h3[hl]? = some (.inr (5, [.ref (gN G + (hl + 1))]))) (hfa : h3[hl + 1]? = some (.inl (gA G 0, 7, .inl f))) (hfx : ∀ w, w < 7 → f w = nI (nuT t w)) (hk : kp h h3 []) (e4 : h4 = (h3.set 13 (.inl (gA G 4, 6, .inr (.inr (.inr (.inr (va_up p (nI T.nl).toNatClampNeg (some (gN G + hl))))))))).set 0 (ytc G (nI T.m) (nI T.nl + 1) 0 T.tr)) : cAll G h4 (newLaw T t hl) ∧ kC h h4 := by
  subst e4
  have h3l := (List.getElem?_eq_some_iff.mp hfa).1
  have kk : kp h ((h3.set 13 (.inl (gA G 4, 6, .inr (.inr (.inr (.inr (va_up p (nI T.nl).toNatClampNeg (some (gN G + hl))))))))).set 0 (ytc G (nI T.m) (nI T.nl + 1) 0 T.tr)) [0, 13] := kp_tr hk (kp_fr (fr_set (fr_set (fr_refl _ _) (by simp)) (by simp))) (by omega)
  obtain ⟨⟨h0, t1, t2, c3, c4, ⟨p', hp', hp2⟩, c6, c7⟩, q2, q3⟩ := q
  have ep : p' = p := by
    rw [hp] at hp'
    simp only [Option.some.injEq, Sum.inl.injEq, Prod.mk.injEq, Sum.inr.injEq, true_and] at hp'
    exact hp'.symm
  subst ep
  have zz := cTxt.kp ⟨t1, t2⟩ kk (by decide)
  refine ⟨⟨⟨?_, zz.1, zz.2, c3.kp kk (by decide), c4.kp kk (by decide), ⟨_, rg_ne (by decide) (rg_eq (kp_get hk (fun w => by cases w) hp)), fun z hz => ?_⟩, c6.kp kk (by decide), c7.kp kk (by decide)⟩, q2.kp kk (by decide), q3.kp kk (by decide)⟩, kC_kp kk (by decide)⟩
  · rw [show nI T.nl + 1 = nI (T.nl + 1) from nI_1 _]
    exact rg_eq (rg_ne (by decide) (kp_get hk (fun w => by cases w) h0))
  · rw [nI_clamp (by omega), va_upN]
    dsimp only
    by_cases ez : z = T.nl
    · rw [if_pos ez, if_pos ez]
      exact ⟨rfl, hlen, hl + 1, f, by omega, ⟨rg_ne (by omega) (rg_ne (by omega) ha), rg_ne (by omega) (rg_ne (by omega) hfa)⟩, fun w hw => by rw [if_pos ez]; exact hfx w hw⟩
    · rw [if_neg ez, if_neg ez]
      obtain ⟨a1, a2, cb, g, a3, ⟨a4, a5⟩, a6⟩ := hp2 z (Nat.lt_of_le_of_ne (Nat.le_of_lt_succ hz) ez)
      refine ⟨a1, a2, cb, g, a3, ⟨?_, ?_⟩, fun w hw => by rw [if_neg ez]; exact a6 w hw⟩
      · exact rg_ne (show 0 ≠ T.la z by have : 61 ≤ T.la z := a2; omega) (rg_ne (show 13 ≠ T.la z by have : 61 ≤ T.la z := a2; omega) (kp_get hk (fun w => by cases w) a4))
      · exact rg_ne (by omega) (rg_ne (by omega) (kp_get hk (fun w => by cases w) a5))
theorem law_kp {h2 h3 : rH} {e : va_E} (q : kp (h2 ++ [e]) h3 [h2.length]) : kp h2 h3 [] := fun k hk _ => by
  rw [q k (by simp; omega) (by simp; omega)]
  exact List.getElem?_append_left hk
theorem law_end {G : rG} {h h1 h2 h4 : rH} {T' : Tn} (q : cAll G h4 T' ∧ kC h2 h4) (hf1 : fr h h1 [0]) (hf2 : fr h1 h2 [4, 5, 6]) : cAll G h4 T' ∧ kC h h4 :=
  ⟨q.1, fun k hk h3 h5 => (q.2 k (by rw [hf2.1, hf1.1]; exact hk) h3 h5).trans ((hf2.2 k (by simp; omega)).trans (hf1.2 k (by simp; omega)))⟩
section CLAW
variable {l : Launch} {G : rG} {h : rH} {T : Tn}
set_option maxRecDepth 100000 in
set_option maxHeartbeats 400000 in
theorem k_X5_init {a : Nat} {s : ltS} (hne : a ≠ 4 ∧ a ≠ 5 ∧ a ≠ 6) (hc : h[a]? = some (.inr (5, [.null]))) (hs : ltAt G h s) : rM l G 2 mX5_init 1 7 [.ref (gN G + a), .ref (gN G + 4)] h (fun h' v => v = none ∧ h'[a]? = some (.inr (5, [.ref (gN G + h.length)])) ∧ (∃ f, h'[h.length]? = some (.inl (gA G 0, 7, .inl f)) ∧ ∀ w, w < 7 → f w = lawI s.2.2.2.1 w) ∧ kp h h' [a]) := by
  obtain ⟨s4, s5, s6⟩ := hs
  have hal := (List.getElem?_eq_some_iff.mp hc).1
  have h4l := (List.getElem?_eq_some_iff.mp s4).1
  have h5l := (List.getElem?_eq_some_iff.mp s5).1
  have h6l := (List.getElem?_eq_some_iff.mp s6).1
  refine rM_start (by decide) (Nat.le_of_ble_eq_true rfl) ?_
  have A : ∀ (r k : Nat) (f : Nat → Int32) (h1 : rH) (y : Int32), k + r = 7 → y = nI k → h1[a]? = some (.inr (5, [.ref (gN G + h.length)])) → h1[h.length]? = some (.inl (gA G 0, 7, .inl f)) → (∀ w, w < k → f w = lawI s.2.2.2.1 w) → kp h h1 [a] → rW l G (rRm 2 1 7) mX5_init (rZ G (fun h' v => v = none ∧ h'[a]? = some (.inr (5, [.ref (gN G + h.length)])) ∧ (∃ f, h'[h.length]? = some (.inl (gA G 0, 7, .inl f)) ∧ ∀ w, w < 7 → f w = lawI s.2.2.2.1 w) ∧ kp h h' [a]) 1 7) 1 7 14 [some (.ref (gN G + a)), some (.ref (gN G + 4)), some (.int y)] [] h1 := by
    intro r
    induction r with
    | zero =>
      intro k f h1 y hk hy ha hf hx hkp
      subst hy
      have e : k = 7 := by omega
      subst e
      refine a_iload_n 15 dX5_init_14 rfl rfl ?_
      refine a_aload_n 16 dX5_init_15 rfl rfl ?_
      refine a_get fd_X5_9 rfl 19 dX5_init_16 rfl (by repeat (first | assumption | (refine rg_ne (by first | decide | omega) ?_) | apply rg_eq | refine rg_fr (by assumption) (by first | decide | (simp; omega)) ?_)) rfl ?_
      refine a_alen_0 20 dX5_init_19 rfl (by repeat (first | assumption | (refine rg_ne (by first | decide | omega) ?_) | apply rg_eq | refine rg_fr (by assumption) (by first | decide | (simp; omega)) ?_)) ?_
      refine a_icmp_ge 40 23 dX5_init_20 rfl (by decide) (fun c_20 => ?_) (fun c_20 => absurd (by decide) c_20)
      exact a_return dX5_init_40 rfl (Nat.le_of_ble_eq_true rfl) (Nat.le_of_ble_eq_true rfl) ⟨rfl, ha, ⟨f, hf, hx⟩, hkp⟩
    | succ r ih =>
      intro k f h1 y hk hy ha hf hx hkp
      subst hy
      have vk : vp_in (nI k) 7 := vp_in_nI (by omega) (by decide)
      have u4 := kp_get hkp (by simp; omega) s4
      have u5 := kp_get hkp (by simp; omega) s5
      have u6 := kp_get hkp (by simp; omega) s6
      have e1 : (if nI k = 6 then (if s.2.2.2.1 6 < s.2.2.2.1 5 then s.2.2.2.1 5 else s.2.2.2.1 6) else if 0 ≤ nI k ∧ nI k < 7 then s.2.2.2.1 (nI k).toNatClampNeg else 0) = lawI s.2.2.2.1 k := by
        unfold lawI
        rw [if_cg (show nI k = 6 ↔ k = 6 from nI_eq (a := k) (b := 6) (by omega) (by decide)) rfl rfl, if_pos (show 0 ≤ nI k ∧ nI k < 7 from ⟨nI_pos' (by omega), nI_lt (b := 7) (by omega) (by decide)⟩), nI_clamp (by omega)]
      refine a_iload_n 15 dX5_init_14 rfl rfl ?_
      refine a_aload_n 16 dX5_init_15 rfl rfl ?_
      refine a_get fd_X5_9 rfl 19 dX5_init_16 rfl (by repeat (first | assumption | (refine rg_ne (by first | decide | omega) ?_) | apply rg_eq | refine rg_fr (by assumption) (by first | decide | (simp; omega)) ?_)) rfl ?_
      refine a_alen_0 20 dX5_init_19 rfl (by repeat (first | assumption | (refine rg_ne (by first | decide | omega) ?_) | apply rg_eq | refine rg_fr (by assumption) (by first | decide | (simp; omega)) ?_)) ?_
      refine a_icmp_ge 40 23 dX5_init_20 rfl (by decide) (fun c_20 => absurd c_20 (nI_ge (a := k) (b := 7) (by omega) (by decide))) (fun c_20 => ?_)
      refine a_aload_n 24 dX5_init_23 rfl rfl ?_
      refine a_get fd_X5_9 rfl 27 dX5_init_24 rfl (by repeat (first | assumption | (refine rg_ne (by first | decide | omega) ?_) | apply rg_eq | refine rg_fr (by assumption) (by first | decide | (simp; omega)) ?_)) rfl ?_
      refine a_iload_n 28 dX5_init_27 rfl rfl ?_
      refine a_aload_n 29 dX5_init_28 rfl rfl ?_
      refine a_iload_n 30 dX5_init_29 rfl rfl ?_
      refine a_callV ok_X6_lawNumber ln_X5_15 in_X6_lawNumber rfl 33 dX5_init_30 rfl (k_X6_lawNumber ⟨u4, u5, u6⟩ (nI k)) (by repeat (first | assumption | (refine rg_ne (by first | decide | omega) ?_) | apply rg_eq | refine rg_fr (by assumption) (by first | decide | (simp; omega)) ?_)) rfl rfl rfl ⟨(Nat.le_of_ble_eq_true rfl), (Nat.le_of_ble_eq_true rfl)⟩ (Nat.le_of_ble_eq_true rfl) ⟨(Nat.le_of_ble_eq_true rfl), (Nat.le_of_ble_eq_true rfl)⟩ ?_
      rintro _ _ ⟨rfl, rfl⟩
      rw [e1]
      refine a_iastore 34 dX5_init_33 rfl (by repeat (first | assumption | (refine rg_ne (by first | decide | omega) ?_) | apply rg_eq | refine rg_fr (by assumption) (by first | decide | (simp; omega)) ?_)) vk ?_
      refine a_iinc _ 37 dX5_init_34 rfl rfl (by decide) rfl ?_
      refine a_goto 14 dX5_init_37 (by decide) ?_
      exact ih (k + 1) _ _ _ (by omega) (nI_1 k) (rg_ne (by omega) ha) (rg_eq hf) (fun w hw => by rw [nI_clamp (by omega)]; by_cases e : w = k; (subst e; exact pk_us); (rw [pk_un e]; exact hx w (by omega))) (fun j hj hn => rg_ne (by omega) (hkp j hj hn))
  have h0 : (h ++ [aI G 7])[a]? = some (.inr (5, [.null])) := rg_app hc
  refine a_aload_n 1 dX5_init_0 rfl rfl ?_
  refine a_objInit lo_X5_3 oi_i oi_c rfl 4 dX5_init_1 rfl (Nat.le_of_ble_eq_true rfl) (Nat.le_of_ble_eq_true rfl) ?_
  refine a_aload_n 5 dX5_init_4 rfl rfl ?_
  refine a_bipush (7) 7 dX5_init_5 rfl (by decide) ?_
  refine a_newarr_int wa_int 9 dX5_init_7 rfl (by decide) rfl (Nat.le_of_ble_eq_true rfl) ⟨(Nat.le_of_ble_eq_true rfl), (Nat.le_of_ble_eq_true rfl)⟩ ?_
  refine a_putF fd_X5_9 cl_X5 rfl 12 dX5_init_9 rfl (by repeat (first | assumption | (refine rg_ne (by first | decide | omega) ?_) | apply rg_eq | apply rg_app | refine rg_fr (by assumption) (by first | decide | (simp; omega)) ?_)) (Nat.le_of_ble_eq_true rfl) rfl rfl rfl ff_X5_9 rfl rfl ?_
  refine a_iconst (0) 13 dX5_init_12 rfl (by decide) ?_
  refine a_istore_n 14 dX5_init_13 rfl (by decide) ?_
  exact A 7 0 (fun _ => 0) _ _ (by omega) rfl (rg_eq h0) (rg_ne (by omega) at_app) (fun w hw => absurd hw (by omega)) (fun j hj hn => rg_ne (fun z => hn (by simp; exact z.symm)) (List.getElem?_append_left hj))
set_option maxRecDepth 100000 in
set_option maxHeartbeats 400000 in
theorem c_lawC (q : cAll G h T) (o : T.ok) (hlen : 61 ≤ h.length) (c d i n : Int32) : rM l G 12 mX11_law 2 8 [.ref (gN G + 0), .int c, .int d, .int i, .int n] h (fun h' v => v = some (.int (aLaw T c d i n h.length).1) ∧ cAll G h' (aLaw T c d i n h.length).2 ∧ kC h h') := by
  have hy := q.1.1
  have hnl := o.nl6
  by_cases hr : (refF T c d i n).1 = 0
  · obtain ⟨z, a, N, hz, rfl, ez, rfl, rfl, haN, er, -, -⟩ := refF_ok o hr
    have hsz := o.sz60 hz
    have ea : aLaw T (nI z) d (nI a) (nI N) h.length = lawR T (lawS (codeT T z a) N) h.length := by
      unfold aLaw
      rw [if_pos hr, ez, nI_clamp (by omega), nI_clamp (by omega)]
    have hrc := c_refusal (l := l) q (nI z) d (nI a) (nI N)
    rw [hr, er] at hrc
    have hW : ∀ nu to : Nat → Int32, (∀ j, j < 7 → nu j = rUntold j ∧ to j = 0) → ltOk N (ltGo (codeT T z a) N 0 (0, 0, 0, nu, to)) (lawS (codeT T z a) N) := fun nu to hnt => ltGo_lawS (by omega) 7 N 0 (fun _ => none) 0 nu to (by omega) (by omega) (fun w v hv => by cases hv) (fun w hw => ⟨(hnt w hw).1.trans (unt_D w hw), ⟨fun _ => rfl, fun _ => (hnt w hw).2⟩⟩) (by omega)
    cases hX : lawS (codeT T z a) N with
    | inl p =>
      rw [hX] at ea hW
      have ea1 : aLaw T (nI z) d (nI a) (nI N) h.length = (-100 - nI p, setFT T 0 T.tr) := ea
      rw [ea1]
      refine rM_start (by decide) (Nat.le_of_ble_eq_true rfl) ?_
      refine a_aload_n 1 dX11_law_0 rfl rfl ?_
      refine a_iload_n 2 dX11_law_1 rfl rfl ?_
      refine a_iload_n 3 dX11_law_2 rfl rfl ?_
      refine a_iload_n 4 dX11_law_3 rfl rfl ?_
      refine a_iload 6 dX11_law_4 rfl rfl ?_
      refine a_callV ok_X11_refusalOfCells ln_X11_82 in_X11_refusalOfCells rfl 9 dX11_law_6 rfl (hrc) (by repeat (first | assumption | (refine rg_ne (by first | decide | omega) ?_) | apply rg_eq | refine rg_fr (by assumption) (by first | decide | (simp; omega)) ?_)) rfl rfl rfl ⟨(Nat.le_of_ble_eq_true rfl), (Nat.le_of_ble_eq_true rfl)⟩ (Nat.le_of_ble_eq_true rfl) ⟨(Nat.le_of_ble_eq_true rfl), (Nat.le_of_ble_eq_true rfl)⟩ ?_
      rintro h1 _ ⟨rfl, q1, hf1⟩
      have hy1 := q1.1.1
      obtain ⟨hs, f, hf, hfx⟩ := sh_at q1 hz
      obtain ⟨s0, hs0⟩ := q1.1.2.2.1
      have ht2 := hs0.1
      refine a_istore 11 dX11_law_9 rfl (by decide) ?_
      refine a_iload 13 dX11_law_11 rfl rfl ?_
      refine a_if_eq 19 16 dX11_law_13 rfl (by decide) (fun c_13 => ?_) (fun c_13 => absurd rfl c_13)
      refine a_aload_n 20 dX11_law_19 rfl rfl ?_
      refine a_get fd_X11_27 rfl 23 dX11_law_20 rfl (by repeat (first | assumption | (refine rg_ne (by first | decide | omega) ?_) | apply rg_eq | refine rg_fr (by assumption) (by first | decide | (simp; omega)) ?_)) rfl ?_
      refine a_aload_n 24 dX11_law_23 rfl rfl ?_
      refine a_iload_n 25 dX11_law_24 rfl rfl ?_
      refine a_callV ok_X11_sheetAt ln_X11_86 in_X11_sheetAt rfl 28 dX11_law_25 rfl (c_sheet q1.1 hz) (by repeat (first | assumption | (refine rg_ne (by first | decide | omega) ?_) | apply rg_eq | refine rg_fr (by assumption) (by first | decide | (simp; omega)) ?_)) rfl rfl rfl ⟨(Nat.le_of_ble_eq_true rfl), (Nat.le_of_ble_eq_true rfl)⟩ (Nat.le_of_ble_eq_true rfl) ⟨(Nat.le_of_ble_eq_true rfl), (Nat.le_of_ble_eq_true rfl)⟩ ?_
      rintro _ _ ⟨rfl, rfl⟩
      refine a_iload_n 29 dX11_law_28 rfl rfl ?_
      refine a_iload 31 dX11_law_29 rfl rfl ?_
      refine a_callU ok_X9_firstFault cu_X11_173_X6 rfl 34 dX11_law_31 rfl (k_X9_ffL hs0 (by simp; omega) (by simp; omega) hs hf (by omega) (fun p hp => hfx (a + p) (by exact Nat.lt_of_lt_of_le (Nat.add_lt_add_left hp a) haN))) (by repeat (first | assumption | (refine rg_ne (by first | decide | omega) ?_) | apply rg_eq | refine rg_fr (by assumption) (by first | decide | (simp; omega)) ?_)) rfl rfl rfl ⟨(Nat.le_of_ble_eq_true rfl), (Nat.le_of_ble_eq_true rfl)⟩ (Nat.le_of_ble_eq_true rfl) ⟨(Nat.le_of_ble_eq_true rfl), (Nat.le_of_ble_eq_true rfl)⟩ ?_
      rintro h2 _ ⟨nu, to, hnt, rfl, hs2, hf2⟩
      have hA := (hW nu to hnt).1
      have hp60 := (hW nu to hnt).2
      have q2 : cAll G h2 (setFT T 0 T.tr) := all_txtL q1 hs2 hf2
      rw [show ltAns N (ltGo (fun p => (setFT T 0 T.tr).ce z (a + p)) N 0 (0, 0, 0, nu, to)) = nI p from hA]
      refine a_istore 36 dX11_law_34 rfl (by decide) ?_
      refine a_iload 38 dX11_law_36 rfl rfl ?_
      refine a_if_lt 47 41 dX11_law_38 rfl (by decide) (fun c_38 => absurd c_38 (nI_pos (by omega))) (fun c_38 => ?_)
      refine a_bipush (-100) 43 dX11_law_41 rfl (by decide) ?_
      refine a_iload 45 dX11_law_43 rfl rfl ?_
      refine a_isub 46 dX11_law_45 rfl ?_
      exact a_ireturn dX11_law_46 rfl rfl (Nat.le_of_ble_eq_true rfl) (Nat.le_of_ble_eq_true rfl) ⟨rfl, q2, kC_kp (kp_fr (fr_trans (fr_mono hf1 (T := [0, 4, 5, 6]) (by decide)) hf2 (by decide))) (by decide)⟩
    | inr t =>
      rw [hX] at ea hW
      by_cases hn6 : T.nl = 6
      · have ea1 : aLaw T (nI z) d (nI a) (nI N) h.length = (-4, setFT T 0 T.tr) := ea.trans (if_pos hn6)
        rw [ea1]
        refine rM_start (by decide) (Nat.le_of_ble_eq_true rfl) ?_
        refine a_aload_n 1 dX11_law_0 rfl rfl ?_
        refine a_iload_n 2 dX11_law_1 rfl rfl ?_
        refine a_iload_n 3 dX11_law_2 rfl rfl ?_
        refine a_iload_n 4 dX11_law_3 rfl rfl ?_
        refine a_iload 6 dX11_law_4 rfl rfl ?_
        refine a_callV ok_X11_refusalOfCells ln_X11_82 in_X11_refusalOfCells rfl 9 dX11_law_6 rfl (hrc) (by repeat (first | assumption | (refine rg_ne (by first | decide | omega) ?_) | apply rg_eq | refine rg_fr (by assumption) (by first | decide | (simp; omega)) ?_)) rfl rfl rfl ⟨(Nat.le_of_ble_eq_true rfl), (Nat.le_of_ble_eq_true rfl)⟩ (Nat.le_of_ble_eq_true rfl) ⟨(Nat.le_of_ble_eq_true rfl), (Nat.le_of_ble_eq_true rfl)⟩ ?_
        rintro h1 _ ⟨rfl, q1, hf1⟩
        have hy1 := q1.1.1
        obtain ⟨hs, f, hf, hfx⟩ := sh_at q1 hz
        obtain ⟨s0, hs0⟩ := q1.1.2.2.1
        have ht2 := hs0.1
        refine a_istore 11 dX11_law_9 rfl (by decide) ?_
        refine a_iload 13 dX11_law_11 rfl rfl ?_
        refine a_if_eq 19 16 dX11_law_13 rfl (by decide) (fun c_13 => ?_) (fun c_13 => absurd rfl c_13)
        refine a_aload_n 20 dX11_law_19 rfl rfl ?_
        refine a_get fd_X11_27 rfl 23 dX11_law_20 rfl (by repeat (first | assumption | (refine rg_ne (by first | decide | omega) ?_) | apply rg_eq | refine rg_fr (by assumption) (by first | decide | (simp; omega)) ?_)) rfl ?_
        refine a_aload_n 24 dX11_law_23 rfl rfl ?_
        refine a_iload_n 25 dX11_law_24 rfl rfl ?_
        refine a_callV ok_X11_sheetAt ln_X11_86 in_X11_sheetAt rfl 28 dX11_law_25 rfl (c_sheet q1.1 hz) (by repeat (first | assumption | (refine rg_ne (by first | decide | omega) ?_) | apply rg_eq | refine rg_fr (by assumption) (by first | decide | (simp; omega)) ?_)) rfl rfl rfl ⟨(Nat.le_of_ble_eq_true rfl), (Nat.le_of_ble_eq_true rfl)⟩ (Nat.le_of_ble_eq_true rfl) ⟨(Nat.le_of_ble_eq_true rfl), (Nat.le_of_ble_eq_true rfl)⟩ ?_
        rintro _ _ ⟨rfl, rfl⟩
        refine a_iload_n 29 dX11_law_28 rfl rfl ?_
        refine a_iload 31 dX11_law_29 rfl rfl ?_
        refine a_callU ok_X9_firstFault cu_X11_173_X6 rfl 34 dX11_law_31 rfl (k_X9_ffL hs0 (by simp; omega) (by simp; omega) hs hf (by omega) (fun p hp => hfx (a + p) (by exact Nat.lt_of_lt_of_le (Nat.add_lt_add_left hp a) haN))) (by repeat (first | assumption | (refine rg_ne (by first | decide | omega) ?_) | apply rg_eq | refine rg_fr (by assumption) (by first | decide | (simp; omega)) ?_)) rfl rfl rfl ⟨(Nat.le_of_ble_eq_true rfl), (Nat.le_of_ble_eq_true rfl)⟩ (Nat.le_of_ble_eq_true rfl) ⟨(Nat.le_of_ble_eq_true rfl), (Nat.le_of_ble_eq_true rfl)⟩ ?_
        rintro h2 _ ⟨nu, to, hnt, rfl, hs2, hf2⟩
        have hA := (hW nu to hnt).1
        have q2 : cAll G h2 (setFT T 0 T.tr) := all_txtL q1 hs2 hf2
        have hy2 := q2.1.1
        obtain ⟨p, hp, -⟩ := q2.1.2.2.2.2.2.1
        rw [show ltAns N (ltGo (fun p => (setFT T 0 T.tr).ce z (a + p)) N 0 (0, 0, 0, nu, to)) = -9 from hA]
        refine a_istore 36 dX11_law_34 rfl (by decide) ?_
        refine a_iload 38 dX11_law_36 rfl rfl ?_
        refine a_if_lt 47 41 dX11_law_38 rfl (by decide) (fun c_38 => ?_) (fun c_38 => absurd (by decide) c_38)
        refine a_aload_n 48 dX11_law_47 rfl rfl ?_
        refine a_get fd_X11_174 rfl 51 dX11_law_48 rfl (by repeat (first | assumption | (refine rg_ne (by first | decide | omega) ?_) | apply rg_eq | refine rg_fr (by assumption) (by first | decide | (simp; omega)) ?_)) rfl ?_
        refine a_istore 53 dX11_law_51 rfl (by decide) ?_
        refine a_iload 55 dX11_law_53 rfl rfl ?_
        refine a_if_lt 68 58 dX11_law_55 rfl (by decide) (fun c_55 => absurd c_55 (nI_pos (show T.nl < 2 ^ 31 by omega))) (fun c_55 => ?_)
        refine a_iload 60 dX11_law_58 rfl rfl ?_
        refine a_aload_n 61 dX11_law_60 rfl rfl ?_
        refine a_get fd_X11_46 rfl 64 dX11_law_61 rfl (by repeat (first | assumption | (refine rg_ne (by first | decide | omega) ?_) | apply rg_eq | refine rg_fr (by assumption) (by first | decide | (simp; omega)) ?_)) rfl ?_
        refine a_alen_4 65 dX11_law_64 rfl (by repeat (first | assumption | (refine rg_ne (by first | decide | omega) ?_) | apply rg_eq | refine rg_fr (by assumption) (by first | decide | (simp; omega)) ?_)) ?_
        refine a_icmp_lt 71 68 dX11_law_65 rfl (by decide) (fun c_65 => absurd c_65 (by rw [show (setFT T 0 T.tr).nl = 6 from hn6]; decide)) (fun c_65 => ?_)
        refine a_bipush (-4) 70 dX11_law_68 rfl (by decide) ?_
        exact a_ireturn dX11_law_70 rfl rfl (Nat.le_of_ble_eq_true rfl) (Nat.le_of_ble_eq_true rfl) ⟨rfl, q2, kC_kp (kp_fr (fr_trans (fr_mono hf1 (T := [0, 4, 5, 6]) (by decide)) hf2 (by decide))) (by decide)⟩
      · have ea1 : aLaw T (nI z) d (nI a) (nI N) h.length = (nI T.nl, newLaw T t h.length) := ea.trans (if_neg hn6)
        rw [ea1]
        have vn : vp_in (nI T.nl) 6 := vp_in_nI (by omega) (by decide)
        refine rM_start (by decide) (Nat.le_of_ble_eq_true rfl) ?_
        refine a_aload_n 1 dX11_law_0 rfl rfl ?_
        refine a_iload_n 2 dX11_law_1 rfl rfl ?_
        refine a_iload_n 3 dX11_law_2 rfl rfl ?_
        refine a_iload_n 4 dX11_law_3 rfl rfl ?_
        refine a_iload 6 dX11_law_4 rfl rfl ?_
        refine a_callV ok_X11_refusalOfCells ln_X11_82 in_X11_refusalOfCells rfl 9 dX11_law_6 rfl (hrc) (by repeat (first | assumption | (refine rg_ne (by first | decide | omega) ?_) | apply rg_eq | apply rg_app | refine rg_fr (by assumption) (by first | decide | (simp; omega)) ?_)) rfl rfl rfl ⟨(Nat.le_of_ble_eq_true rfl), (Nat.le_of_ble_eq_true rfl)⟩ (Nat.le_of_ble_eq_true rfl) ⟨(Nat.le_of_ble_eq_true rfl), (Nat.le_of_ble_eq_true rfl)⟩ ?_
        rintro h1 _ ⟨rfl, q1, hf1⟩
        have hy1 := q1.1.1
        obtain ⟨hs, f, hf, hfx⟩ := sh_at q1 hz
        obtain ⟨s0, hs0⟩ := q1.1.2.2.1
        have ht2 := hs0.1
        refine a_istore 11 dX11_law_9 rfl (by decide) ?_
        refine a_iload 13 dX11_law_11 rfl rfl ?_
        refine a_if_eq 19 16 dX11_law_13 rfl (by decide) (fun c_13 => ?_) (fun c_13 => absurd rfl c_13)
        refine a_aload_n 20 dX11_law_19 rfl rfl ?_
        refine a_get fd_X11_27 rfl 23 dX11_law_20 rfl (by repeat (first | assumption | (refine rg_ne (by first | decide | omega) ?_) | apply rg_eq | apply rg_app | refine rg_fr (by assumption) (by first | decide | (simp; omega)) ?_)) rfl ?_
        refine a_aload_n 24 dX11_law_23 rfl rfl ?_
        refine a_iload_n 25 dX11_law_24 rfl rfl ?_
        refine a_callV ok_X11_sheetAt ln_X11_86 in_X11_sheetAt rfl 28 dX11_law_25 rfl (c_sheet q1.1 hz) (by repeat (first | assumption | (refine rg_ne (by first | decide | omega) ?_) | apply rg_eq | apply rg_app | refine rg_fr (by assumption) (by first | decide | (simp; omega)) ?_)) rfl rfl rfl ⟨(Nat.le_of_ble_eq_true rfl), (Nat.le_of_ble_eq_true rfl)⟩ (Nat.le_of_ble_eq_true rfl) ⟨(Nat.le_of_ble_eq_true rfl), (Nat.le_of_ble_eq_true rfl)⟩ ?_
        rintro _ _ ⟨rfl, rfl⟩
        refine a_iload_n 29 dX11_law_28 rfl rfl ?_
        refine a_iload 31 dX11_law_29 rfl rfl ?_
        refine a_callU ok_X9_firstFault cu_X11_173_X6 rfl 34 dX11_law_31 rfl (k_X9_ffL hs0 (by simp; omega) (by simp; omega) hs hf (by omega) (fun p hp => hfx (a + p) (by exact Nat.lt_of_lt_of_le (Nat.add_lt_add_left hp a) haN))) (by repeat (first | assumption | (refine rg_ne (by first | decide | omega) ?_) | apply rg_eq | apply rg_app | refine rg_fr (by assumption) (by first | decide | (simp; omega)) ?_)) rfl rfl rfl ⟨(Nat.le_of_ble_eq_true rfl), (Nat.le_of_ble_eq_true rfl)⟩ (Nat.le_of_ble_eq_true rfl) ⟨(Nat.le_of_ble_eq_true rfl), (Nat.le_of_ble_eq_true rfl)⟩ ?_
        rintro h2 _ ⟨nu, to, hnt, rfl, hs2, hf2⟩
        obtain ⟨hA, hT, hX2⟩ := hW nu to hnt
        have q2 : cAll G h2 (setFT T 0 T.tr) := all_txtL q1 hs2 hf2
        have hy2 := q2.1.1
        have h2l : h2.length = h.length := hf2.1.trans hf1.1
        obtain ⟨p, hp, -⟩ := q2.1.2.2.2.2.2.1
        have hl4 := hs2.1
        rw [show ltAns N (ltGo (fun p => (setFT T 0 T.tr).ce z (a + p)) N 0 (0, 0, 0, nu, to)) = -9 from hA]
        refine a_istore 36 dX11_law_34 rfl (by decide) ?_
        refine a_iload 38 dX11_law_36 rfl rfl ?_
        refine a_if_lt 47 41 dX11_law_38 rfl (by decide) (fun c_38 => ?_) (fun c_38 => absurd (by decide) c_38)
        refine a_aload_n 48 dX11_law_47 rfl rfl ?_
        refine a_get fd_X11_174 rfl 51 dX11_law_48 rfl (by repeat (first | assumption | (refine rg_ne (by first | decide | omega) ?_) | apply rg_eq | apply rg_app | refine rg_fr (by assumption) (by first | decide | (simp; omega)) ?_)) rfl ?_
        refine a_istore 53 dX11_law_51 rfl (by decide) ?_
        refine a_iload 55 dX11_law_53 rfl rfl ?_
        refine a_if_lt 68 58 dX11_law_55 rfl (by decide) (fun c_55 => absurd c_55 (nI_pos (show T.nl < 2 ^ 31 by omega))) (fun c_55 => ?_)
        refine a_iload 60 dX11_law_58 rfl rfl ?_
        refine a_aload_n 61 dX11_law_60 rfl rfl ?_
        refine a_get fd_X11_46 rfl 64 dX11_law_61 rfl (by repeat (first | assumption | (refine rg_ne (by first | decide | omega) ?_) | apply rg_eq | apply rg_app | refine rg_fr (by assumption) (by first | decide | (simp; omega)) ?_)) rfl ?_
        refine a_alen_4 65 dX11_law_64 rfl (by repeat (first | assumption | (refine rg_ne (by first | decide | omega) ?_) | apply rg_eq | apply rg_app | refine rg_fr (by assumption) (by first | decide | (simp; omega)) ?_)) ?_
        refine a_icmp_lt 71 68 dX11_law_65 rfl (by decide) (fun c_65 => ?_) (fun c_65 => absurd (nI_lt (a := T.nl) (b := 6) (by omega) (by decide)) c_65)
        refine a_aload_n 72 dX11_law_71 rfl rfl ?_
        refine a_get fd_X11_46 rfl 75 dX11_law_72 rfl (by repeat (first | assumption | (refine rg_ne (by first | decide | omega) ?_) | apply rg_eq | apply rg_app | refine rg_fr (by assumption) (by first | decide | (simp; omega)) ?_)) rfl ?_
        refine a_iload 77 dX11_law_75 rfl rfl ?_
        refine a_new (fs := [.null]) cl_X5 lc_X11_44 ia_X5 ii_X5 rfl 80 dX11_law_77 rfl (by decide) ⟨(Nat.le_of_ble_eq_true rfl), (Nat.le_of_ble_eq_true rfl)⟩ ?_
        refine a_dup 81 dX11_law_80 rfl rfl ?_
        refine a_aload_n 82 dX11_law_81 rfl rfl ?_
        refine a_get fd_X11_27 rfl 85 dX11_law_82 rfl (by repeat (first | assumption | (refine rg_ne (by first | decide | omega) ?_) | apply rg_eq | apply rg_app | refine rg_fr (by assumption) (by first | decide | (simp; omega)) ?_)) rfl ?_
        refine a_callI ok_X5_init ln_X11_177 is_X5_init rfl rfl rfl 88 dX11_law_85 rfl (k_X5_init (by omega) (by exact at_app) ⟨rg_app hs2.1, rg_app hs2.2.1, rg_app hs2.2.2⟩) rfl rfl ⟨(Nat.le_of_ble_eq_true rfl), (Nat.le_of_ble_eq_true rfl)⟩ (Nat.le_of_ble_eq_true rfl) ⟨(Nat.le_of_ble_eq_true rfl), (Nat.le_of_ble_eq_true rfl)⟩ ?_
        rintro h3 _ ⟨rfl, ha3, ⟨f3, hf3, hfx3⟩, hk3⟩
        have e2l : (h2 ++ [Sum.inr (5, [Value.null])]).length = h2.length + 1 := by simp
        have hk32 : kp h2 h3 [] := law_kp hk3
        have g13 := kp_get hk32 (fun w => by cases w) hp
        have g0 := kp_get hk32 (fun w => by cases w) hy2
        have hfin := fun h4 e4 => law_fin (h3 := h3) (h4 := h4) (hl := h.length) hT q2 (by omega) hlen h2l hp (by rw [← h2l, ← e2l]; exact ha3) (by rw [← h2l, ← e2l]; exact hf3) (fun w hw => (hfx3 w hw).trans (lawI_N hT hX2 w hw)) hk32 e4
        refine a_aastore_4 rfl (Or.inl rfl) 89 dX11_law_88 rfl (by repeat (first | assumption | (refine rg_ne (by first | decide | omega) ?_) | apply rg_eq | apply rg_app | refine rg_fr (by assumption) (by first | decide | (simp; omega)) ?_)) (by repeat (first | assumption | (refine rg_ne (by first | decide | omega) ?_) | apply rg_eq | apply rg_app | refine rg_fr (by assumption) (by first | decide | (simp; omega)) ?_)) vn ?_
        refine a_aload_n 90 dX11_law_89 rfl rfl ?_
        refine a_iload 92 dX11_law_90 rfl rfl ?_
        refine a_iconst (1) 93 dX11_law_92 rfl (by decide) ?_
        refine a_iadd 94 dX11_law_93 rfl ?_
        refine a_put fd_X11_174 cl_X11 rfl 97 dX11_law_94 rfl (by repeat (first | assumption | (refine rg_ne (by first | decide | omega) ?_) | apply rg_eq | apply rg_app | refine rg_fr (by assumption) (by first | decide | (simp; omega)) ?_)) (Nat.le_of_ble_eq_true rfl) rfl rfl rfl ?_
        refine a_iload 99 dX11_law_97 rfl rfl ?_
        exact a_ireturn dX11_law_99 rfl rfl (Nat.le_of_ble_eq_true rfl) (Nat.le_of_ble_eq_true rfl) ⟨rfl, law_end (hfin _ (by rw [h2l]; rfl)) hf1 hf2⟩
  · have ea : aLaw T c d i n h.length = ((refF T c d i n).1, setFT T (refF T c d i n).2 T.tr) := by unfold aLaw; rw [if_neg hr]
    rw [ea]
    refine rM_start (by decide) (Nat.le_of_ble_eq_true rfl) ?_
    refine a_aload_n 1 dX11_law_0 rfl rfl ?_
    refine a_iload_n 2 dX11_law_1 rfl rfl ?_
    refine a_iload_n 3 dX11_law_2 rfl rfl ?_
    refine a_iload_n 4 dX11_law_3 rfl rfl ?_
    refine a_iload 6 dX11_law_4 rfl rfl ?_
    refine a_callV ok_X11_refusalOfCells ln_X11_82 in_X11_refusalOfCells rfl 9 dX11_law_6 rfl (c_refusal q c d i n) (by repeat (first | assumption | (refine rg_ne (by first | decide | omega) ?_) | apply rg_eq | refine rg_fr (by assumption) (by first | decide | (simp; omega)) ?_)) rfl rfl rfl ⟨(Nat.le_of_ble_eq_true rfl), (Nat.le_of_ble_eq_true rfl)⟩ (Nat.le_of_ble_eq_true rfl) ⟨(Nat.le_of_ble_eq_true rfl), (Nat.le_of_ble_eq_true rfl)⟩ ?_
    rintro h1 _ ⟨rfl, q1, hf1⟩
    refine a_istore 11 dX11_law_9 rfl (by decide) ?_
    refine a_iload 13 dX11_law_11 rfl rfl ?_
    refine a_if_eq 19 16 dX11_law_13 rfl (by decide) (fun c_13 => absurd c_13 hr) (fun c_13 => ?_)
    refine a_iload 18 dX11_law_16 rfl rfl ?_
    exact a_ireturn dX11_law_18 rfl rfl (Nat.le_of_ble_eq_true rfl) (Nat.le_of_ble_eq_true rfl) ⟨rfl, q1, kC_kp (kp_fr hf1) (by decide)⟩
end CLAW
