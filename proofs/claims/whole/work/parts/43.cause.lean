/-! THE CLASS: causes, bare yawns, who mends them, spread -/
theorem firstN_none {p : Nat → Bool} : ∀ {r q : Nat}, (∀ i, q ≤ i → i < q + r → p i = false) → firstN p r q = none
  | 0, _, _ => rfl
  | r + 1, q, h => by
    rw [firstN, h q (by omega) (by omega)]
    exact firstN_none (fun i h1 h2 => h i (by omega) (by omega))
theorem firstN_some {p : Nat → Bool} : ∀ {r q k : Nat}, q ≤ k → k < q + r → p k = true → (∀ i, q ≤ i → i < k → p i = false) → firstN p r q = some k
  | 0, q, k, h1, h2, _, _ => absurd h2 (by omega)
  | r + 1, q, k, h1, h2, h3, h4 => by
    rw [firstN]
    by_cases e : q = k
    · subst e; rw [if_pos h3]
    · rw [h4 q (by omega) (by omega)]
      exact firstN_some (by omega) (by omega) h3 (fun i a b => h4 i (by omega) b)
theorem firstN_spec {p : Nat → Bool} : ∀ {r q k : Nat}, firstN p r q = some k → q ≤ k ∧ k < q + r ∧ p k = true ∧ ∀ i, q ≤ i → i < k → p i = false
  | 0, _, _, h => by cases h
  | r + 1, q, k, h => by
    rw [firstN] at h
    by_cases e : p q = true
    · rw [if_pos e] at h
      cases h
      exact ⟨by omega, by omega, e, fun i a b => by omega⟩
    · rw [if_neg e] at h
      obtain ⟨a, b, c, d⟩ := firstN_spec h
      refine ⟨by omega, by omega, c, fun i h1 h2 => ?_⟩
      by_cases e2 : i = q
      · subst e2; exact Bool.eq_false_iff.mpr e
      · exact d i (by omega) h2
theorem firstN_no {p : Nat → Bool} : ∀ {r q : Nat}, firstN p r q = none → ∀ i, q ≤ i → i < q + r → p i = false
  | 0, _, _, i, h1, h2 => absurd h2 (by omega)
  | r + 1, q, h, i, h1, h2 => by
    rw [firstN] at h
    by_cases e : p q = true
    · rw [if_pos e] at h; cases h
    · rw [if_neg e] at h
      by_cases e2 : i = q
      · subst e2; exact Bool.eq_false_iff.mpr e
      · exact firstN_no h i (by omega) (by omega)
/-- what yawn i causes of yawn j, if it is x's -/
abbrev cauI (T : Tn) (z x j i : Nat) : Nat := if T.yw i = x then T.src z j i * 1000000 / T.all z j else 0
abbrev cauJ (T : Tn) (z x j : Nat) : Nat := sumN (cauI T z x j) j
abbrev cauT (T : Tn) (z x : Nat) : Nat := sumN (cauJ T z x) T.ny
theorem cauI_0 {T : Tn} {z x j i : Nat} (h : j ≤ i) : cauI T z x j i = 0 := by
  unfold cauI
  rw [src_0 h, Nat.zero_mul, Nat.zero_div, ite_self]
theorem cau_div {f : Nat → Nat} {P : Nat → Prop} {M d : Nat} (hp : ∀ i, Decidable (P i)) : ∀ n, sumN (fun i => @ite Nat (P i) (hp i) (f i * M / d) 0) n * d ≤ sumN f n * M
  | 0 => by simp [sumN]
  | n + 1 => by
    rw [sumN, sumN, Nat.add_mul, Nat.add_mul]
    refine Nat.add_le_add (cau_div hp n) ?_
    split
    · exact Nat.div_mul_le_self _ _
    · simp
theorem cauJ_le {T : Tn} {z x j : Nat} (ha : 0 < T.all z j) : cauJ T z x j ≤ 1000000 := by
  have h1 := cau_div (f := T.src z j) (P := fun i => T.yw i = x) (M := 1000000) (d := T.all z j) (fun i => inferInstance) j
  have h2 : sumN (T.src z j) j ≤ T.all z j := Nat.le_add_left _ _
  have h3 : cauJ T z x j * T.all z j ≤ 1000000 * T.all z j := Nat.le_trans h1 (by rw [Nat.mul_comm 1000000]; exact Nat.mul_le_mul_right _ h2)
  exact Nat.le_of_mul_le_mul_right h3 ha
theorem cauT_lt {T : Tn} (o : T.ok) {z x : Nat} (ha : ∀ j, j < T.ny → 0 < T.all z j) : cauT T z x < 30000000 := by
  have h1 := sumN_le (f := cauJ T z x) (b := 1000000) T.ny (fun j hj => cauJ_le (ha j hj))
  have h2 := o.ny24
  show sumN (cauJ T z x) T.ny < 30000000
  omega
def andN (P : Nat → Bool) : Nat → Bool
  | 0 => true
  | n + 1 => andN P n && P n
theorem andN_t {P : Nat → Bool} : ∀ {n : Nat}, (∀ i, i < n → P i = true) → andN P n = true
  | 0, _ => rfl
  | n + 1, h => by rw [andN, andN_t (n := n) (fun i hi => h i (by omega)), h n (by omega)]; rfl
theorem andN_f {P : Nat → Bool} : ∀ {n i : Nat}, i < n → P i = false → andN P n = false
  | 0, i, h, _ => absurd h (by omega)
  | n + 1, i, h, e => by
    rw [andN]
    by_cases q : i = n
    · subst q; rw [e]; simp
    · rw [andN_f (n := n) (by omega) e]; rfl
/-- a yawn of y at a minute t would mend all -/
abbrev menT (T : Tn) (z t y : Nat) : Bool := andN (fun j => decide (0 < fromN T.nu (T.mi z) z (T.ym j) (T.yw j) t y) || decide (0 < T.all z j)) T.ny
abbrev sprT (T : Tn) (z : Nat) : Nat := sumN (fun x => sumN (fun y => mz T z x y) T.m) T.m
theorem up_0 {f : Nat → Int32} {j : Nat} (h : ∀ x, x < j → f x = 0) : ∀ x, x < j + 1 → upd f j 0 x = 0 := by
  intro x hx
  by_cases e : x = j
  · subst e; exact pk_us
  · rw [pk_un e]; exact h x (by omega)
theorem cau_s {T : Tn} {z j i : Nat} {A : Nat → Nat} {f : Nat → Int32} (h : ∀ x, x < 12 → f x = nI (A x + sumN (cauI T z x j) i)) : ∀ x, x < 12 → upd f (T.yw i) (f (T.yw i) + nI (T.src z j i * 1000000 / T.all z j)) x = nI (A x + sumN (cauI T z x j) (i + 1)) := by
  intro x hx
  rw [sumN]
  by_cases e : x = T.yw i
  · subst e
    rw [pk_us, h _ hx, nI_add, Nat.add_assoc, show cauI T z (T.yw i) j i = _ from if_pos rfl]
  · rw [pk_un e, h x hx, show cauI T z x j i = 0 from if_neg (fun q => e q.symm)]
    rfl
theorem bar_end {G : rG} {h h1 : rH} {T : Tn} {z j : Nat} {f : Nat → Int32} (hb2 : barT T z = some j) (hfr : fr h h1 [27]) (hf : h1[27]? = some (.inl (gA G 0, 12, .inl f))) : some (Value.int 0) = some (.int (if barT T z = none then 1 else 0)) ∧ fr h h1 [27] ∧ ∃ f, h1[27]? = some (.inl (gA G 0, 12, .inl f)) ∧ (barT T z = none → ∀ x, x < T.m → f x = nI (cauT T z x)) :=
  ⟨by rw [hb2]; rfl, hfr, f, hf, fun q => by rw [hb2] at q; cases q⟩
section CCAUSE
variable {l : Launch} {G : rG} {h : rH} {T : Tn} {z : Nat}
set_option maxRecDepth 100000 in
set_option maxHeartbeats 400000 in
theorem k_X11_addCause {on lc lf mk : Int32} (hy : h[0]? = some (ytc G on lc lf mk)) {f : Nat → Int32} (hf : h[27]? = some (.inl (gA G 0, 12, .inl f))) {x : Nat} (hx : x < 12) (v : Int32) : rM l G 0 mX11_addCause 0 0 [.ref (gN G + 0), .int (nI x), .int v] h (fun h' w => w = none ∧ h'[27]? = some (.inl (gA G 0, 12, .inl (upd f x (f x + v)))) ∧ fr h h' [27]) := by
  have vx : vp_in (nI x) 12 := vp_in_nI hx (by decide)
  have e0 : (nI x).toNatClampNeg = x := nI_clamp (by omega)
  refine rM_start (by decide) (Nat.le_of_ble_eq_true rfl) ?_
  refine a_iload_n 1 dX11_addCause_0 rfl rfl ?_
  refine a_if_lt 23 4 dX11_addCause_1 rfl (by decide) (fun c_1 => absurd c_1 (nI_pos (by omega))) (fun c_1 => ?_)
  refine a_iload_n 5 dX11_addCause_4 rfl rfl ?_
  refine a_aload_n 6 dX11_addCause_5 rfl rfl ?_
  refine a_get fd_X11_71 rfl 9 dX11_addCause_6 rfl (by repeat (first | assumption | (refine rg_ne (by first | decide | omega) ?_) | apply rg_eq | refine rg_fr (by assumption) (by first | decide | (simp; omega)) ?_)) rfl ?_
  refine a_alen_0 10 dX11_addCause_9 rfl (by repeat (first | assumption | (refine rg_ne (by first | decide | omega) ?_) | apply rg_eq | refine rg_fr (by assumption) (by first | decide | (simp; omega)) ?_)) ?_
  refine a_icmp_ge 23 13 dX11_addCause_10 rfl (by decide) (fun c_10 => absurd c_10 (nI_ge (a := x) (b := 12) (by omega) (by decide))) (fun c_10 => ?_)
  refine a_aload_n 14 dX11_addCause_13 rfl rfl ?_
  refine a_get fd_X11_71 rfl 17 dX11_addCause_14 rfl (by repeat (first | assumption | (refine rg_ne (by first | decide | omega) ?_) | apply rg_eq | refine rg_fr (by assumption) (by first | decide | (simp; omega)) ?_)) rfl ?_
  refine a_iload_n 18 dX11_addCause_17 rfl rfl ?_
  refine a_dup2 19 dX11_addCause_18 rfl rfl rfl ?_
  refine a_iaload 20 dX11_addCause_19 rfl (by repeat (first | assumption | (refine rg_ne (by first | decide | omega) ?_) | apply rg_eq | refine rg_fr (by assumption) (by first | decide | (simp; omega)) ?_)) vx ?_
  refine a_iload_n 21 dX11_addCause_20 rfl rfl ?_
  refine a_iadd 22 dX11_addCause_21 rfl ?_
  refine a_iastore 23 dX11_addCause_22 rfl (by repeat (first | assumption | (refine rg_ne (by first | decide | omega) ?_) | apply rg_eq | refine rg_fr (by assumption) (by first | decide | (simp; omega)) ?_)) vx ?_
  exact a_return dX11_addCause_23 rfl (Nat.le_of_ble_eq_true rfl) (Nat.le_of_ble_eq_true rfl) ⟨rfl, by rw [e0]; exact rg_eq hf, (by repeat (first | exact fr_refl _ _ | assumption | refine fr_set ?_ (by decide) | refine fr_trans (by assumption) ?_ (by decide)))⟩
set_option maxRecDepth 100000 in
set_option maxHeartbeats 400000 in
theorem k_X11_sumCauses (q : wgAt G h T z) (o : T.ok) (hr : ∃ f, h[27]? = some (.inl (gA G 0, 12, .inl f))) : rM l G 5 mX11_sumCauses 0 0 [.ref (gN G + 0), .ref (gN G + T.la z)] h (fun h' v => v = some (.int (if barT T z = none then 1 else 0)) ∧ fr h h' [27] ∧ ∃ f, h'[27]? = some (.inl (gA G 0, 12, .inl f)) ∧ (barT T z = none → ∀ x, x < T.m → f x = nI (cauT T z x))) := by
  have hny := o.ny24
  have hm := o.m12
  have hz := q.2.1
  obtain ⟨f0, hf0⟩ := hr
  refine rM_start (by decide) (Nat.le_of_ble_eq_true rfl) ?_
  have L2 : ∀ (r j : Nat) (f : Nat → Int32) (h1 : rH) (y : Int32) (o3 o4 : Option Value), j + r = T.ny → y = nI j → h1[27]? = some (.inl (gA G 0, 12, .inl f)) → (∀ x, x < 12 → f x = nI (sumN (cauJ T z x) j)) → (∀ i, i < j → 0 < T.all z i) → fr h h1 [27] → rW l G (rRm 5 0 0) mX11_sumCauses (rZ G (fun h' v => v = some (.int (if barT T z = none then 1 else 0)) ∧ fr h h' [27] ∧ ∃ f, h'[27]? = some (.inl (gA G 0, 12, .inl f)) ∧ (barT T z = none → ∀ x, x < T.m → f x = nI (cauT T z x))) 0 0) 0 0 26 [some (.ref (gN G + 0)), some (.ref (gN G + T.la z)), some (.int y), o3, o4] [] h1 := by
    intro r
    induction r with
    | zero =>
      intro j f h1 y o3 o4 hj hy hf hfx hb hfr
      subst hy
      have e : j = T.ny := by omega
      subst e
      have q1 := q.kp (kp_fr hfr) (by decide) (by decide) (by decide)
      have hy1 := q1.1.1
      have r1 := (wg_row q1).1
      have hn : barT T z = none := firstN_none (fun i h1 h2 => decide_eq_false (by have := hb i (by omega); omega))
      refine a_iload_n 27 dX11_sumCauses_26 rfl rfl ?_
      refine a_aload_n 28 dX11_sumCauses_27 rfl rfl ?_
      refine a_get fd_X11_53 rfl 31 dX11_sumCauses_28 rfl (by repeat (first | assumption | (refine rg_ne (by first | decide | omega) ?_) | apply rg_eq | refine rg_fr (by assumption) (by first | decide | (simp; omega)) ?_)) rfl ?_
      refine a_get fd_X11_195 rfl 34 dX11_sumCauses_31 rfl (by repeat (first | assumption | (refine rg_ne (by first | decide | omega) ?_) | apply rg_eq | refine rg_fr (by assumption) (by first | decide | (simp; omega)) ?_)) rfl ?_
      refine a_icmp_ge 103 37 dX11_sumCauses_34 rfl (by decide) (fun c_34 => ?_) (fun c_34 => absurd (Int32.le_refl _) c_34)
      refine a_iconst (1) 104 dX11_sumCauses_103 rfl (by decide) ?_
      exact a_ireturn dX11_sumCauses_104 rfl rfl (Nat.le_of_ble_eq_true rfl) (Nat.le_of_ble_eq_true rfl) ⟨by rw [if_pos hn], hfr, f, hf, fun _ x hx => hfx x (by omega)⟩
    | succ r ih =>
      intro j f h1 y o3 o4 hj hy hf hfx hb hfr
      subst hy
      have q1 := q.kp (kp_fr hfr) (by decide) (by decide) (by decide)
      have hy1 := q1.1.1
      have r1 := (wg_row q1).1
      have hal := all_lt o (q := j) hz (by omega)
      have hle := nI_le0 (k := T.all z j) (by omega)
      have L3 : 0 < T.all z j → ∀ (r2 i : Nat) (f : Nat → Int32) (h1 : rH) (y : Int32), i + r2 = T.ny → y = nI i → h1[27]? = some (.inl (gA G 0, 12, .inl f)) → (∀ x, x < 12 → f x = nI (sumN (cauJ T z x) j + sumN (cauI T z x j) i)) → fr h h1 [27] → rW l G (rRm 5 0 0) mX11_sumCauses (rZ G (fun h' v => v = some (.int (if barT T z = none then 1 else 0)) ∧ fr h h' [27] ∧ ∃ f, h'[27]? = some (.inl (gA G 0, 12, .inl f)) ∧ (barT T z = none → ∀ x, x < T.m → f x = nI (cauT T z x))) 0 0) 0 0 53 [some (.ref (gN G + 0)), some (.ref (gN G + T.la z)), some (.int (nI j)), some (.int (nI (T.all z j))), some (.int y)] [] h1 := by
        intro hpos r2
        induction r2 with
        | zero =>
          intro i f h1 y hi hy hf hfx hfr
          subst hy
          have e : i = T.ny := by omega
          subst e
          have q1 := q.kp (kp_fr hfr) (by decide) (by decide) (by decide)
          have hy1 := q1.1.1
          have r1 := (wg_row q1).1
          refine a_iload 55 dX11_sumCauses_53 rfl rfl ?_
          refine a_aload_n 56 dX11_sumCauses_55 rfl rfl ?_
          refine a_get fd_X11_53 rfl 59 dX11_sumCauses_56 rfl (by repeat (first | assumption | (refine rg_ne (by first | decide | omega) ?_) | apply rg_eq | refine rg_fr (by assumption) (by first | decide | (simp; omega)) ?_)) rfl ?_
          refine a_get fd_X11_195 rfl 62 dX11_sumCauses_59 rfl (by repeat (first | assumption | (refine rg_ne (by first | decide | omega) ?_) | apply rg_eq | refine rg_fr (by assumption) (by first | decide | (simp; omega)) ?_)) rfl ?_
          refine a_icmp_ge 97 65 dX11_sumCauses_62 rfl (by decide) (fun c_62 => ?_) (fun c_62 => absurd (Int32.le_refl _) c_62)
          refine a_iinc _ 100 dX11_sumCauses_97 rfl rfl (by decide) rfl ?_
          refine a_goto 26 dX11_sumCauses_100 (by decide) ?_
          exact ih (j + 1) f _ _ _ _ (by omega) (nI_1 j) hf (fun x hx => by rw [hfx x hx, sumN, sumN_ext (f := cauI T z x j) (j := j) (by omega) (fun i h1 h2 => cauI_0 h1)]) (fun i hi => by rcases Nat.lt_or_ge i j with e | e; exact hb i e; rw [show i = j by omega]; exact hpos) hfr
        | succ r2 ih2 =>
          intro i f h1 y hi hy hf hfx hfr
          subst hy
          have q1 := q.kp (kp_fr hfr) (by decide) (by decide) (by decide)
          have hy1 := q1.1.1
          have r1 := (wg_row q1).1
          have hyw := o.yw (q := i) (by omega)
          have hs := src_lt o (j := j) (i := i) hz
          have ed : (1000000 : Int32) * nI (T.src z j i) / nI (T.all z j) = nI (T.src z j i * 1000000 / T.all z j) := by
            rw [show (1000000 : Int32) = nI 1000000 from rfl, pk_mul, pk_div (by omega) hpos (by omega), Nat.mul_comm]
          refine a_iload 55 dX11_sumCauses_53 rfl rfl ?_
          refine a_aload_n 56 dX11_sumCauses_55 rfl rfl ?_
          refine a_get fd_X11_53 rfl 59 dX11_sumCauses_56 rfl (by repeat (first | assumption | (refine rg_ne (by first | decide | omega) ?_) | apply rg_eq | refine rg_fr (by assumption) (by first | decide | (simp; omega)) ?_)) rfl ?_
          refine a_get fd_X11_195 rfl 62 dX11_sumCauses_59 rfl (by repeat (first | assumption | (refine rg_ne (by first | decide | omega) ?_) | apply rg_eq | refine rg_fr (by assumption) (by first | decide | (simp; omega)) ?_)) rfl ?_
          refine a_icmp_ge 97 65 dX11_sumCauses_62 rfl (by decide) (fun c_62 => absurd c_62 (nI_ge (a := i) (b := T.ny) (by omega) (by omega))) (fun c_62 => ?_)
          refine a_aload_n 66 dX11_sumCauses_65 rfl rfl ?_
          refine a_aload_n 67 dX11_sumCauses_66 rfl rfl ?_
          refine a_get fd_X11_53 rfl 70 dX11_sumCauses_67 rfl (by repeat (first | assumption | (refine rg_ne (by first | decide | omega) ?_) | apply rg_eq | refine rg_fr (by assumption) (by first | decide | (simp; omega)) ?_)) rfl ?_
          refine a_iload 72 dX11_sumCauses_70 rfl rfl ?_
          refine a_callV ok_X10_whoOf ln_X11_214 in_X10_whoOf rfl 75 dX11_sumCauses_72 rfl (c_who q1.1 o (by omega)) (by repeat (first | assumption | (refine rg_ne (by first | decide | omega) ?_) | apply rg_eq | refine rg_fr (by assumption) (by first | decide | (simp; omega)) ?_)) rfl rfl rfl ⟨(Nat.le_of_ble_eq_true rfl), (Nat.le_of_ble_eq_true rfl)⟩ (Nat.le_of_ble_eq_true rfl) ⟨(Nat.le_of_ble_eq_true rfl), (Nat.le_of_ble_eq_true rfl)⟩ ?_
          rintro _ _ ⟨rfl, rfl⟩
          refine a_ldc (1000000) 77 dX11_sumCauses_75 rfl lk_X11_253 ?_
          refine a_aload_n 78 dX11_sumCauses_77 rfl rfl ?_
          refine a_aload_n 79 dX11_sumCauses_78 rfl rfl ?_
          refine a_iload_n 80 dX11_sumCauses_79 rfl rfl ?_
          refine a_iload 82 dX11_sumCauses_80 rfl rfl ?_
          refine a_callV ok_X11_sourceMight ln_X11_220 in_X11_sourceMight rfl 85 dX11_sumCauses_82 rfl (k_X11_sourceMight q1 o (by omega) (by omega)) (by repeat (first | assumption | (refine rg_ne (by first | decide | omega) ?_) | apply rg_eq | refine rg_fr (by assumption) (by first | decide | (simp; omega)) ?_)) rfl rfl rfl ⟨(Nat.le_of_ble_eq_true rfl), (Nat.le_of_ble_eq_true rfl)⟩ (Nat.le_of_ble_eq_true rfl) ⟨(Nat.le_of_ble_eq_true rfl), (Nat.le_of_ble_eq_true rfl)⟩ ?_
          rintro _ _ ⟨rfl, rfl⟩
          refine a_imul 86 dX11_sumCauses_85 rfl ?_
          refine a_iload_n 87 dX11_sumCauses_86 rfl rfl ?_
          refine a_idiv 88 dX11_sumCauses_87 rfl (nI_ne0 hpos (by omega)) ?_
          rw [ed]
          refine a_callV ok_X11_addCause ln_X11_414 in_X11_addCause rfl 91 dX11_sumCauses_88 rfl (k_X11_addCause hy1 hf (by omega) _) (by repeat (first | assumption | (refine rg_ne (by first | decide | omega) ?_) | apply rg_eq | refine rg_fr (by assumption) (by first | decide | (simp; omega)) ?_)) rfl rfl rfl ⟨(Nat.le_of_ble_eq_true rfl), (Nat.le_of_ble_eq_true rfl)⟩ (Nat.le_of_ble_eq_true rfl) ⟨(Nat.le_of_ble_eq_true rfl), (Nat.le_of_ble_eq_true rfl)⟩ ?_
          rintro h2 v ⟨rfl, hf2, hfr2⟩
          refine a_iinc _ 94 dX11_sumCauses_91 rfl rfl (by decide) rfl ?_
          refine a_goto 53 dX11_sumCauses_94 (by decide) ?_
          exact ih2 (i + 1) _ _ _ (by omega) (nI_1 i) hf2 (cau_s hfx) (fr_trans hfr hfr2 (fun _ q => q))
      refine a_iload_n 27 dX11_sumCauses_26 rfl rfl ?_
      refine a_aload_n 28 dX11_sumCauses_27 rfl rfl ?_
      refine a_get fd_X11_53 rfl 31 dX11_sumCauses_28 rfl (by repeat (first | assumption | (refine rg_ne (by first | decide | omega) ?_) | apply rg_eq | refine rg_fr (by assumption) (by first | decide | (simp; omega)) ?_)) rfl ?_
      refine a_get fd_X11_195 rfl 34 dX11_sumCauses_31 rfl (by repeat (first | assumption | (refine rg_ne (by first | decide | omega) ?_) | apply rg_eq | refine rg_fr (by assumption) (by first | decide | (simp; omega)) ?_)) rfl ?_
      refine a_icmp_ge 103 37 dX11_sumCauses_34 rfl (by decide) (fun c_34 => absurd c_34 (nI_ge (a := j) (b := T.ny) (by omega) (by omega))) (fun c_34 => ?_)
      refine a_aload_n 38 dX11_sumCauses_37 rfl rfl ?_
      refine a_aload_n 39 dX11_sumCauses_38 rfl rfl ?_
      refine a_iload_n 40 dX11_sumCauses_39 rfl rfl ?_
      refine a_callV ok_X11_wholeMight ln_X11_226 in_X11_wholeMight rfl 43 dX11_sumCauses_40 rfl (k_X11_wholeMight q1 o (by omega)) (by repeat (first | assumption | (refine rg_ne (by first | decide | omega) ?_) | apply rg_eq | refine rg_fr (by assumption) (by first | decide | (simp; omega)) ?_)) rfl rfl rfl ⟨(Nat.le_of_ble_eq_true rfl), (Nat.le_of_ble_eq_true rfl)⟩ (Nat.le_of_ble_eq_true rfl) ⟨(Nat.le_of_ble_eq_true rfl), (Nat.le_of_ble_eq_true rfl)⟩ ?_
      rintro _ _ ⟨rfl, rfl⟩
      refine a_istore_n 44 dX11_sumCauses_43 rfl (by decide) ?_
      refine a_iload_n 45 dX11_sumCauses_44 rfl rfl ?_
      refine a_if_gt 50 48 dX11_sumCauses_45 rfl (by decide) (fun c_45 => ?_) (fun c_45 => ?_)
      · refine a_iconst (0) 51 dX11_sumCauses_50 rfl (by decide) ?_
        refine a_istore 53 dX11_sumCauses_51 rfl (by decide) ?_
        exact L3 (Nat.pos_of_ne_zero (fun e => (Int32.not_le.mpr c_45) (hle.mpr e))) T.ny 0 f _ _ (by omega) rfl hf (fun x hx => by rw [hfx x hx]; rfl) hfr
      · refine a_iconst (0) 49 dX11_sumCauses_48 rfl (by decide) ?_
        exact a_ireturn dX11_sumCauses_49 rfl rfl (Nat.le_of_ble_eq_true rfl) (Nat.le_of_ble_eq_true rfl) (bar_end (T := T) (z := z) (j := j) (firstN_some (by omega) (by omega) (decide_eq_true (hle.mp (Int32.not_lt.mp c_45))) (fun i h1 h2 => decide_eq_false (by have := hb i h2; omega))) hfr hf)
  have L1 : ∀ (r j : Nat) (f : Nat → Int32) (h1 : rH) (y : Int32) (o3 o4 : Option Value), j + r = 12 → y = nI j → h1[27]? = some (.inl (gA G 0, 12, .inl f)) → (∀ x, x < j → f x = 0) → fr h h1 [27] → rW l G (rRm 5 0 0) mX11_sumCauses (rZ G (fun h' v => v = some (.int (if barT T z = none then 1 else 0)) ∧ fr h h' [27] ∧ ∃ f, h'[27]? = some (.inl (gA G 0, 12, .inl f)) ∧ (barT T z = none → ∀ x, x < T.m → f x = nI (cauT T z x))) 0 0) 0 0 2 [some (.ref (gN G + 0)), some (.ref (gN G + T.la z)), some (.int y), o3, o4] [] h1 := by
    intro r
    induction r with
    | zero =>
      intro j f h1 y o3 o4 hj hy hf hfx hfr
      subst hy
      have e : j = 12 := by omega
      subst e
      have q1 := q.kp (kp_fr hfr) (by decide) (by decide) (by decide)
      have hy1 := q1.1.1
      refine a_iload_n 3 dX11_sumCauses_2 rfl rfl ?_
      refine a_aload_n 4 dX11_sumCauses_3 rfl rfl ?_
      refine a_get fd_X11_71 rfl 7 dX11_sumCauses_4 rfl (by repeat (first | assumption | (refine rg_ne (by first | decide | omega) ?_) | apply rg_eq | refine rg_fr (by assumption) (by first | decide | (simp; omega)) ?_)) rfl ?_
      refine a_alen_0 8 dX11_sumCauses_7 rfl (by repeat (first | assumption | (refine rg_ne (by first | decide | omega) ?_) | apply rg_eq | refine rg_fr (by assumption) (by first | decide | (simp; omega)) ?_)) ?_
      refine a_icmp_ge 24 11 dX11_sumCauses_8 rfl (by decide) (fun c_8 => ?_) (fun c_8 => absurd (by decide) c_8)
      refine a_iconst (0) 25 dX11_sumCauses_24 rfl (by decide) ?_
      refine a_istore_n 26 dX11_sumCauses_25 rfl (by decide) ?_
      exact L2 T.ny 0 f _ _ _ _ (by omega) rfl hf (fun x hx => by rw [hfx x hx]; rfl) (fun i hi => absurd hi (by omega)) hfr
    | succ r ih =>
      intro j f h1 y o3 o4 hj hy hf hfx hfr
      subst hy
      have q1 := q.kp (kp_fr hfr) (by decide) (by decide) (by decide)
      have hy1 := q1.1.1
      have vj : vp_in (nI j) 12 := vp_in_nI (by omega) (by decide)
      refine a_iload_n 3 dX11_sumCauses_2 rfl rfl ?_
      refine a_aload_n 4 dX11_sumCauses_3 rfl rfl ?_
      refine a_get fd_X11_71 rfl 7 dX11_sumCauses_4 rfl (by repeat (first | assumption | (refine rg_ne (by first | decide | omega) ?_) | apply rg_eq | refine rg_fr (by assumption) (by first | decide | (simp; omega)) ?_)) rfl ?_
      refine a_alen_0 8 dX11_sumCauses_7 rfl (by repeat (first | assumption | (refine rg_ne (by first | decide | omega) ?_) | apply rg_eq | refine rg_fr (by assumption) (by first | decide | (simp; omega)) ?_)) ?_
      refine a_icmp_ge 24 11 dX11_sumCauses_8 rfl (by decide) (fun c_8 => absurd c_8 (nI_ge (a := j) (b := 12) (by omega) (by decide))) (fun c_8 => ?_)
      refine a_aload_n 12 dX11_sumCauses_11 rfl rfl ?_
      refine a_get fd_X11_71 rfl 15 dX11_sumCauses_12 rfl (by repeat (first | assumption | (refine rg_ne (by first | decide | omega) ?_) | apply rg_eq | refine rg_fr (by assumption) (by first | decide | (simp; omega)) ?_)) rfl ?_
      refine a_iload_n 16 dX11_sumCauses_15 rfl rfl ?_
      refine a_iconst (0) 17 dX11_sumCauses_16 rfl (by decide) ?_
      refine a_iastore 18 dX11_sumCauses_17 rfl (by repeat (first | assumption | (refine rg_ne (by first | decide | omega) ?_) | apply rg_eq | refine rg_fr (by assumption) (by first | decide | (simp; omega)) ?_)) vj ?_
      refine a_iinc _ 21 dX11_sumCauses_18 rfl rfl (by decide) rfl ?_
      refine a_goto 2 dX11_sumCauses_21 (by decide) ?_
      exact ih (j + 1) _ _ _ _ _ (by omega) (nI_1 j) (by rw [nI_clamp (by omega)]; exact rg_eq hf) (up_0 hfx) (fr_set hfr (by decide))
  refine a_iconst (0) 1 dX11_sumCauses_0 rfl (by decide) ?_
  refine a_istore_n 2 dX11_sumCauses_1 rfl (by decide) ?_
  exact L1 12 0 f0 _ _ _ _ (by omega) rfl hf0 (fun x hx => absurd hx (by omega)) (fr_refl _ _)
end CCAUSE
