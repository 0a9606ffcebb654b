/-! THE CLASS's rows of mights, and what is read from them -/
abbrev mz (T : Tn) (z a b : Nat) : Nat := if a = b then 0 else T.mi z a b
def wRow (T : Tn) (z : Nat) (f : Nat → Int32) (x : Nat) : Prop := ∀ a, a < x → f a = nI (T.own z a)
def wMat (T : Tn) (z : Nat) (g : Nat → Int32) (x y : Nat) : Prop := ∀ a b, b < T.m → (a < x ∨ a = x ∧ b < y) → g (a * 12 + b) = nI (mz T z a b)
def wgAt (G : rG) (h : rH) (T : Tn) (z : Nat) : Prop := cAt G h T ∧ z < T.nl ∧ (∃ f, h[25]? = some (.inl (gA G 0, 12, .inl f)) ∧ wRow T z f T.m) ∧ ∃ g, h[26]? = some (.inl (gA G 0, 144, .inl g)) ∧ wMat T z g T.m 0
theorem wgAt.kp {G : rG} {h h' : rH} {T : Tn} {z : Nat} {S : List Nat} (q : wgAt G h T z) (hf : kp h h' S) (hS : scr S) (h5 : 25 ∉ S) (h6 : 26 ∉ S) : wgAt G h' T z := by
  obtain ⟨q1, q2, ⟨f, q3, q4⟩, g, q5, q6⟩ := q
  exact ⟨q1.kp hf hS, q2, ⟨f, kp_get hf h5 q3, q4⟩, g, kp_get hf h6 q5, q6⟩
theorem wRow_s {T : Tn} {z x : Nat} {f : Nat → Int32} (q : wRow T z f x) : wRow T z (upd f x (nI (T.own z x))) (x + 1) := by
  intro a ha
  by_cases e : a = x
  · subst e; exact pk_us
  · rw [pk_un e]; exact q a (by omega)
theorem wMat_s {T : Tn} {z x y : Nat} {g : Nat → Int32} (hm : T.m ≤ 12) (hy : y < T.m) (q : wMat T z g x y) : wMat T z (upd g (x * 12 + y) (nI (mz T z x y))) x (y + 1) := by
  intro a b hb hab
  by_cases e : a * 12 + b = x * 12 + y
  · have e1 : a = x := by omega
    have e2 : b = y := by omega
    subst e1; subst e2; exact pk_us
  · rw [pk_un e]; exact q a b hb (by omega)
theorem wMat_o {T : Tn} {z x : Nat} {g : Nat → Int32} (q : wMat T z g x T.m) : wMat T z g (x + 1) 0 := by
  intro a b hb hab
  exact q a b hb (by omega)
theorem ix_N (x y : Nat) : nI x * 12 + nI y = nI (x * 12 + y) := by
  rw [show (12 : Int32) = nI 12 from rfl, pk_mul, nI_add]
section WEIGH
variable {l : Launch} {G : rG} {h : rH} {T : Tn}
set_option maxRecDepth 100000 in
set_option maxHeartbeats 400000 in
theorem k_X11_weighedLaw (q : cAt G h T) (o : T.ok) (hr : cRow G h) {z : Nat} (hz : z < T.nl) : rM l G 5 mX11_weighedLaw 0 0 [.ref (gN G + 0), .int (nI z)] h (fun h' v => v = some (.ref (gN G + T.la z)) ∧ wgAt G h' T z ∧ fr h h' [25, 26]) := by
  have hm := o.m12
  obtain ⟨⟨f0, hf0⟩, ⟨g0, hg0⟩, -⟩ := hr
  have hL0 := c_law (l := l) q o hz
  refine rM_start (by decide) (Nat.le_of_ble_eq_true rfl) ?_
  have L : ∀ (r x : Nat) (f g : Nat → Int32) (h1 : rH) (y : Int32) (o4 o5 o6 o7 : Option Value), x + r = T.m → y = nI x → h1[25]? = some (.inl (gA G 0, 12, .inl f)) → wRow T z f x → h1[26]? = some (.inl (gA G 0, 144, .inl g)) → wMat T z g x 0 → fr h h1 [25, 26] → rW l G (rRm 5 0 0) mX11_weighedLaw (rZ G (fun h' v => v = some (.ref (gN G + T.la z)) ∧ wgAt G h' T z ∧ fr h h' [25, 26]) 0 0) 0 0 14 [some (.ref (gN G + 0)), some (.int (nI z)), some (.ref (gN G + T.la z)), some (.int y), o4, o5, o6, o7] [] h1 := by
    intro r
    induction r with
    | zero =>
      intro x f g h1 y o4 o5 o6 o7 hx hy hf hwf hg hwg hfr
      subst hy
      have q1 := q.fr hfr (by decide)
      have hy1 := q1.1
      have e : x = T.m := by omega
      subst e
      refine a_iload_n 15 dX11_weighedLaw_14 rfl rfl ?_
      refine a_aload_n 16 dX11_weighedLaw_15 rfl rfl ?_
      refine a_get fd_X11_98 rfl 19 dX11_weighedLaw_16 rfl (by repeat (first | assumption | (refine rg_ne (by first | decide | omega) ?_) | apply rg_eq | refine rg_fr (by assumption) (by first | decide | (simp; omega)) ?_)) rfl ?_
      refine a_icmp_ge 138 22 dX11_weighedLaw_19 rfl (by decide) (fun c_19 => ?_) (fun c_19 => absurd (Int32.le_refl _) c_19)
      refine a_aload_n 139 dX11_weighedLaw_138 rfl rfl ?_
      exact a_areturn dX11_weighedLaw_139 rfl (by first | exact Or.inl rfl | exact Or.inr ⟨_, rfl⟩ | exact rf_or _) (Nat.le_of_ble_eq_true rfl) (Nat.le_of_ble_eq_true rfl) ⟨rfl, ⟨q1, hz, ⟨f, hf, hwf⟩, g, hg, hwg⟩, hfr⟩
    | succ r ih =>
      intro x f g h1 y o4 o5 o6 o7 hx hy hf hwf hg hwg hfr
      subst hy
      have q1 := q.fr hfr (by decide)
      have hy1 := q1.1
      have hxm : x < T.m := by omega
      have vx : vp_in (nI x) 12 := vp_in_nI (by omega) (by decide)
      have Li : ∀ (r2 y : Nat) (f g : Nat → Int32) (h1 : rH) (y1 : Int32) (o6 o7 : Option Value), y + r2 = T.m → y1 = nI y → h1[25]? = some (.inl (gA G 0, 12, .inl f)) → wRow T z f (x + 1) → h1[26]? = some (.inl (gA G 0, 144, .inl g)) → wMat T z g x y → fr h h1 [25, 26] → rW l G (rRm 5 0 0) mX11_weighedLaw (rZ G (fun h' v => v = some (.ref (gN G + T.la z)) ∧ wgAt G h' T z ∧ fr h h' [25, 26]) 0 0) 0 0 54 [some (.ref (gN G + 0)), some (.int (nI z)), some (.ref (gN G + T.la z)), some (.int (nI x)), some (.ref (gN G + T.pa x)), some (.int y1), o6, o7] [] h1 := by
        intro r2
        induction r2 with
        | zero =>
          intro y f g h1 y1 o6 o7 hy hy1 hf hwf hg hwg hfr
          subst hy1
          have q1 := q.fr hfr (by decide)
          have hy1 := q1.1
          have e : y = T.m := by omega
          subst e
          refine a_iload 56 dX11_weighedLaw_54 rfl rfl ?_
          refine a_aload_n 57 dX11_weighedLaw_56 rfl rfl ?_
          refine a_get fd_X11_98 rfl 60 dX11_weighedLaw_57 rfl (by repeat (first | assumption | (refine rg_ne (by first | decide | omega) ?_) | apply rg_eq | refine rg_fr (by assumption) (by first | decide | (simp; omega)) ?_)) rfl ?_
          refine a_icmp_ge 132 63 dX11_weighedLaw_60 rfl (by decide) (fun c_60 => ?_) (fun c_60 => absurd (Int32.le_refl _) c_60)
          refine a_iinc _ 135 dX11_weighedLaw_132 rfl rfl (by decide) rfl ?_
          refine a_goto 14 dX11_weighedLaw_135 (by decide) ?_
          exact ih (x + 1) f g _ _ _ _ _ _ (by omega) (nI_1 x) hf hwf hg (wMat_o hwg) hfr
        | succ r2 ih2 =>
          intro y f g h1 y1 o6 o7 hy hy1 hf hwf hg hwg hfr
          subst hy1
          have q1 := q.fr hfr (by decide)
          have hy1 := q1.1
          have hym : y < T.m := by omega
          have vi : vp_in (nI (x * 12 + y)) 144 := vp_in_nI (by omega) (by decide)
          refine a_iload 56 dX11_weighedLaw_54 rfl rfl ?_
          refine a_aload_n 57 dX11_weighedLaw_56 rfl rfl ?_
          refine a_get fd_X11_98 rfl 60 dX11_weighedLaw_57 rfl (by repeat (first | assumption | (refine rg_ne (by first | decide | omega) ?_) | apply rg_eq | refine rg_fr (by assumption) (by first | decide | (simp; omega)) ?_)) rfl ?_
          refine a_icmp_ge 132 63 dX11_weighedLaw_60 rfl (by decide) (fun c_60 => absurd c_60 (nI_ge (a := y) (b := T.m) (by omega) (by omega))) (fun c_60 => ?_)
          refine a_aload_n 64 dX11_weighedLaw_63 rfl rfl ?_
          refine a_iload 66 dX11_weighedLaw_64 rfl rfl ?_
          refine a_callV ok_X11_personAt ln_X11_152 in_X11_personAt rfl 69 dX11_weighedLaw_66 rfl (c_person q1 o hym) (by repeat (first | assumption | (refine rg_ne (by first | decide | omega) ?_) | apply rg_eq | refine rg_fr (by assumption) (by first | decide | (simp; omega)) ?_)) rfl rfl rfl ⟨(Nat.le_of_ble_eq_true rfl), (Nat.le_of_ble_eq_true rfl)⟩ (Nat.le_of_ble_eq_true rfl) ⟨(Nat.le_of_ble_eq_true rfl), (Nat.le_of_ble_eq_true rfl)⟩ ?_
          rintro _ _ ⟨rfl, rfl⟩
          refine a_astore 71 dX11_weighedLaw_69 rfl (by decide) ?_
          refine a_iload_n 72 dX11_weighedLaw_71 rfl rfl ?_
          refine a_bipush (12) 74 dX11_weighedLaw_72 rfl (by decide) ?_
          refine a_imul 75 dX11_weighedLaw_74 rfl ?_
          refine a_iload 77 dX11_weighedLaw_75 rfl rfl ?_
          refine a_iadd 78 dX11_weighedLaw_77 rfl ?_
          rw [ix_N]
          refine a_istore 80 dX11_weighedLaw_78 rfl (by decide) ?_
          refine a_aload 82 dX11_weighedLaw_80 rfl rfl ?_
          refine a_ifnull 85 dX11_weighedLaw_82 rfl ?_
          refine a_aload 87 dX11_weighedLaw_85 rfl rfl ?_
          refine a_ifnull 90 dX11_weighedLaw_87 rfl ?_
          refine a_iload 92 dX11_weighedLaw_90 rfl rfl ?_
          refine a_aload_n 93 dX11_weighedLaw_92 rfl rfl ?_
          refine a_get fd_X11_68 rfl 96 dX11_weighedLaw_93 rfl (by repeat (first | assumption | (refine rg_ne (by first | decide | omega) ?_) | apply rg_eq | refine rg_fr (by assumption) (by first | decide | (simp; omega)) ?_)) rfl ?_
          refine a_alen_0 97 dX11_weighedLaw_96 rfl (by repeat (first | assumption | (refine rg_ne (by first | decide | omega) ?_) | apply rg_eq | refine rg_fr (by assumption) (by first | decide | (simp; omega)) ?_)) ?_
          refine a_icmp_ge 126 100 dX11_weighedLaw_97 rfl (by decide) (fun c_97 => absurd c_97 (nI_ge (a := x * 12 + y) (b := 144) (by omega) (by decide))) (fun c_97 => ?_)
          refine a_aload_n 101 dX11_weighedLaw_100 rfl rfl ?_
          refine a_get fd_X11_68 rfl 104 dX11_weighedLaw_101 rfl (by repeat (first | assumption | (refine rg_ne (by first | decide | omega) ?_) | apply rg_eq | refine rg_fr (by assumption) (by first | decide | (simp; omega)) ?_)) rfl ?_
          refine a_iload 106 dX11_weighedLaw_104 rfl rfl ?_
          refine a_iload_n 107 dX11_weighedLaw_106 rfl rfl ?_
          refine a_iload 109 dX11_weighedLaw_107 rfl rfl ?_
          refine a_icmp_ne 116 112 dX11_weighedLaw_109 rfl (by decide) (fun c_109 => ?_) (fun c_109 => ?_)
          · refine a_aload_n 117 dX11_weighedLaw_116 rfl rfl ?_
            refine a_aload_n 118 dX11_weighedLaw_117 rfl rfl ?_
            refine a_aload 120 dX11_weighedLaw_118 rfl rfl ?_
            refine a_aload 122 dX11_weighedLaw_120 rfl rfl ?_
            refine a_callV ok_X11_catchMight ln_X11_191 in_X11_catchMight rfl 125 dX11_weighedLaw_122 rfl (c_catch q1 o hz hxm hym) (by repeat (first | assumption | (refine rg_ne (by first | decide | omega) ?_) | apply rg_eq | refine rg_fr (by assumption) (by first | decide | (simp; omega)) ?_)) rfl rfl rfl ⟨(Nat.le_of_ble_eq_true rfl), (Nat.le_of_ble_eq_true rfl)⟩ (Nat.le_of_ble_eq_true rfl) ⟨(Nat.le_of_ble_eq_true rfl), (Nat.le_of_ble_eq_true rfl)⟩ ?_
            rintro _ _ ⟨rfl, rfl⟩
            rw [show nI (T.mi z x y) = nI (mz T z x y) by rw [mz, if_neg (fun e => c_109 (congrArg nI e))]]
            refine a_iastore 126 dX11_weighedLaw_125 rfl (by repeat (first | assumption | (refine rg_ne (by first | decide | omega) ?_) | apply rg_eq | refine rg_fr (by assumption) (by first | decide | (simp; omega)) ?_)) vi ?_
            refine a_iinc _ 129 dX11_weighedLaw_126 rfl rfl (by decide) rfl ?_
            refine a_goto 54 dX11_weighedLaw_129 (by decide) ?_
            exact ih2 (y + 1) f (upd g (x * 12 + y) (nI (mz T z x y))) _ _ _ _ (by omega) (nI_1 y) (by exact rg_ne (by decide) hf) hwf (by rw [nI_clamp (by omega)]; exact rg_eq hg) (wMat_s hm hym hwg) (fr_set hfr (by decide))
          · refine a_iconst (0) 113 dX11_weighedLaw_112 rfl (by decide) ?_
            refine a_goto 125 dX11_weighedLaw_113 (by decide) ?_
            rw [show (0 : Int32) = nI (mz T z x y) by rw [mz, if_pos ((nI_eq (by omega) (by omega)).mp c_109)]; rfl]
            refine a_iastore 126 dX11_weighedLaw_125 rfl (by repeat (first | assumption | (refine rg_ne (by first | decide | omega) ?_) | apply rg_eq | refine rg_fr (by assumption) (by first | decide | (simp; omega)) ?_)) vi ?_
            refine a_iinc _ 129 dX11_weighedLaw_126 rfl rfl (by decide) rfl ?_
            refine a_goto 54 dX11_weighedLaw_129 (by decide) ?_
            exact ih2 (y + 1) f (upd g (x * 12 + y) (nI (mz T z x y))) _ _ _ _ (by omega) (nI_1 y) (by exact rg_ne (by decide) hf) hwf (by rw [nI_clamp (by omega)]; exact rg_eq hg) (wMat_s hm hym hwg) (fr_set hfr (by decide))
      refine a_iload_n 15 dX11_weighedLaw_14 rfl rfl ?_
      refine a_aload_n 16 dX11_weighedLaw_15 rfl rfl ?_
      refine a_get fd_X11_98 rfl 19 dX11_weighedLaw_16 rfl (by repeat (first | assumption | (refine rg_ne (by first | decide | omega) ?_) | apply rg_eq | refine rg_fr (by assumption) (by first | decide | (simp; omega)) ?_)) rfl ?_
      refine a_icmp_ge 138 22 dX11_weighedLaw_19 rfl (by decide) (fun c_19 => absurd c_19 (nI_ge (a := x) (b := T.m) (by omega) (by omega))) (fun c_19 => ?_)
      refine a_iload_n 23 dX11_weighedLaw_22 rfl rfl ?_
      refine a_aload_n 24 dX11_weighedLaw_23 rfl rfl ?_
      refine a_get fd_X11_64 rfl 27 dX11_weighedLaw_24 rfl (by repeat (first | assumption | (refine rg_ne (by first | decide | omega) ?_) | apply rg_eq | refine rg_fr (by assumption) (by first | decide | (simp; omega)) ?_)) rfl ?_
      refine a_alen_0 28 dX11_weighedLaw_27 rfl (by repeat (first | assumption | (refine rg_ne (by first | decide | omega) ?_) | apply rg_eq | refine rg_fr (by assumption) (by first | decide | (simp; omega)) ?_)) ?_
      refine a_icmp_ge 138 31 dX11_weighedLaw_28 rfl (by decide) (fun c_28 => absurd c_28 (nI_ge (a := x) (b := 12) (by omega) (by decide))) (fun c_28 => ?_)
      refine a_aload_n 32 dX11_weighedLaw_31 rfl rfl ?_
      refine a_iload_n 33 dX11_weighedLaw_32 rfl rfl ?_
      refine a_callV ok_X11_personAt ln_X11_152 in_X11_personAt rfl 36 dX11_weighedLaw_33 rfl (c_person q1 o hxm) (by repeat (first | assumption | (refine rg_ne (by first | decide | omega) ?_) | apply rg_eq | refine rg_fr (by assumption) (by first | decide | (simp; omega)) ?_)) rfl rfl rfl ⟨(Nat.le_of_ble_eq_true rfl), (Nat.le_of_ble_eq_true rfl)⟩ (Nat.le_of_ble_eq_true rfl) ⟨(Nat.le_of_ble_eq_true rfl), (Nat.le_of_ble_eq_true rfl)⟩ ?_
      rintro _ _ ⟨rfl, rfl⟩
      refine a_astore 38 dX11_weighedLaw_36 rfl (by decide) ?_
      refine a_aload_n 39 dX11_weighedLaw_38 rfl rfl ?_
      refine a_get fd_X11_64 rfl 42 dX11_weighedLaw_39 rfl (by repeat (first | assumption | (refine rg_ne (by first | decide | omega) ?_) | apply rg_eq | refine rg_fr (by assumption) (by first | decide | (simp; omega)) ?_)) rfl ?_
      refine a_iload_n 43 dX11_weighedLaw_42 rfl rfl ?_
      refine a_aload_n 44 dX11_weighedLaw_43 rfl rfl ?_
      refine a_aload_n 45 dX11_weighedLaw_44 rfl rfl ?_
      refine a_aload 47 dX11_weighedLaw_45 rfl rfl ?_
      refine a_callV ok_X11_ownMight ln_X11_187 in_X11_ownMight rfl 50 dX11_weighedLaw_47 rfl (c_own q1 o hz hxm) (by repeat (first | assumption | (refine rg_ne (by first | decide | omega) ?_) | apply rg_eq | refine rg_fr (by assumption) (by first | decide | (simp; omega)) ?_)) rfl rfl rfl ⟨(Nat.le_of_ble_eq_true rfl), (Nat.le_of_ble_eq_true rfl)⟩ (Nat.le_of_ble_eq_true rfl) ⟨(Nat.le_of_ble_eq_true rfl), (Nat.le_of_ble_eq_true rfl)⟩ ?_
      rintro _ _ ⟨rfl, rfl⟩
      refine a_iastore 51 dX11_weighedLaw_50 rfl (by repeat (first | assumption | (refine rg_ne (by first | decide | omega) ?_) | apply rg_eq | refine rg_fr (by assumption) (by first | decide | (simp; omega)) ?_)) vx ?_
      refine a_iconst (0) 52 dX11_weighedLaw_51 rfl (by decide) ?_
      refine a_istore 54 dX11_weighedLaw_52 rfl (by decide) ?_
      exact Li T.m 0 (upd f x (nI (T.own z x))) g _ _ _ _ (by omega) rfl (by rw [nI_clamp (by omega)]; exact rg_eq hf) (wRow_s hwf) (by exact rg_ne (by decide) hg) hwg (fr_set hfr (by decide))
  have hy0 := q.1
  refine a_aload_n 1 dX11_weighedLaw_0 rfl rfl ?_
  refine a_iload_n 2 dX11_weighedLaw_1 rfl rfl ?_
  refine a_callV ok_X11_lawAt ln_X11_180 in_X11_lawAt rfl 5 dX11_weighedLaw_2 rfl (hL0) (by repeat (first | assumption | (refine rg_ne (by first | decide | omega) ?_) | apply rg_eq | refine rg_fr (by assumption) (by first | decide | (simp; omega)) ?_)) rfl rfl rfl ⟨(Nat.le_of_ble_eq_true rfl), (Nat.le_of_ble_eq_true rfl)⟩ (Nat.le_of_ble_eq_true rfl) ⟨(Nat.le_of_ble_eq_true rfl), (Nat.le_of_ble_eq_true rfl)⟩ ?_
  rintro _ _ ⟨rfl, rfl⟩
  refine a_astore_n 6 dX11_weighedLaw_5 rfl (by decide) ?_
  refine a_aload_n 7 dX11_weighedLaw_6 rfl rfl ?_
  refine a_ifnonnull 12 dX11_weighedLaw_7 (by decide) ?_
  refine a_iconst (0) 13 dX11_weighedLaw_12 rfl (by decide) ?_
  refine a_istore_n 14 dX11_weighedLaw_13 rfl (by decide) ?_
  exact L T.m 0 f0 g0 _ _ _ _ _ _ (by omega) rfl hf0 (fun a ha => absurd ha (by omega)) hg0 (fun a b hb hab => absurd hab (by omega)) (fr_refl _ _)
set_option maxRecDepth 100000 in
set_option maxHeartbeats 400000 in
theorem k_X11_weighedLawN (q : cAt G h T) {c : Int32} (hc : ¬ (0 ≤ c ∧ c < nI T.nl)) : rM l G 5 mX11_weighedLaw 0 0 [.ref (gN G + 0), .int c] h (rV h (some .null)) := by
  have hy := q.1
  refine rM_start (by decide) (Nat.le_of_ble_eq_true rfl) ?_
  refine a_aload_n 1 dX11_weighedLaw_0 rfl rfl ?_
  refine a_iload_n 2 dX11_weighedLaw_1 rfl rfl ?_
  refine a_callV ok_X11_lawAt ln_X11_180 in_X11_lawAt rfl 5 dX11_weighedLaw_2 rfl (c_lawN q hc) (by repeat (first | assumption | (refine rg_ne (by first | decide | omega) ?_) | apply rg_eq | refine rg_fr (by assumption) (by first | decide | (simp; omega)) ?_)) rfl rfl rfl ⟨(Nat.le_of_ble_eq_true rfl), (Nat.le_of_ble_eq_true rfl)⟩ (Nat.le_of_ble_eq_true rfl) ⟨(Nat.le_of_ble_eq_true rfl), (Nat.le_of_ble_eq_true rfl)⟩ ?_
  rintro _ _ ⟨rfl, rfl⟩
  refine a_astoreN_n 6 dX11_weighedLaw_5 rfl (by decide) ?_
  refine a_aloadN_n 7 dX11_weighedLaw_6 rfl rfl ?_
  refine a_ifnonnullN 10 dX11_weighedLaw_7 rfl ?_
  refine a_null 11 dX11_weighedLaw_10 rfl ?_
  exact a_areturn dX11_weighedLaw_11 rfl (by first | exact Or.inl rfl | exact Or.inr ⟨_, rfl⟩ | exact rf_or _) (Nat.le_of_ble_eq_true rfl) (Nat.le_of_ble_eq_true rfl) ⟨rfl, rfl⟩
/-- what yawn i gives x at minute a -/
abbrev frT (T : Tn) (z a x i : Nat) : Nat := fromN T.nu (T.mi z) z a x (T.ym i) (T.yw i)
theorem frT_src {T : Tn} (o : T.ok) {z q p : Nat} (hz : z < T.nl) (hq : q < T.ny) (hp : p < T.ny) : frT T z (T.ym q) (T.yw q) p = T.src z q p := by
  show _ = srcN T.nu (T.mi z) T.ym T.yw z q p
  unfold srcN
  by_cases e : p < q
  · rw [if_pos e]
  · rw [if_neg e]
    unfold frT fromN
    have h1 := o.nu5 hz
    have h2 : T.ym q ≤ T.ym p := by
      rcases Nat.lt_or_ge q p with e2 | e2
      · exact o.ymm e2 hp
      · rw [show p = q by omega]; exact Nat.le_refl _
    rw [if_neg (by omega)]
theorem wg_row {z : Nat} (q : wgAt G h T z) : cYaw G h T.2.2.2.1 := q.1.2.2.2.2.2.2.1
set_option maxRecDepth 100000 in
set_option maxHeartbeats 400000 in
theorem k_X11_mightFromYawn {z : Nat} (q : wgAt G h T z) (o : T.ok) {a x i : Nat} (hx : x < T.m) (ha : a < 2 ^ 30) (hi : i < T.ny) : rM l G 2 mX11_mightFromYawn 0 0 [.ref (gN G + 0), .ref (gN G + T.la z), .int (nI x), .int (nI a), .int (nI i)] h (rV h (some (.int (nI (frT T z a x i))))) := by
  have hm := o.m12
  have hny := o.ny24
  have hym := o.ym hi
  have hyw := o.yw hi
  have hz := q.2.1
  obtain ⟨r1, ⟨f1, r2, r3⟩, f2, r4, r5⟩ := wg_row q
  obtain ⟨cb, fl, ⟨hl1, hl2⟩, hf⟩ := c_lat q.1 hz
  obtain ⟨-, -, -, g, hg, hwg⟩ := id q
  have hu5 := o.nu10 hz (w := 5) (by decide)
  have hu6 := o.nu10 hz (w := 6) (by decide)
  have hy := q.1.1
  have e1 : (if 0 ≤ nI i ∧ nI i < 24 then f1 (nI i).toNatClampNeg else 0) = nI (T.ym i) := by
    rw [if_pos ⟨nI_pos' (by omega), nI_lt (b := 24) (by omega) (by decide)⟩, nI_clamp (by omega)]
    exact r3 i hi
  have e2 : (if 0 ≤ nI i ∧ nI i < 24 then f2 (nI i).toNatClampNeg else -9) = nI (T.yw i) := by
    rw [if_pos ⟨nI_pos' (by omega), nI_lt (b := 24) (by omega) (by decide)⟩, nI_clamp (by omega)]
    exact r5 i hi
  have e3 : (fl 5 ≤ nI a - nI (T.ym i) ∧ nI a - nI (T.ym i) ≤ fl 6) ↔ (T.ym i + T.nu z 5 ≤ a ∧ a ≤ T.ym i + T.nu z 6) := by
    rw [hf 5 (by decide), hf 6 (by decide), i_le, i_le, nI_toInt (by omega), nI_toInt (by omega), pk_sub_toInt ha (by omega)]
    omega
  have e4 : (if 0 ≤ nI x * 12 + nI (T.yw i) ∧ nI x * 12 + nI (T.yw i) < 144 then g (nI x * 12 + nI (T.yw i)).toNatClampNeg else 0) = nI (mz T z x (T.yw i)) := by
    rw [ix_N, if_pos ⟨nI_pos' (by omega), nI_lt (b := 144) (by omega) (by decide)⟩, nI_clamp (by omega), hwg x (T.yw i) hyw (Or.inl hx)]
  refine rM_start (by decide) (Nat.le_of_ble_eq_true rfl) ?_
  refine a_iload_n 1 dX11_mightFromYawn_0 rfl rfl ?_
  refine a_aload_n 2 dX11_mightFromYawn_1 rfl rfl ?_
  refine a_get fd_X11_53 rfl 5 dX11_mightFromYawn_2 rfl (by repeat (first | assumption | (refine rg_ne (by first | decide | omega) ?_) | apply rg_eq | refine rg_fr (by assumption) (by first | decide | (simp; omega)) ?_)) rfl ?_
  refine a_iload 7 dX11_mightFromYawn_5 rfl rfl ?_
  refine a_callV ok_X10_minuteOf ln_X11_211 in_X10_minuteOf rfl 10 dX11_mightFromYawn_7 rfl (k_X10_minuteOf r1 r2 _) (by repeat (first | assumption | (refine rg_ne (by first | decide | omega) ?_) | apply rg_eq | refine rg_fr (by assumption) (by first | decide | (simp; omega)) ?_)) rfl rfl rfl ⟨(Nat.le_of_ble_eq_true rfl), (Nat.le_of_ble_eq_true rfl)⟩ (Nat.le_of_ble_eq_true rfl) ⟨(Nat.le_of_ble_eq_true rfl), (Nat.le_of_ble_eq_true rfl)⟩ ?_
  rintro _ _ ⟨rfl, rfl⟩
  rw [e1]
  refine a_isub 11 dX11_mightFromYawn_10 rfl ?_
  refine a_istore 13 dX11_mightFromYawn_11 rfl (by decide) ?_
  refine a_aload_n 14 dX11_mightFromYawn_13 rfl rfl ?_
  refine a_iload 16 dX11_mightFromYawn_14 rfl rfl ?_
  refine a_callV ok_X5_allows ln_X11_401 in_X5_allows rfl 19 dX11_mightFromYawn_16 rfl (k_X5_allows hl1 hl2 _) (by repeat (first | assumption | (refine rg_ne (by first | decide | omega) ?_) | apply rg_eq | refine rg_fr (by assumption) (by first | decide | (simp; omega)) ?_)) rfl rfl rfl ⟨(Nat.le_of_ble_eq_true rfl), (Nat.le_of_ble_eq_true rfl)⟩ (Nat.le_of_ble_eq_true rfl) ⟨(Nat.le_of_ble_eq_true rfl), (Nat.le_of_ble_eq_true rfl)⟩ ?_
  rintro _ _ ⟨rfl, rfl⟩
  refine a_if_eq 39 22 dX11_mightFromYawn_19 rfl (by decide) (fun c_19 => ?_) (fun c_19 => ?_)
  · refine a_iconst (0) 40 dX11_mightFromYawn_39 rfl (by decide) ?_
    exact a_ireturn dX11_mightFromYawn_40 rfl rfl (Nat.le_of_ble_eq_true rfl) (Nat.le_of_ble_eq_true rfl) ⟨rfl, by rw [show frT T z a x i = 0 from if_neg (fun q => b_eq0.mp c_19 (e3.mpr q.2)), nI_0]⟩
  · refine a_aload_n 23 dX11_mightFromYawn_22 rfl rfl ?_
    refine a_iload_n 24 dX11_mightFromYawn_23 rfl rfl ?_
    refine a_aload_n 25 dX11_mightFromYawn_24 rfl rfl ?_
    refine a_get fd_X11_53 rfl 28 dX11_mightFromYawn_25 rfl (by repeat (first | assumption | (refine rg_ne (by first | decide | omega) ?_) | apply rg_eq | refine rg_fr (by assumption) (by first | decide | (simp; omega)) ?_)) rfl ?_
    refine a_iload 30 dX11_mightFromYawn_28 rfl rfl ?_
    refine a_callV ok_X10_whoOf ln_X11_214 in_X10_whoOf rfl 33 dX11_mightFromYawn_30 rfl (k_X10_whoOf r1 r4 _) (by repeat (first | assumption | (refine rg_ne (by first | decide | omega) ?_) | apply rg_eq | refine rg_fr (by assumption) (by first | decide | (simp; omega)) ?_)) rfl rfl rfl ⟨(Nat.le_of_ble_eq_true rfl), (Nat.le_of_ble_eq_true rfl)⟩ (Nat.le_of_ble_eq_true rfl) ⟨(Nat.le_of_ble_eq_true rfl), (Nat.le_of_ble_eq_true rfl)⟩ ?_
    rintro _ _ ⟨rfl, rfl⟩
    rw [e2]
    refine a_callV ok_X11_weighed ln_X11_404 in_X11_weighed rfl 36 dX11_mightFromYawn_33 rfl (k_X11_weighed hy hg _ _) (by repeat (first | assumption | (refine rg_ne (by first | decide | omega) ?_) | apply rg_eq | refine rg_fr (by assumption) (by first | decide | (simp; omega)) ?_)) rfl rfl rfl ⟨(Nat.le_of_ble_eq_true rfl), (Nat.le_of_ble_eq_true rfl)⟩ (Nat.le_of_ble_eq_true rfl) ⟨(Nat.le_of_ble_eq_true rfl), (Nat.le_of_ble_eq_true rfl)⟩ ?_
    rintro _ _ ⟨rfl, rfl⟩
    refine a_goto 40 dX11_mightFromYawn_36 (by decide) ?_
    exact a_ireturn dX11_mightFromYawn_40 rfl rfl (Nat.le_of_ble_eq_true rfl) (Nat.le_of_ble_eq_true rfl) ⟨rfl, by rw [e4, show mz T z x (T.yw i) = frT T z a x i from (by unfold frT fromN mz; by_cases e : x = T.yw i; (rw [if_pos e, if_neg (fun q => q.1 e)]); (rw [if_neg e, if_pos ⟨e, e3.mp (Decidable.not_not.mp (fun q => c_19 (if_neg q)))⟩]))]⟩
set_option maxRecDepth 100000 in
set_option maxHeartbeats 400000 in
theorem k_X11_sourceMight {z : Nat} (q : wgAt G h T z) (o : T.ok) {j i : Nat} (hj : j < T.ny) (hi : i < T.ny) : rM l G 3 mX11_sourceMight 0 0 [.ref (gN G + 0), .ref (gN G + T.la z), .int (nI j), .int (nI i)] h (rV h (some (.int (nI (T.src z j i))))) := by
  have hny := o.ny24
  have hym := o.ym hj
  have hyw := o.yw hj
  have hz := q.2.1
  have hy := q.1.1
  obtain ⟨r1, ⟨f1, r2, r3⟩, f2, r4, r5⟩ := wg_row q
  have e1 : (if 0 ≤ nI j ∧ nI j < 24 then f1 (nI j).toNatClampNeg else 0) = nI (T.ym j) := by
    rw [if_pos ⟨nI_pos' (by omega), nI_lt (b := 24) (by omega) (by decide)⟩, nI_clamp (by omega)]
    exact r3 j hj
  have e2 : (if 0 ≤ nI j ∧ nI j < 24 then f2 (nI j).toNatClampNeg else -9) = nI (T.yw j) := by
    rw [if_pos ⟨nI_pos' (by omega), nI_lt (b := 24) (by omega) (by decide)⟩, nI_clamp (by omega)]
    exact r5 j hj
  refine rM_start (by decide) (Nat.le_of_ble_eq_true rfl) ?_
  refine a_aload_n 1 dX11_sourceMight_0 rfl rfl ?_
  refine a_aload_n 2 dX11_sourceMight_1 rfl rfl ?_
  refine a_aload_n 3 dX11_sourceMight_2 rfl rfl ?_
  refine a_get fd_X11_53 rfl 6 dX11_sourceMight_3 rfl (by repeat (first | assumption | (refine rg_ne (by first | decide | omega) ?_) | apply rg_eq | refine rg_fr (by assumption) (by first | decide | (simp; omega)) ?_)) rfl ?_
  refine a_iload_n 7 dX11_sourceMight_6 rfl rfl ?_
  refine a_callV ok_X10_whoOf ln_X11_214 in_X10_whoOf rfl 10 dX11_sourceMight_7 rfl (k_X10_whoOf r1 r4 _) (by repeat (first | assumption | (refine rg_ne (by first | decide | omega) ?_) | apply rg_eq | refine rg_fr (by assumption) (by first | decide | (simp; omega)) ?_)) rfl rfl rfl ⟨(Nat.le_of_ble_eq_true rfl), (Nat.le_of_ble_eq_true rfl)⟩ (Nat.le_of_ble_eq_true rfl) ⟨(Nat.le_of_ble_eq_true rfl), (Nat.le_of_ble_eq_true rfl)⟩ ?_
  rintro _ _ ⟨rfl, rfl⟩
  rw [e2]
  refine a_aload_n 11 dX11_sourceMight_10 rfl rfl ?_
  refine a_get fd_X11_53 rfl 14 dX11_sourceMight_11 rfl (by repeat (first | assumption | (refine rg_ne (by first | decide | omega) ?_) | apply rg_eq | refine rg_fr (by assumption) (by first | decide | (simp; omega)) ?_)) rfl ?_
  refine a_iload_n 15 dX11_sourceMight_14 rfl rfl ?_
  refine a_callV ok_X10_minuteOf ln_X11_211 in_X10_minuteOf rfl 18 dX11_sourceMight_15 rfl (k_X10_minuteOf r1 r2 _) (by repeat (first | assumption | (refine rg_ne (by first | decide | omega) ?_) | apply rg_eq | refine rg_fr (by assumption) (by first | decide | (simp; omega)) ?_)) rfl rfl rfl ⟨(Nat.le_of_ble_eq_true rfl), (Nat.le_of_ble_eq_true rfl)⟩ (Nat.le_of_ble_eq_true rfl) ⟨(Nat.le_of_ble_eq_true rfl), (Nat.le_of_ble_eq_true rfl)⟩ ?_
  rintro _ _ ⟨rfl, rfl⟩
  rw [e1]
  refine a_iload_n 19 dX11_sourceMight_18 rfl rfl ?_
  refine a_callV ok_X11_mightFromYawn ln_X11_407 in_X11_mightFromYawn rfl 22 dX11_sourceMight_19 rfl (k_X11_mightFromYawn q o hyw (by omega) hi) (by repeat (first | assumption | (refine rg_ne (by first | decide | omega) ?_) | apply rg_eq | refine rg_fr (by assumption) (by first | decide | (simp; omega)) ?_)) rfl rfl rfl ⟨(Nat.le_of_ble_eq_true rfl), (Nat.le_of_ble_eq_true rfl)⟩ (Nat.le_of_ble_eq_true rfl) ⟨(Nat.le_of_ble_eq_true rfl), (Nat.le_of_ble_eq_true rfl)⟩ ?_
  rintro _ _ ⟨rfl, rfl⟩
  exact a_ireturn dX11_sourceMight_22 rfl rfl (Nat.le_of_ble_eq_true rfl) (Nat.le_of_ble_eq_true rfl) ⟨rfl, by rw [frT_src o hz hj hi]⟩
end WEIGH
