/-! THE CLASS: a night goes on -/
abbrev nigE (T : Tn) (z : Nat) (code : Nat → Int32) (mins : Nat) : nigS := nigT T z code (lastT T + 1) mins (T.2.2.2.1, 0)
def nigR (T : Tn) (z : Nat) (code : Nat → Int32) (N : Nat) : Int32 × Tn := if T.m = 0 then (-3, setFT T 0 T.tr) else if andN (fun p => decide (0 ≤ code p ∧ code p ≤ 999)) (N / T.m * T.m) then (nI (nigE T z code (N / T.m)).2, setY (setFT T 0 T.tr) (nigE T z code (N / T.m)).1) else (-2, setFT T 0 T.tr)
def aNight (T : Tn) (e c d i n : Int32) : Int32 × Tn := match oT T.nl e with
  | none => (-1, setFT T 0 T.tr)
  | some z => if (refF T c d i n).1 = 0 then (match oT 4 c with
    | some y => nigR T z (codeT T y i.toNatClampNeg) n.toNatClampNeg
    | none => (0, T)) else ((refF T c d i n).1, setFT T (refF T c d i n).2 T.tr)
theorem nigX_FT {T : Tn} {z : Nat} {code : Nat → Int32} {a b : Nat} {f t : Int32} {s : nigS} : ∀ x, nigX (setFT T f t) z code a b x s = nigX T z code a b x s
  | 0 => rfl
  | x + 1 => by
    rw [nigX, nigX, nigX_FT x]
theorem nigT_FT {T : Tn} {z : Nat} {code : Nat → Int32} {first : Nat} {f u : Int32} {s : nigS} : ∀ t, nigT (setFT T f u) z code first t s = nigT T z code first t s
  | 0 => rfl
  | t + 1 => by
    rw [nigT, nigT, nigT_FT t]
    exact nigX_FT _
theorem lastT_le {T : Tn} (o : T.ok) : ∀ q, q < T.ny → T.ym q ≤ lastT T := by
  intro q hq
  rw [show lastT T = T.ym (T.ny - 1) from if_neg (by omega)]
  rcases Nat.lt_or_ge q (T.ny - 1) with e | e
  · exact o.ymm e (by omega)
  · rw [show q = T.ny - 1 by omega]; exact Nat.le_refl _
theorem lastT_lt {T : Tn} (o : T.ok) : lastT T < 600 := by
  by_cases e : T.ny = 0
  · rw [show lastT T = 0 from if_pos e]; decide
  · rw [show lastT T = T.ym (T.ny - 1) from if_neg e]; exact o.ym (by omega)
theorem okN_0 {T : Tn} (o : T.ok) : okN T.m (lastT T + 1) T.2.2.2.1 := ⟨o.2.2.2.1, fun q hq => Nat.le_trans (lastT_le o q hq) (by omega)⟩
theorem nigX_s {T : Tn} {z : Nat} {code : Nat → Int32} {a b x : Nat} {s : nigS} : nigX T z code a b (x + 1) s = if (a ≤ 599 ∧ (nigX T z code a b x s).1.1 < 24) ∧ code (b + x) < nI (sumT (setY T (nigX T z code a b x s).1) z a x) then (addY (nigX T z code a b x s).1 a x, (nigX T z code a b x s).2 + 1) else nigX T z code a b x s := rfl
theorem wg_0 {G : rG} {h h' : rH} {T : Tn} {z : Nat} {f : Int32} (w : wgAt G h (setFT T 0 T.tr) z) (q : cAll G h' (setFT T f T.tr)) (hf : fr h h' [0]) : wgAt G h' (setFT T f T.tr) z := by
  obtain ⟨-, w2, ⟨g, w3, w4⟩, g2, w5, w6⟩ := w
  exact ⟨q.1, w2, ⟨g, rg_fr hf (by decide) w3, w4⟩, g2, rg_fr hf (by decide) w5, w6⟩
section CNIGHT2
variable {l : Launch} {G : rG} {h : rH} {T : Tn} {z : Nat}
set_option maxRecDepth 100000 in
set_option maxHeartbeats 400000 in
theorem k_X11_goOn (w : wgAt G h T z) (q : cAll G h T) (o : T.ok) {b cb : Nat} {h1 l1 len : Int32} {f code : Nat → Int32} {a K : Nat} (hm0 : 0 < T.m) (hb : b ∉ [14, 15, 16]) (hcb : cb ∉ [14, 15, 16]) (hc : h[b]? = some (.inr (8, [.ref (gN G + cb), .int h1, .int l1, .int len]))) (hf : h[cb]? = some (.inl (gA G 0, 60, .inl f))) (ha : a + K * T.m ≤ 60) (hcode : ∀ p, p < K * T.m → f (a + p) = code p) : rM l G 6 mX11_goOn 0 0 [.ref (gN G + 0), .ref (gN G + T.la z), .ref (gN G + b), .int (nI a), .int (nI K)] h (fun h' v => v = some (.int (nI (nigE T z code K).2)) ∧ cAll G h' (setY T (nigE T z code K).1) ∧ fr h h' [14, 15, 16]) := by
  have hy := q.1.1
  have hm := o.m12
  have hny := o.ny24
  have hl6 := lastT_lt o
  have hKm : K ≤ 60 := Nat.le_trans (Nat.le_mul_of_pos_right K hm0) (by omega)
  obtain ⟨r1, ⟨f1, r2, r3⟩, f2, r4, r5⟩ := q.1.2.2.2.2.2.2.1
  have hla : 0 < T.ny → (if 0 ≤ nI T.ny - 1 ∧ nI T.ny - 1 < 24 then f1 (nI T.ny - 1).toNatClampNeg else 0) + 1 = nI (lastT T + 1) := by
    intro h0
    have e1 : nI T.ny - 1 = nI (T.ny - 1) := pk_sub (b := 1) (by omega)
    rw [e1, if_pos ⟨nI_pos' (by omega), nI_lt (b := 24) (by omega) (by decide)⟩, nI_clamp (by omega), r3 (T.ny - 1) (Nat.sub_lt h0 (by decide)), show lastT T = T.ym (T.ny - 1) from if_neg (by omega)]
    exact nI_1 _
  have hle := nI_le0 (k := T.ny) (by omega)
  have A : ∀ (r t : Nat) (s : nigS) (h1 : rH) (y5 y6 y8 : Int32) (o9 : Option Value), t + r = K → s = nigT T z code (lastT T + 1) t (T.2.2.2.1, 0) → y5 = nI s.2 → y6 = nI (a + t * T.m) → y8 = nI t → wgAt G h1 (setY T s.1) z → cAll G h1 (setY T s.1) → fr h h1 [14, 15, 16] → rW l G (rRm 6 0 0) mX11_goOn (rZ G (fun h' v => v = some (.int (nI (nigE T z code K).2)) ∧ cAll G h' (setY T (nigE T z code K).1) ∧ fr h h' [14, 15, 16]) 0 0) 0 0 34 [some (.ref (gN G + 0)), some (.ref (gN G + T.la z)), some (.ref (gN G + b)), some (.int (nI a)), some (.int (nI K)), some (.int y5), some (.int y6), some (.int (nI (lastT T + 1))), some (.int y8), o9] [] h1 := by
    intro r
    induction r with
    | zero =>
      intro t s h1 y5 y6 y8 o9 ht hs h5 h6 h8 w1 q1 hfr
      subst h5; subst h6; subst h8
      have e : t = K := by omega
      subst e
      have es : s = nigE T z code t := hs
      rw [es] at q1 ⊢
      have hy1 := q1.1.1
      refine a_iload 36 dX11_goOn_34 rfl rfl ?_
      refine a_iload 38 dX11_goOn_36 rfl rfl ?_
      refine a_icmp_ge 106 41 dX11_goOn_38 rfl (by decide) (fun c_38 => ?_) (fun c_38 => absurd (Int32.le_refl _) c_38)
      refine a_iload 108 dX11_goOn_106 rfl rfl ?_
      exact a_ireturn dX11_goOn_108 rfl rfl (Nat.le_of_ble_eq_true rfl) (Nat.le_of_ble_eq_true rfl) ⟨rfl, q1, hfr⟩
    | succ r ih =>
      intro t s h1 y5 y6 y8 o9 ht hs h5 h6 h8 w1 q1 hfr
      subst h5; subst h6; subst h8
      have hok : okN T.m (lastT T + 1 + t) s.1 := by rw [hs]; exact nigT_ok t _ (okN_0 o)
      have htm : (t + 1) * T.m ≤ K * T.m := Nat.mul_le_mul_right _ (by omega)
      rw [Nat.succ_mul] at htm
      have hcnt : True := trivial
      have A2 : ∀ (r2 x : Nat) (u : nigS) (h1 : rH) (y5 y6 y9 : Int32), x + r2 = T.m → u = nigX T z code (lastT T + 1 + t) (t * T.m) x s → y5 = nI u.2 → y6 = nI (a + t * T.m + x) → y9 = nI x → wgAt G h1 (setY T u.1) z → cAll G h1 (setY T u.1) → fr h h1 [14, 15, 16] → rW l G (rRm 6 0 0) mX11_goOn (rZ G (fun h' v => v = some (.int (nI (nigE T z code K).2)) ∧ cAll G h' (setY T (nigE T z code K).1) ∧ fr h h' [14, 15, 16]) 0 0) 0 0 44 [some (.ref (gN G + 0)), some (.ref (gN G + T.la z)), some (.ref (gN G + b)), some (.int (nI a)), some (.int (nI K)), some (.int y5), some (.int y6), some (.int (nI (lastT T + 1))), some (.int (nI t)), some (.int y9)] [] h1 := by
        intro r2
        induction r2 with
        | zero =>
          intro x u h1 y5 y6 y9 hx hu h5 h6 h9 w1 q1 hfr
          subst h5; subst h6; subst h9
          have e : x = T.m := by omega
          subst e
          have hy1 := q1.1.1
          refine a_iload 46 dX11_goOn_44 rfl rfl ?_
          refine a_aload_n 47 dX11_goOn_46 rfl rfl ?_
          refine a_get fd_X11_98 rfl 50 dX11_goOn_47 rfl (by repeat (first | assumption | (refine rg_ne (by first | decide | omega) ?_) | apply rg_eq | refine rg_fr (by assumption) (by first | decide | (simp; omega)) ?_)) rfl ?_
          refine a_icmp_ge 100 53 dX11_goOn_50 rfl (by decide) (fun c_50 => ?_) (fun c_50 => absurd (Int32.le_refl _) c_50)
          refine a_iinc _ 103 dX11_goOn_100 rfl rfl (by decide) rfl ?_
          refine a_goto 34 dX11_goOn_103 (by decide) ?_
          exact ih (t + 1) u _ _ _ _ _ (by omega) (by rw [nigT, ← hs]; exact hu) rfl (by rw [Nat.succ_mul, Nat.add_assoc]) (nI_1 t) w1 q1 hfr
        | succ r2 ih2 =>
          intro x u h1 y5 y6 y9 hx hu h5 h6 h9 w1 q1 hfr
          subst h5; subst h6; subst h9
          have hy1 := q1.1.1
          have hxm : x < T.m := by omega
          have hokx : okN T.m (lastT T + 1 + t) u.1 := by rw [hu]; exact nigX_ok x s (by omega) hok
          have ok1 : (setY T u.1).ok := ok_Y o hokx.1
          have hc1 := rg_fr hfr hb hc
          have hf1 := rg_fr hfr hcb hf
          obtain ⟨r1, ⟨g1, r2', r3'⟩, g2, r4', r5'⟩ := q1.1.2.2.2.2.2.2.1
          have e1 : (if 0 ≤ nI (a + t * T.m + x) ∧ nI (a + t * T.m + x) < 60 then f (nI (a + t * T.m + x)).toNatClampNeg else 0) = code (t * T.m + x) := by
            rw [if_pos ⟨nI_pos' (by omega), nI_lt (b := 60) (by omega) (by decide)⟩, nI_clamp (by omega), Nat.add_assoc, hcode (t * T.m + x) (by omega)]
          by_cases hD : (lastT T + 1 + t ≤ 599 ∧ u.1.1 < 24) ∧ code (t * T.m + x) < nI (sumT (setY T u.1) z (lastT T + 1 + t) x)
          · have hu2 : (addY u.1 (lastT T + 1 + t) x, u.2 + 1) = nigX T z code (lastT T + 1 + t) (t * T.m) (x + 1) s := by rw [nigX_s, ← hu, if_pos hD]
            have vy : vp_in (nI (setY T u.1).ny) 24 := vp_in_nI hD.1.2 (by decide)
            have qb := add_all (T := setY T u.1) (a := lastT T + 1 + t) (x := x) q1 hD.1.2 r2' r3' r4' r5'
            refine a_iload 46 dX11_goOn_44 rfl rfl ?_
            refine a_aload_n 47 dX11_goOn_46 rfl rfl ?_
            refine a_get fd_X11_98 rfl 50 dX11_goOn_47 rfl (by repeat (first | assumption | (refine rg_ne (by first | decide | omega) ?_) | apply rg_eq | refine rg_fr (by assumption) (by first | decide | (simp; omega)) ?_)) rfl ?_
            refine a_icmp_ge 100 53 dX11_goOn_50 rfl (by decide) (fun c_50 => absurd c_50 (nI_ge (a := x) (b := T.m) (by omega) (by omega))) (fun c_50 => ?_)
            refine a_aload_n 54 dX11_goOn_53 rfl rfl ?_
            refine a_aload_n 55 dX11_goOn_54 rfl rfl ?_
            refine a_aload_n 56 dX11_goOn_55 rfl rfl ?_
            refine a_iload 58 dX11_goOn_56 rfl rfl ?_
            refine a_callV ok_X8_read ln_X11_342 in_X8_read rfl 61 dX11_goOn_58 rfl (k_X8_read hc1 hf1 _) (by repeat (first | assumption | (refine rg_ne (by first | decide | omega) ?_) | apply rg_eq | refine rg_fr (by assumption) (by first | decide | (simp; omega)) ?_)) rfl rfl rfl ⟨(Nat.le_of_ble_eq_true rfl), (Nat.le_of_ble_eq_true rfl)⟩ (Nat.le_of_ble_eq_true rfl) ⟨(Nat.le_of_ble_eq_true rfl), (Nat.le_of_ble_eq_true rfl)⟩ ?_
            rintro _ _ ⟨rfl, rfl⟩
            rw [e1]
            refine a_iload 63 dX11_goOn_61 rfl rfl ?_
            refine a_iload 65 dX11_goOn_63 rfl rfl ?_
            refine a_iadd 66 dX11_goOn_65 rfl ?_
            rw [nI_add]
            refine a_iload 68 dX11_goOn_66 rfl rfl ?_
            refine a_callV ok_X11_yawnsAtDraw ln_X11_421 in_X11_yawnsAtDraw rfl 71 dX11_goOn_68 rfl (k_X11_yawnsAtDraw w1 ok1 hxm (by omega) _) (by repeat (first | assumption | (refine rg_ne (by first | decide | omega) ?_) | apply rg_eq | refine rg_fr (by assumption) (by first | decide | (simp; omega)) ?_)) rfl rfl rfl ⟨(Nat.le_of_ble_eq_true rfl), (Nat.le_of_ble_eq_true rfl)⟩ (Nat.le_of_ble_eq_true rfl) ⟨(Nat.le_of_ble_eq_true rfl), (Nat.le_of_ble_eq_true rfl)⟩ ?_
            rintro _ _ ⟨rfl, rfl⟩
            refine a_if_eq 91 74 dX11_goOn_71 rfl (by decide) (fun c_71 => absurd c_71 (by rw [if_pos hD]; decide)) (fun c_71 => ?_)
            refine a_aload_n 75 dX11_goOn_74 rfl rfl ?_
            refine a_get fd_X11_53 rfl 78 dX11_goOn_75 rfl (by repeat (first | assumption | (refine rg_ne (by first | decide | omega) ?_) | apply rg_eq | refine rg_fr (by assumption) (by first | decide | (simp; omega)) ?_)) rfl ?_
            refine a_iload 80 dX11_goOn_78 rfl rfl ?_
            refine a_iload 82 dX11_goOn_80 rfl rfl ?_
            refine a_iadd 83 dX11_goOn_82 rfl ?_
            rw [nI_add]
            refine a_iload 85 dX11_goOn_83 rfl rfl ?_
            refine a_callV ok_X10_add ln_X11_205 in_X10_add rfl 88 dX11_goOn_85 rfl (k_X10_add (by decide) r1 r2' r4' vy (nI (lastT T + 1 + t)) (nI x)) (by repeat (first | assumption | (refine rg_ne (by first | decide | omega) ?_) | apply rg_eq | refine rg_fr (by assumption) (by first | decide | (simp; omega)) ?_)) rfl rfl rfl ⟨(Nat.le_of_ble_eq_true rfl), (Nat.le_of_ble_eq_true rfl)⟩ (Nat.le_of_ble_eq_true rfl) ⟨(Nat.le_of_ble_eq_true rfl), (Nat.le_of_ble_eq_true rfl)⟩ ?_
            rintro _ _ ⟨rfl, rfl⟩
            refine a_iinc _ 91 dX11_goOn_88 rfl rfl (by decide) rfl ?_
            refine a_iinc _ 94 dX11_goOn_91 rfl rfl (by decide) rfl ?_
            refine a_iinc _ 97 dX11_goOn_94 rfl rfl (by decide) rfl ?_
            refine a_goto 44 dX11_goOn_97 (by decide) ?_
            exact ih2 (x + 1) _ _ _ _ _ (by omega) hu2 (nI_1 _) (nI_1 _) (nI_1 x) (wg_Y (T := setY T u.1) w1 qb (fr_set (fr_set (fr_set (fr_refl _ _) (by decide)) (by decide)) (by decide))) qb (fr_set (fr_set (fr_set hfr (by decide)) (by decide)) (by decide))
          · have hu2 : u = nigX T z code (lastT T + 1 + t) (t * T.m) (x + 1) s := by rw [nigX_s, ← hu, if_neg hD]
            refine a_iload 46 dX11_goOn_44 rfl rfl ?_
            refine a_aload_n 47 dX11_goOn_46 rfl rfl ?_
            refine a_get fd_X11_98 rfl 50 dX11_goOn_47 rfl (by repeat (first | assumption | (refine rg_ne (by first | decide | omega) ?_) | apply rg_eq | refine rg_fr (by assumption) (by first | decide | (simp; omega)) ?_)) rfl ?_
            refine a_icmp_ge 100 53 dX11_goOn_50 rfl (by decide) (fun c_50 => absurd c_50 (nI_ge (a := x) (b := T.m) (by omega) (by omega))) (fun c_50 => ?_)
            refine a_aload_n 54 dX11_goOn_53 rfl rfl ?_
            refine a_aload_n 55 dX11_goOn_54 rfl rfl ?_
            refine a_aload_n 56 dX11_goOn_55 rfl rfl ?_
            refine a_iload 58 dX11_goOn_56 rfl rfl ?_
            refine a_callV ok_X8_read ln_X11_342 in_X8_read rfl 61 dX11_goOn_58 rfl (k_X8_read hc1 hf1 _) (by repeat (first | assumption | (refine rg_ne (by first | decide | omega) ?_) | apply rg_eq | refine rg_fr (by assumption) (by first | decide | (simp; omega)) ?_)) rfl rfl rfl ⟨(Nat.le_of_ble_eq_true rfl), (Nat.le_of_ble_eq_true rfl)⟩ (Nat.le_of_ble_eq_true rfl) ⟨(Nat.le_of_ble_eq_true rfl), (Nat.le_of_ble_eq_true rfl)⟩ ?_
            rintro _ _ ⟨rfl, rfl⟩
            rw [e1]
            refine a_iload 63 dX11_goOn_61 rfl rfl ?_
            refine a_iload 65 dX11_goOn_63 rfl rfl ?_
            refine a_iadd 66 dX11_goOn_65 rfl ?_
            rw [nI_add]
            refine a_iload 68 dX11_goOn_66 rfl rfl ?_
            refine a_callV ok_X11_yawnsAtDraw ln_X11_421 in_X11_yawnsAtDraw rfl 71 dX11_goOn_68 rfl (k_X11_yawnsAtDraw w1 ok1 hxm (by omega) _) (by repeat (first | assumption | (refine rg_ne (by first | decide | omega) ?_) | apply rg_eq | refine rg_fr (by assumption) (by first | decide | (simp; omega)) ?_)) rfl rfl rfl ⟨(Nat.le_of_ble_eq_true rfl), (Nat.le_of_ble_eq_true rfl)⟩ (Nat.le_of_ble_eq_true rfl) ⟨(Nat.le_of_ble_eq_true rfl), (Nat.le_of_ble_eq_true rfl)⟩ ?_
            rintro _ _ ⟨rfl, rfl⟩
            refine a_if_eq 91 74 dX11_goOn_71 rfl (by decide) (fun c_71 => ?_) (fun c_71 => absurd (if_neg hD) c_71)
            refine a_iinc _ 94 dX11_goOn_91 rfl rfl (by decide) rfl ?_
            refine a_iinc _ 97 dX11_goOn_94 rfl rfl (by decide) rfl ?_
            refine a_goto 44 dX11_goOn_97 (by decide) ?_
            exact ih2 (x + 1) u _ _ _ _ (by omega) hu2 rfl (nI_1 _) (nI_1 x) w1 q1 hfr
      have hy1 := q1.1.1
      refine a_iload 36 dX11_goOn_34 rfl rfl ?_
      refine a_iload 38 dX11_goOn_36 rfl rfl ?_
      refine a_icmp_ge 106 41 dX11_goOn_38 rfl (by decide) (fun c_38 => absurd c_38 (nI_ge (a := t) (b := K) (by omega) (by omega))) (fun c_38 => ?_)
      refine a_iconst (0) 42 dX11_goOn_41 rfl (by decide) ?_
      refine a_istore 44 dX11_goOn_42 rfl (by decide) ?_
      exact A2 T.m 0 s _ _ _ _ (by omega) rfl rfl rfl rfl w1 q1 hfr
  refine rM_start (by decide) (Nat.le_of_ble_eq_true rfl) ?_
  refine a_iconst (0) 1 dX11_goOn_0 rfl (by decide) ?_
  refine a_istore 3 dX11_goOn_1 rfl (by decide) ?_
  refine a_iload_n 4 dX11_goOn_3 rfl rfl ?_
  refine a_istore 6 dX11_goOn_4 rfl (by decide) ?_
  refine a_aload_n 7 dX11_goOn_6 rfl rfl ?_
  refine a_get fd_X11_53 rfl 10 dX11_goOn_7 rfl (by repeat (first | assumption | (refine rg_ne (by first | decide | omega) ?_) | apply rg_eq | refine rg_fr (by assumption) (by first | decide | (simp; omega)) ?_)) rfl ?_
  refine a_get fd_X11_195 rfl 13 dX11_goOn_10 rfl (by repeat (first | assumption | (refine rg_ne (by first | decide | omega) ?_) | apply rg_eq | refine rg_fr (by assumption) (by first | decide | (simp; omega)) ?_)) rfl ?_
  refine a_if_le 28 16 dX11_goOn_13 rfl (by decide) (fun c_13 => ?_) (fun c_13 => ?_)
  · refine a_iconst (1) 29 dX11_goOn_28 rfl (by decide) ?_
    rw [show (1 : Int32) = nI (lastT T + 1) by rw [show lastT T = 0 from if_pos (hle.mp c_13)]; rfl]
    refine a_istore 31 dX11_goOn_29 rfl (by decide) ?_
    refine a_iconst (0) 32 dX11_goOn_31 rfl (by decide) ?_
    refine a_istore 34 dX11_goOn_32 rfl (by decide) ?_
    exact A K 0 (T.2.2.2.1, 0) _ _ _ _ _ (by omega) rfl rfl (by rw [Nat.zero_mul, Nat.add_zero]) rfl w q (fr_refl _ _)
  · refine a_aload_n 17 dX11_goOn_16 rfl rfl ?_
    refine a_get fd_X11_53 rfl 20 dX11_goOn_17 rfl (by repeat (first | assumption | (refine rg_ne (by first | decide | omega) ?_) | apply rg_eq | refine rg_fr (by assumption) (by first | decide | (simp; omega)) ?_)) rfl ?_
    refine a_callV ok_X10_lastMinute ln_X11_198 in_X10_lastMinute rfl 23 dX11_goOn_20 rfl (k_X10_lastMinute r1 r2) (by repeat (first | assumption | (refine rg_ne (by first | decide | omega) ?_) | apply rg_eq | refine rg_fr (by assumption) (by first | decide | (simp; omega)) ?_)) rfl rfl rfl ⟨(Nat.le_of_ble_eq_true rfl), (Nat.le_of_ble_eq_true rfl)⟩ (Nat.le_of_ble_eq_true rfl) ⟨(Nat.le_of_ble_eq_true rfl), (Nat.le_of_ble_eq_true rfl)⟩ ?_
    rintro _ _ ⟨rfl, rfl⟩
    refine a_iconst (1) 24 dX11_goOn_23 rfl (by decide) ?_
    refine a_iadd 25 dX11_goOn_24 rfl ?_
    refine a_goto 29 dX11_goOn_25 (by decide) ?_
    rw [hla (Nat.pos_of_ne_zero (fun e => c_13 (hle.mpr e)))]
    refine a_istore 31 dX11_goOn_29 rfl (by decide) ?_
    refine a_iconst (0) 32 dX11_goOn_31 rfl (by decide) ?_
    refine a_istore 34 dX11_goOn_32 rfl (by decide) ?_
    exact A K 0 (T.2.2.2.1, 0) _ _ _ _ _ (by omega) rfl rfl (by rw [Nat.zero_mul, Nat.add_zero]) rfl w q (fr_refl _ _)
set_option maxRecDepth 100000 in
set_option maxHeartbeats 400000 in
theorem c_night (q : cAll G h T) (o : T.ok) (e c d i n : Int32) : rM l G 12 mX11_night 0 0 [.ref (gN G + 0), .int e, .int c, .int d, .int i, .int n] h (fun h' v => v = some (.int (aNight T e c d i n).1) ∧ cAll G h' (aNight T e c d i n).2 ∧ kp h h' cL) := by
  have hy := q.1.1
  have hnl := o.nl6
  have hm := o.m12
  have q0 := q_fa0 q
  have hy0 := q0.1.1
  have o0 : (setFT T 0 T.tr).ok := o
  have f0 : fr h (h.set 0 (ytc G (nI T.m) (nI T.nl) 0 T.tr)) [0] := fr_set (fr_refl _ _) (by decide)
  rcases oT_cases (n := T.nl) (by omega) e with ⟨e1, hc⟩ | ⟨z, hz, rfl, e1⟩
  · have ea : aNight T e c d i n = (-1, setFT T 0 T.tr) := by unfold aNight; rw [e1]
    rw [ea]
    refine rM_start (by decide) (Nat.le_of_ble_eq_true rfl) ?_
    refine a_aload_n 1 dX11_night_0 rfl rfl ?_
    refine a_iconst (0) 2 dX11_night_1 rfl (by decide) ?_
    refine a_put fd_X11_268 cl_X11 rfl 5 dX11_night_2 rfl (by repeat (first | assumption | (refine rg_ne (by first | decide | omega) ?_) | apply rg_eq | refine rg_fr (by assumption) (by first | decide | (simp; omega)) ?_)) (Nat.le_of_ble_eq_true rfl) rfl rfl rfl ?_
    refine a_aload_n 6 dX11_night_5 rfl rfl ?_
    refine a_iload_n 7 dX11_night_6 rfl rfl ?_
    refine a_callV ok_X11_weighedLaw ln_X11_217 in_X11_weighedLaw rfl 10 dX11_night_7 rfl (k_X11_weighedLawN q0.1 hc) (by repeat (first | assumption | (refine rg_ne (by first | decide | omega) ?_) | apply rg_eq | refine rg_fr (by assumption) (by first | decide | (simp; omega)) ?_)) rfl rfl rfl ⟨(Nat.le_of_ble_eq_true rfl), (Nat.le_of_ble_eq_true rfl)⟩ (Nat.le_of_ble_eq_true rfl) ⟨(Nat.le_of_ble_eq_true rfl), (Nat.le_of_ble_eq_true rfl)⟩ ?_
    rintro _ _ ⟨rfl, rfl⟩
    refine a_astoreN 12 dX11_night_10 rfl (by decide) ?_
    refine a_aloadN 14 dX11_night_12 rfl rfl ?_
    refine a_ifnonnullN 17 dX11_night_14 rfl ?_
    refine a_iconst (-1) 18 dX11_night_17 rfl (by decide) ?_
    exact a_ireturn dX11_night_18 rfl rfl (Nat.le_of_ble_eq_true rfl) (Nat.le_of_ble_eq_true rfl) ⟨rfl, q0, kp_0L f0⟩
  · by_cases hr : (refF T c d i n).1 = 0
    · obtain ⟨y, a, N, hyy, rfl, ez, rfl, rfl, haN, er, -, -⟩ := refF_ok o hr
      have hsz := o.sz60 hyy
      have ea : aNight T (nI z) (nI y) d (nI a) (nI N) = nigR T z (codeT T y a) N := by
        unfold aNight
        rw [e1]
        dsimp only
        rw [if_pos hr, ez, nI_clamp (by omega), nI_clamp (by omega)]
      rw [ea]
      have hrc := fun h1 (q1 : cAll G h1 (setFT T 0 T.tr)) => c_refusal (l := l) q1 (nI y) d (nI a) (nI N)
      have er1 : (refF (setFT T 0 T.tr) (nI y) d (nI a) (nI N)).1 = 0 := hr
      have er2 : (refF (setFT T 0 T.tr) (nI y) d (nI a) (nI N)).2 = 0 := er
      rw [er1, er2] at hrc
      by_cases hm0 : T.m = 0
      · have e2 : nigR T z (codeT T y a) N = (-3, setFT T 0 T.tr) := by unfold nigR; rw [if_pos hm0]
        rw [e2]
        refine rM_start (by decide) (Nat.le_of_ble_eq_true rfl) ?_
        refine a_aload_n 1 dX11_night_0 rfl rfl ?_
        refine a_iconst (0) 2 dX11_night_1 rfl (by decide) ?_
        refine a_put fd_X11_268 cl_X11 rfl 5 dX11_night_2 rfl (by repeat (first | assumption | (refine rg_ne (by first | decide | omega) ?_) | apply rg_eq | refine rg_fr (by assumption) (by first | decide | (simp; omega)) ?_)) (Nat.le_of_ble_eq_true rfl) rfl rfl rfl ?_
        refine a_aload_n 6 dX11_night_5 rfl rfl ?_
        refine a_iload_n 7 dX11_night_6 rfl rfl ?_
        refine a_callV ok_X11_weighedLaw ln_X11_217 in_X11_weighedLaw rfl 10 dX11_night_7 rfl (k_X11_weighedLaw q0.1 o0 q0.2.1 hz) (by repeat (first | assumption | (refine rg_ne (by first | decide | omega) ?_) | apply rg_eq | refine rg_fr (by assumption) (by first | decide | (simp; omega)) ?_)) rfl rfl rfl ⟨(Nat.le_of_ble_eq_true rfl), (Nat.le_of_ble_eq_true rfl)⟩ (Nat.le_of_ble_eq_true rfl) ⟨(Nat.le_of_ble_eq_true rfl), (Nat.le_of_ble_eq_true rfl)⟩ ?_
        rintro h1 _ ⟨rfl, w1, hf1⟩
        have qa := wg_all q0 w1 hf1
        have hy1 := qa.1.1
        refine a_astore 12 dX11_night_10 rfl (by decide) ?_
        refine a_aload 14 dX11_night_12 rfl rfl ?_
        refine a_ifnonnull 19 dX11_night_14 (by decide) ?_
        refine a_aload_n 20 dX11_night_19 rfl rfl ?_
        refine a_iload_n 21 dX11_night_20 rfl rfl ?_
        refine a_iload_n 22 dX11_night_21 rfl rfl ?_
        refine a_iload 24 dX11_night_22 rfl rfl ?_
        refine a_iload 26 dX11_night_24 rfl rfl ?_
        refine a_callV ok_X11_refusalOfCells ln_X11_82 in_X11_refusalOfCells rfl 29 dX11_night_26 rfl (hrc _ qa) (by repeat (first | assumption | (refine rg_ne (by first | decide | omega) ?_) | apply rg_eq | refine rg_fr (by assumption) (by first | decide | (simp; omega)) ?_)) rfl rfl rfl ⟨(Nat.le_of_ble_eq_true rfl), (Nat.le_of_ble_eq_true rfl)⟩ (Nat.le_of_ble_eq_true rfl) ⟨(Nat.le_of_ble_eq_true rfl), (Nat.le_of_ble_eq_true rfl)⟩ ?_
        rintro h2 _ ⟨rfl, qb, hf2⟩
        have hy2 := qb.1.1
        refine a_istore 31 dX11_night_29 rfl (by decide) ?_
        refine a_iload 33 dX11_night_31 rfl rfl ?_
        refine a_if_eq 39 36 dX11_night_33 rfl (by decide) (fun c_33 => ?_) (fun c_33 => absurd rfl c_33)
        refine a_aload_n 40 dX11_night_39 rfl rfl ?_
        refine a_iload_n 41 dX11_night_40 rfl rfl ?_
        refine a_callV ok_X11_sheetAt ln_X11_86 in_X11_sheetAt rfl 44 dX11_night_41 rfl (c_sheet qb.1 hyy) (by repeat (first | assumption | (refine rg_ne (by first | decide | omega) ?_) | apply rg_eq | refine rg_fr (by assumption) (by first | decide | (simp; omega)) ?_)) rfl rfl rfl ⟨(Nat.le_of_ble_eq_true rfl), (Nat.le_of_ble_eq_true rfl)⟩ (Nat.le_of_ble_eq_true rfl) ⟨(Nat.le_of_ble_eq_true rfl), (Nat.le_of_ble_eq_true rfl)⟩ ?_
        rintro _ _ ⟨rfl, rfl⟩
        refine a_astore 46 dX11_night_44 rfl (by decide) ?_
        refine a_aload 48 dX11_night_46 rfl rfl ?_
        refine a_ifnull 51 dX11_night_48 rfl ?_
        refine a_aload_n 52 dX11_night_51 rfl rfl ?_
        refine a_get fd_X11_98 rfl 55 dX11_night_52 rfl (by repeat (first | assumption | (refine rg_ne (by first | decide | omega) ?_) | apply rg_eq | refine rg_fr (by assumption) (by first | decide | (simp; omega)) ?_)) rfl ?_
        refine a_if_gt 61 58 dX11_night_55 rfl (by decide) (fun c_55 => absurd c_55 (by rw [show (setFT (setFT T 0 T.tr) 0 T.tr).m = 0 from hm0]; decide)) (fun c_55 => ?_)
        refine a_bipush (-3) 60 dX11_night_58 rfl (by decide) ?_
        exact a_ireturn dX11_night_60 rfl rfl (Nat.le_of_ble_eq_true rfl) (Nat.le_of_ble_eq_true rfl) ⟨rfl, qb, kp_mono (kp_fr (fr_trans (fr_trans (fr_mono f0 (T := [0, 25, 26]) (by decide)) hf1 (by decide)) hf2 (by decide))) (by decide)⟩
      · have hmp : 0 < T.m := Nat.pos_of_ne_zero hm0
        have hdm : N / T.m * T.m ≤ N := Nat.div_mul_le_self _ _
        have hdiv : nI N / nI T.m = nI (N / T.m) := pk_div (by omega) hmp (by omega)
        by_cases hD : andN (fun p => decide (0 ≤ codeT T y a p ∧ codeT T y a p ≤ 999)) (N / T.m * T.m) = true
        · have e2 : nigR T z (codeT T y a) N = (nI (nigE T z (codeT T y a) (N / T.m)).2, setY (setFT T 0 T.tr) (nigE T z (codeT T y a) (N / T.m)).1) := by unfold nigR; rw [if_neg hm0, if_pos hD]
          rw [e2]
          refine rM_start (by decide) (Nat.le_of_ble_eq_true rfl) ?_
          refine a_aload_n 1 dX11_night_0 rfl rfl ?_
          refine a_iconst (0) 2 dX11_night_1 rfl (by decide) ?_
          refine a_put fd_X11_268 cl_X11 rfl 5 dX11_night_2 rfl (by repeat (first | assumption | (refine rg_ne (by first | decide | omega) ?_) | apply rg_eq | refine rg_fr (by assumption) (by first | decide | (simp; omega)) ?_)) (Nat.le_of_ble_eq_true rfl) rfl rfl rfl ?_
          refine a_aload_n 6 dX11_night_5 rfl rfl ?_
          refine a_iload_n 7 dX11_night_6 rfl rfl ?_
          refine a_callV ok_X11_weighedLaw ln_X11_217 in_X11_weighedLaw rfl 10 dX11_night_7 rfl (k_X11_weighedLaw q0.1 o0 q0.2.1 hz) (by repeat (first | assumption | (refine rg_ne (by first | decide | omega) ?_) | apply rg_eq | refine rg_fr (by assumption) (by first | decide | (simp; omega)) ?_)) rfl rfl rfl ⟨(Nat.le_of_ble_eq_true rfl), (Nat.le_of_ble_eq_true rfl)⟩ (Nat.le_of_ble_eq_true rfl) ⟨(Nat.le_of_ble_eq_true rfl), (Nat.le_of_ble_eq_true rfl)⟩ ?_
          rintro h1 _ ⟨rfl, w1, hf1⟩
          have qa := wg_all q0 w1 hf1
          have hy1 := qa.1.1
          refine a_astore 12 dX11_night_10 rfl (by decide) ?_
          refine a_aload 14 dX11_night_12 rfl rfl ?_
          refine a_ifnonnull 19 dX11_night_14 (by decide) ?_
          refine a_aload_n 20 dX11_night_19 rfl rfl ?_
          refine a_iload_n 21 dX11_night_20 rfl rfl ?_
          refine a_iload_n 22 dX11_night_21 rfl rfl ?_
          refine a_iload 24 dX11_night_22 rfl rfl ?_
          refine a_iload 26 dX11_night_24 rfl rfl ?_
          refine a_callV ok_X11_refusalOfCells ln_X11_82 in_X11_refusalOfCells rfl 29 dX11_night_26 rfl (hrc _ qa) (by repeat (first | assumption | (refine rg_ne (by first | decide | omega) ?_) | apply rg_eq | refine rg_fr (by assumption) (by first | decide | (simp; omega)) ?_)) rfl rfl rfl ⟨(Nat.le_of_ble_eq_true rfl), (Nat.le_of_ble_eq_true rfl)⟩ (Nat.le_of_ble_eq_true rfl) ⟨(Nat.le_of_ble_eq_true rfl), (Nat.le_of_ble_eq_true rfl)⟩ ?_
          rintro h2 _ ⟨rfl, qb, hf2⟩
          have hy2 := qb.1.1
          have w2 : wgAt G h2 (setFT T 0 T.tr) z := wg_0 w1 qb hf2
          obtain ⟨hs, f, hf, hfx⟩ := sh_at qb hyy
          refine a_istore 31 dX11_night_29 rfl (by decide) ?_
          refine a_iload 33 dX11_night_31 rfl rfl ?_
          refine a_if_eq 39 36 dX11_night_33 rfl (by decide) (fun c_33 => ?_) (fun c_33 => absurd rfl c_33)
          refine a_aload_n 40 dX11_night_39 rfl rfl ?_
          refine a_iload_n 41 dX11_night_40 rfl rfl ?_
          refine a_callV ok_X11_sheetAt ln_X11_86 in_X11_sheetAt rfl 44 dX11_night_41 rfl (c_sheet qb.1 hyy) (by repeat (first | assumption | (refine rg_ne (by first | decide | omega) ?_) | apply rg_eq | refine rg_fr (by assumption) (by first | decide | (simp; omega)) ?_)) rfl rfl rfl ⟨(Nat.le_of_ble_eq_true rfl), (Nat.le_of_ble_eq_true rfl)⟩ (Nat.le_of_ble_eq_true rfl) ⟨(Nat.le_of_ble_eq_true rfl), (Nat.le_of_ble_eq_true rfl)⟩ ?_
          rintro _ _ ⟨rfl, rfl⟩
          refine a_astore 46 dX11_night_44 rfl (by decide) ?_
          refine a_aload 48 dX11_night_46 rfl rfl ?_
          refine a_ifnull 51 dX11_night_48 rfl ?_
          refine a_aload_n 52 dX11_night_51 rfl rfl ?_
          refine a_get fd_X11_98 rfl 55 dX11_night_52 rfl (by repeat (first | assumption | (refine rg_ne (by first | decide | omega) ?_) | apply rg_eq | refine rg_fr (by assumption) (by first | decide | (simp; omega)) ?_)) rfl ?_
          refine a_if_gt 61 58 dX11_night_55 rfl (by decide) (fun c_55 => ?_) (fun c_55 => absurd (Int32.not_le.mp (nI_nle hmp (by omega))) c_55)
          refine a_iload 63 dX11_night_61 rfl rfl ?_
          refine a_aload_n 64 dX11_night_63 rfl rfl ?_
          refine a_get fd_X11_98 rfl 67 dX11_night_64 rfl (by repeat (first | assumption | (refine rg_ne (by first | decide | omega) ?_) | apply rg_eq | refine rg_fr (by assumption) (by first | decide | (simp; omega)) ?_)) rfl ?_
          refine a_idiv 68 dX11_night_67 rfl (nI_ne0 hmp (show T.m < 2 ^ 31 by omega)) ?_
          rw [show nI N / nI (setFT (setFT T 0 T.tr) 0 T.tr).m = nI (N / T.m) from hdiv]
          refine a_istore 70 dX11_night_68 rfl (by decide) ?_
          refine a_aload 72 dX11_night_70 rfl rfl ?_
          refine a_iload 74 dX11_night_72 rfl rfl ?_
          refine a_iload 76 dX11_night_74 rfl rfl ?_
          refine a_aload_n 77 dX11_night_76 rfl rfl ?_
          refine a_get fd_X11_98 rfl 80 dX11_night_77 rfl (by repeat (first | assumption | (refine rg_ne (by first | decide | omega) ?_) | apply rg_eq | refine rg_fr (by assumption) (by first | decide | (simp; omega)) ?_)) rfl ?_
          refine a_imul 81 dX11_night_80 rfl ?_
          rw [show nI (N / T.m) * nI (setFT (setFT T 0 T.tr) 0 T.tr).m = nI (N / T.m * T.m) from pk_mul _ _]
          refine a_callS ok_X11_areDraws ln_X11_271 is_X11_areDraws rfl 84 dX11_night_81 rfl (k_X11_areDraws (code := codeT T y a) hs hf (by omega) (fun p hp => hfx (a + p) (show a + p < T.sz y by omega))) rfl rfl ⟨(Nat.le_of_ble_eq_true rfl), (Nat.le_of_ble_eq_true rfl)⟩ (Nat.le_of_ble_eq_true rfl) ⟨(Nat.le_of_ble_eq_true rfl), (Nat.le_of_ble_eq_true rfl)⟩ ?_
          rintro _ _ ⟨rfl, rfl⟩
          refine a_if_ne 90 87 dX11_night_84 rfl (by decide) (fun c_84 => ?_) (fun c_84 => absurd c_84 (by rw [if_pos hD]; decide))
          refine a_aload_n 91 dX11_night_90 rfl rfl ?_
          refine a_aload 93 dX11_night_91 rfl rfl ?_
          refine a_aload 95 dX11_night_93 rfl rfl ?_
          refine a_iload 97 dX11_night_95 rfl rfl ?_
          refine a_iload 99 dX11_night_97 rfl rfl ?_
          refine a_callV ok_X11_goOn ln_X11_275 in_X11_goOn rfl 102 dX11_night_99 rfl (k_X11_goOn (T := setFT T 0 T.tr) (code := codeT T y a) w2 qb o0 hmp (by simp; omega) (by simp; omega) hs hf (by exact Nat.le_trans (Nat.add_le_add_left hdm a) (Nat.le_trans haN hsz)) (fun p hp => hfx (a + p) (Nat.lt_of_lt_of_le (Nat.add_lt_add_left (Nat.lt_of_lt_of_le hp hdm) a) haN))) (by repeat (first | assumption | (refine rg_ne (by first | decide | omega) ?_) | apply rg_eq | refine rg_fr (by assumption) (by first | decide | (simp; omega)) ?_)) rfl rfl rfl ⟨(Nat.le_of_ble_eq_true rfl), (Nat.le_of_ble_eq_true rfl)⟩ (Nat.le_of_ble_eq_true rfl) ⟨(Nat.le_of_ble_eq_true rfl), (Nat.le_of_ble_eq_true rfl)⟩ ?_
          rintro h4 _ ⟨rfl, qc, hf4⟩
          rw [show nigE (setFT T 0 T.tr) z (codeT T y a) (N / T.m) = nigE T z (codeT T y a) (N / T.m) from nigT_FT _] at qc ⊢
          exact a_ireturn dX11_night_102 rfl rfl (Nat.le_of_ble_eq_true rfl) (Nat.le_of_ble_eq_true rfl) ⟨rfl, qc, kp_mono (kp_fr (fr_trans (fr_trans (fr_trans (fr_mono f0 (T := [0, 14, 15, 16, 25, 26]) (by decide)) hf1 (by decide)) hf2 (by decide)) hf4 (by decide))) (by decide)⟩
        · have e2 : nigR T z (codeT T y a) N = (-2, setFT T 0 T.tr) := by unfold nigR; rw [if_neg hm0, if_neg hD]
          rw [e2]
          refine rM_start (by decide) (Nat.le_of_ble_eq_true rfl) ?_
          refine a_aload_n 1 dX11_night_0 rfl rfl ?_
          refine a_iconst (0) 2 dX11_night_1 rfl (by decide) ?_
          refine a_put fd_X11_268 cl_X11 rfl 5 dX11_night_2 rfl (by repeat (first | assumption | (refine rg_ne (by first | decide | omega) ?_) | apply rg_eq | refine rg_fr (by assumption) (by first | decide | (simp; omega)) ?_)) (Nat.le_of_ble_eq_true rfl) rfl rfl rfl ?_
          refine a_aload_n 6 dX11_night_5 rfl rfl ?_
          refine a_iload_n 7 dX11_night_6 rfl rfl ?_
          refine a_callV ok_X11_weighedLaw ln_X11_217 in_X11_weighedLaw rfl 10 dX11_night_7 rfl (k_X11_weighedLaw q0.1 o0 q0.2.1 hz) (by repeat (first | assumption | (refine rg_ne (by first | decide | omega) ?_) | apply rg_eq | refine rg_fr (by assumption) (by first | decide | (simp; omega)) ?_)) rfl rfl rfl ⟨(Nat.le_of_ble_eq_true rfl), (Nat.le_of_ble_eq_true rfl)⟩ (Nat.le_of_ble_eq_true rfl) ⟨(Nat.le_of_ble_eq_true rfl), (Nat.le_of_ble_eq_true rfl)⟩ ?_
          rintro h1 _ ⟨rfl, w1, hf1⟩
          have qa := wg_all q0 w1 hf1
          have hy1 := qa.1.1
          refine a_astore 12 dX11_night_10 rfl (by decide) ?_
          refine a_aload 14 dX11_night_12 rfl rfl ?_
          refine a_ifnonnull 19 dX11_night_14 (by decide) ?_
          refine a_aload_n 20 dX11_night_19 rfl rfl ?_
          refine a_iload_n 21 dX11_night_20 rfl rfl ?_
          refine a_iload_n 22 dX11_night_21 rfl rfl ?_
          refine a_iload 24 dX11_night_22 rfl rfl ?_
          refine a_iload 26 dX11_night_24 rfl rfl ?_
          refine a_callV ok_X11_refusalOfCells ln_X11_82 in_X11_refusalOfCells rfl 29 dX11_night_26 rfl (hrc _ qa) (by repeat (first | assumption | (refine rg_ne (by first | decide | omega) ?_) | apply rg_eq | refine rg_fr (by assumption) (by first | decide | (simp; omega)) ?_)) rfl rfl rfl ⟨(Nat.le_of_ble_eq_true rfl), (Nat.le_of_ble_eq_true rfl)⟩ (Nat.le_of_ble_eq_true rfl) ⟨(Nat.le_of_ble_eq_true rfl), (Nat.le_of_ble_eq_true rfl)⟩ ?_
          rintro h2 _ ⟨rfl, qb, hf2⟩
          have hy2 := qb.1.1
          obtain ⟨hs, f, hf, hfx⟩ := sh_at qb hyy
          refine a_istore 31 dX11_night_29 rfl (by decide) ?_
          refine a_iload 33 dX11_night_31 rfl rfl ?_
          refine a_if_eq 39 36 dX11_night_33 rfl (by decide) (fun c_33 => ?_) (fun c_33 => absurd rfl c_33)
          refine a_aload_n 40 dX11_night_39 rfl rfl ?_
          refine a_iload_n 41 dX11_night_40 rfl rfl ?_
          refine a_callV ok_X11_sheetAt ln_X11_86 in_X11_sheetAt rfl 44 dX11_night_41 rfl (c_sheet qb.1 hyy) (by repeat (first | assumption | (refine rg_ne (by first | decide | omega) ?_) | apply rg_eq | refine rg_fr (by assumption) (by first | decide | (simp; omega)) ?_)) rfl rfl rfl ⟨(Nat.le_of_ble_eq_true rfl), (Nat.le_of_ble_eq_true rfl)⟩ (Nat.le_of_ble_eq_true rfl) ⟨(Nat.le_of_ble_eq_true rfl), (Nat.le_of_ble_eq_true rfl)⟩ ?_
          rintro _ _ ⟨rfl, rfl⟩
          refine a_astore 46 dX11_night_44 rfl (by decide) ?_
          refine a_aload 48 dX11_night_46 rfl rfl ?_
          refine a_ifnull 51 dX11_night_48 rfl ?_
          refine a_aload_n 52 dX11_night_51 rfl rfl ?_
          refine a_get fd_X11_98 rfl 55 dX11_night_52 rfl (by repeat (first | assumption | (refine rg_ne (by first | decide | omega) ?_) | apply rg_eq | refine rg_fr (by assumption) (by first | decide | (simp; omega)) ?_)) rfl ?_
          refine a_if_gt 61 58 dX11_night_55 rfl (by decide) (fun c_55 => ?_) (fun c_55 => absurd (Int32.not_le.mp (nI_nle hmp (by omega))) c_55)
          refine a_iload 63 dX11_night_61 rfl rfl ?_
          refine a_aload_n 64 dX11_night_63 rfl rfl ?_
          refine a_get fd_X11_98 rfl 67 dX11_night_64 rfl (by repeat (first | assumption | (refine rg_ne (by first | decide | omega) ?_) | apply rg_eq | refine rg_fr (by assumption) (by first | decide | (simp; omega)) ?_)) rfl ?_
          refine a_idiv 68 dX11_night_67 rfl (nI_ne0 hmp (show T.m < 2 ^ 31 by omega)) ?_
          rw [show nI N / nI (setFT (setFT T 0 T.tr) 0 T.tr).m = nI (N / T.m) from hdiv]
          refine a_istore 70 dX11_night_68 rfl (by decide) ?_
          refine a_aload 72 dX11_night_70 rfl rfl ?_
          refine a_iload 74 dX11_night_72 rfl rfl ?_
          refine a_iload 76 dX11_night_74 rfl rfl ?_
          refine a_aload_n 77 dX11_night_76 rfl rfl ?_
          refine a_get fd_X11_98 rfl 80 dX11_night_77 rfl (by repeat (first | assumption | (refine rg_ne (by first | decide | omega) ?_) | apply rg_eq | refine rg_fr (by assumption) (by first | decide | (simp; omega)) ?_)) rfl ?_
          refine a_imul 81 dX11_night_80 rfl ?_
          rw [show nI (N / T.m) * nI (setFT (setFT T 0 T.tr) 0 T.tr).m = nI (N / T.m * T.m) from pk_mul _ _]
          refine a_callS ok_X11_areDraws ln_X11_271 is_X11_areDraws rfl 84 dX11_night_81 rfl (k_X11_areDraws (code := codeT T y a) hs hf (by omega) (fun p hp => hfx (a + p) (show a + p < T.sz y by omega))) rfl rfl ⟨(Nat.le_of_ble_eq_true rfl), (Nat.le_of_ble_eq_true rfl)⟩ (Nat.le_of_ble_eq_true rfl) ⟨(Nat.le_of_ble_eq_true rfl), (Nat.le_of_ble_eq_true rfl)⟩ ?_
          rintro _ _ ⟨rfl, rfl⟩
          refine a_if_ne 90 87 dX11_night_84 rfl (by decide) (fun c_84 => absurd (if_neg hD) c_84) (fun c_84 => ?_)
          refine a_bipush (-2) 89 dX11_night_87 rfl (by decide) ?_
          exact a_ireturn dX11_night_89 rfl rfl (Nat.le_of_ble_eq_true rfl) (Nat.le_of_ble_eq_true rfl) ⟨rfl, qb, kp_mono (kp_fr (fr_trans (fr_trans (fr_mono f0 (T := [0, 25, 26]) (by decide)) hf1 (by decide)) hf2 (by decide))) (by decide)⟩
    · have ea : aNight T (nI z) c d i n = ((refF T c d i n).1, setFT T (refF T c d i n).2 T.tr) := by
        unfold aNight
        rw [e1]
        dsimp only
        rw [if_neg hr]
      rw [ea]
      have hr0 : ¬ (refF (setFT T 0 T.tr) c d i n).1 = 0 := hr
      refine rM_start (by decide) (Nat.le_of_ble_eq_true rfl) ?_
      refine a_aload_n 1 dX11_night_0 rfl rfl ?_
      refine a_iconst (0) 2 dX11_night_1 rfl (by decide) ?_
      refine a_put fd_X11_268 cl_X11 rfl 5 dX11_night_2 rfl (by repeat (first | assumption | (refine rg_ne (by first | decide | omega) ?_) | apply rg_eq | refine rg_fr (by assumption) (by first | decide | (simp; omega)) ?_)) (Nat.le_of_ble_eq_true rfl) rfl rfl rfl ?_
      refine a_aload_n 6 dX11_night_5 rfl rfl ?_
      refine a_iload_n 7 dX11_night_6 rfl rfl ?_
      refine a_callV ok_X11_weighedLaw ln_X11_217 in_X11_weighedLaw rfl 10 dX11_night_7 rfl (k_X11_weighedLaw q0.1 o0 q0.2.1 hz) (by repeat (first | assumption | (refine rg_ne (by first | decide | omega) ?_) | apply rg_eq | refine rg_fr (by assumption) (by first | decide | (simp; omega)) ?_)) rfl rfl rfl ⟨(Nat.le_of_ble_eq_true rfl), (Nat.le_of_ble_eq_true rfl)⟩ (Nat.le_of_ble_eq_true rfl) ⟨(Nat.le_of_ble_eq_true rfl), (Nat.le_of_ble_eq_true rfl)⟩ ?_
      rintro h1 _ ⟨rfl, w1, hf1⟩
      have qa := wg_all q0 w1 hf1
      have hy1 := qa.1.1
      refine a_astore 12 dX11_night_10 rfl (by decide) ?_
      refine a_aload 14 dX11_night_12 rfl rfl ?_
      refine a_ifnonnull 19 dX11_night_14 (by decide) ?_
      refine a_aload_n 20 dX11_night_19 rfl rfl ?_
      refine a_iload_n 21 dX11_night_20 rfl rfl ?_
      refine a_iload_n 22 dX11_night_21 rfl rfl ?_
      refine a_iload 24 dX11_night_22 rfl rfl ?_
      refine a_iload 26 dX11_night_24 rfl rfl ?_
      refine a_callV ok_X11_refusalOfCells ln_X11_82 in_X11_refusalOfCells rfl 29 dX11_night_26 rfl (c_refusal qa c d i n) (by repeat (first | assumption | (refine rg_ne (by first | decide | omega) ?_) | apply rg_eq | refine rg_fr (by assumption) (by first | decide | (simp; omega)) ?_)) rfl rfl rfl ⟨(Nat.le_of_ble_eq_true rfl), (Nat.le_of_ble_eq_true rfl)⟩ (Nat.le_of_ble_eq_true rfl) ⟨(Nat.le_of_ble_eq_true rfl), (Nat.le_of_ble_eq_true rfl)⟩ ?_
      rintro h2 _ ⟨rfl, qb, hf2⟩
      refine a_istore 31 dX11_night_29 rfl (by decide) ?_
      refine a_iload 33 dX11_night_31 rfl rfl ?_
      refine a_if_eq 39 36 dX11_night_33 rfl (by decide) (fun c_33 => absurd c_33 hr0) (fun c_33 => ?_)
      refine a_iload 38 dX11_night_36 rfl rfl ?_
      exact a_ireturn dX11_night_38 rfl rfl (Nat.le_of_ble_eq_true rfl) (Nat.le_of_ble_eq_true rfl) ⟨rfl, qb, kp_mono (kp_fr (fr_trans (fr_trans (fr_mono f0 (T := [0, 25, 26]) (by decide)) hf1 (by decide)) hf2 (by decide))) (by decide)⟩
end CNIGHT2
