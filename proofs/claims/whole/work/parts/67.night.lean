/-! THE CLASS: nights -/
abbrev addY (Y : YawT) (a x : Nat) : YawT := (Y.1 + 1, (fun q => if q = Y.1 then a else Y.2.1 q), (fun q => if q = Y.1 then x else Y.2.2 q))
abbrev nigS : Type := YawT × Nat
def nigX (T : Tn) (z : Nat) (code : Nat → Int32) (a b : Nat) : Nat → nigS → nigS
  | 0, s => s
  | x + 1, s => if (a ≤ 599 ∧ (nigX T z code a b x s).1.1 < 24) ∧ code (b + x) < nI (sumT (setY T (nigX T z code a b x s).1) z a x) then (addY (nigX T z code a b x s).1 a x, (nigX T z code a b x s).2 + 1) else nigX T z code a b x s
def nigT (T : Tn) (z : Nat) (code : Nat → Int32) (first : Nat) : Nat → nigS → nigS
  | 0, s => s
  | t + 1, s => nigX T z code (first + t) (t * T.m) T.m (nigT T z code first t s)
def okN (m a : Nat) (Y : YawT) : Prop := okY m Y ∧ ∀ q, q < Y.1 → Y.2.1 q ≤ a
theorem okN_mono {m a b : Nat} {Y : YawT} (h : okN m a Y) (hab : a ≤ b) : okN m b Y := ⟨h.1, fun q hq => Nat.le_trans (h.2 q hq) hab⟩
theorem okN_add {m a x : Nat} {Y : YawT} (h : okN m a Y) (ha : a ≤ 599) (hx : x < m) (hy : Y.1 < 24) : okN m a (addY Y a x) := by
  refine ⟨⟨by show Y.1 + 1 ≤ 24; omega, fun q hq => ?_, fun p q hpq hq => ?_⟩, fun q hq => ?_⟩
  · show (if q = Y.1 then a else Y.2.1 q) < 600 ∧ (if q = Y.1 then x else Y.2.2 q) < m
    by_cases e : q = Y.1
    · rw [if_pos e, if_pos e]; omega
    · rw [if_neg e, if_neg e]; exact h.1.2.1 q (Nat.lt_of_le_of_ne (Nat.le_of_lt_succ hq) e)
  · show (if p = Y.1 then a else Y.2.1 p) ≤ (if q = Y.1 then a else Y.2.1 q)
    have hq2 : q < Y.1 + 1 := hq
    by_cases e : q = Y.1
    · rw [if_pos e, if_neg (by omega)]
      exact h.2 p (by omega)
    · rw [if_neg e, if_neg (by omega)]
      exact h.1.2.2 p q hpq (by omega)
  · show (if q = Y.1 then a else Y.2.1 q) ≤ a
    by_cases e : q = Y.1
    · rw [if_pos e]; exact Nat.le_refl _
    · rw [if_neg e]; exact h.2 q (Nat.lt_of_le_of_ne (Nat.le_of_lt_succ hq) e)
theorem nigX_ok {T : Tn} {z : Nat} {code : Nat → Int32} {a b : Nat} : ∀ (x : Nat) (s : nigS), x ≤ T.m → okN T.m a s.1 → okN T.m a (nigX T z code a b x s).1
  | 0, _, _, h => h
  | x + 1, s, hx, h => by
    have ih := nigX_ok (T := T) (z := z) (code := code) (a := a) (b := b) x s (by omega) h
    rw [nigX]
    split
    · rename_i h1
      exact okN_add ih h1.1.1 (by omega) h1.1.2
    · exact ih
theorem nigT_ok {T : Tn} {z : Nat} {code : Nat → Int32} {first : Nat} : ∀ (t : Nat) (s : nigS), okN T.m first s.1 → okN T.m (first + t) (nigT T z code first t s).1
  | 0, _, h => h
  | t + 1, s, h => by
    rw [nigT]
    exact okN_mono (nigX_ok T.m _ (Nat.le_refl _) (nigT_ok t s h)) (by omega)
theorem ok_Y {T : Tn} (o : T.ok) {Y : YawT} (h : okY T.m Y) : (setY T Y).ok := ⟨o.1, o.2.1, o.2.2.1, h, o.2.2.2.2⟩
theorem add_all {G : rG} {h : rH} {T : Tn} {f g : Nat → Int32} {a x : Nat} (q : cAll G h T) (hn : T.ny < 24) (r2 : h[15]? = some (.inl (gA G 0, 24, .inl f))) (r3 : ∀ j, j < T.ny → f j = nI (T.ym j)) (r4 : h[16]? = some (.inl (gA G 0, 24, .inl g))) (r5 : ∀ j, j < T.ny → g j = nI (T.yw j)) : cAll G (((h.set 15 (.inl (gA G 0, 24, .inl (upd f (nI T.ny).toNatClampNeg (nI a))))).set 16 (.inl (gA G 0, 24, .inl (upd g (nI T.ny).toNatClampNeg (nI x))))).set 14 (.inr (9, [.ref (gN G + 15), .ref (gN G + 16), .int (nI T.ny + 1)]))) (setY T (addY T.2.2.2.1 a x)) := by
  have r1 := q.1.2.2.2.2.2.2.1.1
  refine all_Y q ⟨?_, ⟨_, rg_ne (by decide) (rg_ne (by decide) (rg_eq r2)), ?_⟩, _, rg_ne (by decide) (rg_eq (rg_ne (by decide) r4)), ?_⟩ (kp_fr (fr_set (fr_set (fr_set (fr_refl _ _) (by decide)) (by decide)) (by decide)))
  · rw [nI_1]; exact rg_eq (rg_ne (by decide) (rg_ne (by decide) r1))
  · intro j hj
    rw [nI_clamp (by omega)]
    by_cases z : j = T.ny
    · subst z; rw [pk_us]; dsimp only; rw [if_pos rfl]
    · rw [pk_un z]; dsimp only; rw [if_neg z]; exact r3 j (Nat.lt_of_le_of_ne (Nat.le_of_lt_succ hj) z)
  · intro j hj
    rw [nI_clamp (by omega)]
    by_cases z : j = T.ny
    · subst z; rw [pk_us]; dsimp only; rw [if_pos rfl]
    · rw [pk_un z]; dsimp only; rw [if_neg z]; exact r5 j (Nat.lt_of_le_of_ne (Nat.le_of_lt_succ hj) z)
theorem wg_Y {G : rG} {h h' : rH} {T : Tn} {z : Nat} {Y : YawT} (w : wgAt G h T z) (q : cAll G h' (setY T Y)) (hf : fr h h' [14, 15, 16]) : wgAt G h' (setY T Y) z := by
  obtain ⟨-, w2, ⟨f, w3, w4⟩, g, w5, w6⟩ := w
  exact ⟨q.1, w2, ⟨f, rg_fr hf (by decide) w3, w4⟩, g, rg_fr hf (by decide) w5, w6⟩
section CNIGHT
variable {l : Launch} {G : rG} {h : rH} {T : Tn} {z : Nat}
set_option maxRecDepth 100000 in
set_option maxHeartbeats 400000 in
theorem k_X11_areDraws {b cb : Nat} {h1 l1 len : Int32} {f code : Nat → Int32} {a K : Nat} (hc : h[b]? = some (.inr (8, [.ref (gN G + cb), .int h1, .int l1, .int len]))) (hf : h[cb]? = some (.inl (gA G 0, 60, .inl f))) (ha : a + K ≤ 60) (hcode : ∀ p, p < K → f (a + p) = code p) : rM l G 1 mX11_areDraws 0 0 [.ref (gN G + b), .int (nI a), .int (nI K)] h (rV h (some (.int (if andN (fun p => decide (0 ≤ code p ∧ code p ≤ 999)) K then 1 else 0)))) := by
  refine rM_start (by decide) (Nat.le_of_ble_eq_true rfl) ?_
  have A : ∀ (r p : Nat) (y : Int32) (o4 : Option Value), p + r = K → y = nI p → andN (fun p => decide (0 ≤ code p ∧ code p ≤ 999)) p = true → rW l G (rRm 1 0 0) mX11_areDraws (rZ G (rV h (some (.int (if andN (fun p => decide (0 ≤ code p ∧ code p ≤ 999)) K then 1 else 0)))) 0 0) 0 0 2 [some (.ref (gN G + b)), some (.int (nI a)), some (.int (nI K)), some (.int y), o4] [] h := by
    intro r
    induction r with
    | zero =>
      intro p y o4 hp hy hA
      subst hy
      have e : p = K := by omega
      subst e
      refine a_iload_n 3 dX11_areDraws_2 rfl rfl ?_
      refine a_iload_n 4 dX11_areDraws_3 rfl rfl ?_
      refine a_icmp_ge 37 7 dX11_areDraws_4 rfl (by decide) (fun c_4 => ?_) (fun c_4 => absurd (Int32.le_refl _) c_4)
      refine a_iconst (1) 38 dX11_areDraws_37 rfl (by decide) ?_
      exact a_ireturn dX11_areDraws_38 rfl rfl (Nat.le_of_ble_eq_true rfl) (Nat.le_of_ble_eq_true rfl) ⟨rfl, by rw [if_pos hA]⟩
    | succ r ih =>
      intro p y o4 hp hy hA
      subst hy
      have e1 : (if 0 ≤ nI a + nI p ∧ nI a + nI p < 60 then f (nI a + nI p).toNatClampNeg else 0) = code p := by
        rw [nI_add, if_pos ⟨nI_pos' (by omega), nI_lt (b := 60) (by omega) (by decide)⟩, nI_clamp (by omega), hcode p (by omega)]
      refine a_iload_n 3 dX11_areDraws_2 rfl rfl ?_
      refine a_iload_n 4 dX11_areDraws_3 rfl rfl ?_
      refine a_icmp_ge 37 7 dX11_areDraws_4 rfl (by decide) (fun c_4 => absurd c_4 (nI_ge (a := p) (b := K) (by omega) (by omega))) (fun c_4 => ?_)
      refine a_aload_n 8 dX11_areDraws_7 rfl rfl ?_
      refine a_iload_n 9 dX11_areDraws_8 rfl rfl ?_
      refine a_iload_n 10 dX11_areDraws_9 rfl rfl ?_
      refine a_iadd 11 dX11_areDraws_10 rfl ?_
      refine a_callV ok_X8_read ln_X11_342 in_X8_read rfl 14 dX11_areDraws_11 rfl (k_X8_read hc hf _) (by repeat (first | assumption | (refine rg_ne (by first | decide | omega) ?_) | apply rg_eq | refine rg_fr (by assumption) (by first | decide | (simp; omega)) ?_)) rfl rfl rfl ⟨(Nat.le_of_ble_eq_true rfl), (Nat.le_of_ble_eq_true rfl)⟩ (Nat.le_of_ble_eq_true rfl) ⟨(Nat.le_of_ble_eq_true rfl), (Nat.le_of_ble_eq_true rfl)⟩ ?_
      rintro _ _ ⟨rfl, rfl⟩
      rw [e1]
      refine a_istore 16 dX11_areDraws_14 rfl (by decide) ?_
      refine a_iload 18 dX11_areDraws_16 rfl rfl ?_
      refine a_if_lt 29 21 dX11_areDraws_18 rfl (by decide) (fun c_18 => ?_) (fun c_18 => ?_)
      · refine a_iconst (0) 30 dX11_areDraws_29 rfl (by decide) ?_
        exact a_ireturn dX11_areDraws_30 rfl rfl (Nat.le_of_ble_eq_true rfl) (Nat.le_of_ble_eq_true rfl) ⟨rfl, by rw [if_neg (fun w => absurd (andN_f (P := fun p => decide (0 ≤ code p ∧ code p ≤ 999)) (n := K) (i := p) (by omega) (decide_eq_false (fun u => (Int32.not_lt.mpr u.1) c_18))) (by rw [w]; decide))]⟩
      · refine a_iload 23 dX11_areDraws_21 rfl rfl ?_
        refine a_sipush (999) 26 dX11_areDraws_23 rfl (by decide) ?_
        refine a_icmp_le 31 29 dX11_areDraws_26 rfl (by decide) (fun c_26 => ?_) (fun c_26 => ?_)
        · refine a_iinc _ 34 dX11_areDraws_31 rfl rfl (by decide) rfl ?_
          refine a_goto 2 dX11_areDraws_34 (by decide) ?_
          exact ih (p + 1) _ _ (by omega) (nI_1 p) (by rw [andN, hA, decide_eq_true ⟨Int32.not_lt.mp c_18, c_26⟩]; rfl)
        · refine a_iconst (0) 30 dX11_areDraws_29 rfl (by decide) ?_
          exact a_ireturn dX11_areDraws_30 rfl rfl (Nat.le_of_ble_eq_true rfl) (Nat.le_of_ble_eq_true rfl) ⟨rfl, by rw [if_neg (fun w => absurd (andN_f (P := fun p => decide (0 ≤ code p ∧ code p ≤ 999)) (n := K) (i := p) (by omega) (decide_eq_false (fun u => c_26 u.2))) (by rw [w]; decide))]⟩
  refine a_iconst (0) 1 dX11_areDraws_0 rfl (by decide) ?_
  refine a_istore_n 2 dX11_areDraws_1 rfl (by decide) ?_
  exact A K 0 _ _ (by omega) rfl rfl
set_option maxRecDepth 100000 in
set_option maxHeartbeats 400000 in
theorem k_X11_yawnsAtDraw (q : wgAt G h T z) (o : T.ok) {a x : Nat} (hx : x < T.m) (ha : a < 2 ^ 30) (d : Int32) : rM l G 5 mX11_yawnsAtDraw 0 0 [.ref (gN G + 0), .ref (gN G + T.la z), .int d, .int (nI a), .int (nI x)] h (rV h (some (.int (if (a ≤ 599 ∧ T.ny < 24) ∧ d < nI (sumT T z a x) then 1 else 0)))) := by
  have hny := o.ny24
  have hy := q.1.1
  have r1 := (wg_row q).1
  have e5 : (599 : Int32) < nI a ↔ ¬ a ≤ 599 := by
    rw [show (599 : Int32) = nI 599 from rfl, nI_ltI (by omega) (by omega)]
    omega
  have e24 : (24 : Int32) ≤ nI T.ny ↔ ¬ T.ny < 24 := by
    rw [show (24 : Int32) = nI 24 from rfl, nI_leI (by omega) (by omega)]
    omega
  refine rM_start (by decide) (Nat.le_of_ble_eq_true rfl) ?_
  refine a_iload_n 1 dX11_yawnsAtDraw_0 rfl rfl ?_
  refine a_sipush (599) 4 dX11_yawnsAtDraw_1 rfl (by decide) ?_
  refine a_icmp_gt 33 7 dX11_yawnsAtDraw_4 rfl (by decide) (fun c_4 => ?_) (fun c_4 => ?_)
  · refine a_iconst (0) 34 dX11_yawnsAtDraw_33 rfl (by decide) ?_
    exact a_ireturn dX11_yawnsAtDraw_34 rfl rfl (Nat.le_of_ble_eq_true rfl) (Nat.le_of_ble_eq_true rfl) ⟨rfl, by rw [if_neg (fun w => e5.mp c_4 w.1.1)]⟩
  · refine a_aload_n 8 dX11_yawnsAtDraw_7 rfl rfl ?_
    refine a_get fd_X11_53 rfl 11 dX11_yawnsAtDraw_8 rfl (by repeat (first | assumption | (refine rg_ne (by first | decide | omega) ?_) | apply rg_eq | refine rg_fr (by assumption) (by first | decide | (simp; omega)) ?_)) rfl ?_
    refine a_callV ok_X10_isFull ln_X11_201 in_X10_isFull rfl 14 dX11_yawnsAtDraw_11 rfl (k_X10_isFull r1) (by repeat (first | assumption | (refine rg_ne (by first | decide | omega) ?_) | apply rg_eq | refine rg_fr (by assumption) (by first | decide | (simp; omega)) ?_)) rfl rfl rfl ⟨(Nat.le_of_ble_eq_true rfl), (Nat.le_of_ble_eq_true rfl)⟩ (Nat.le_of_ble_eq_true rfl) ⟨(Nat.le_of_ble_eq_true rfl), (Nat.le_of_ble_eq_true rfl)⟩ ?_
    rintro _ _ ⟨rfl, rfl⟩
    refine a_if_ne 33 17 dX11_yawnsAtDraw_14 rfl (by decide) (fun c_14 => ?_) (fun c_14 => ?_)
    · refine a_iconst (0) 34 dX11_yawnsAtDraw_33 rfl (by decide) ?_
      exact a_ireturn dX11_yawnsAtDraw_34 rfl rfl (Nat.le_of_ble_eq_true rfl) (Nat.le_of_ble_eq_true rfl) ⟨rfl, by rw [if_neg (fun w => e24.mp (Decidable.not_not.mp (fun u => c_14 (if_neg u))) w.1.2)]⟩
    · refine a_iload_n 18 dX11_yawnsAtDraw_17 rfl rfl ?_
      refine a_aload_n 19 dX11_yawnsAtDraw_18 rfl rfl ?_
      refine a_aload_n 20 dX11_yawnsAtDraw_19 rfl rfl ?_
      refine a_iload 22 dX11_yawnsAtDraw_20 rfl rfl ?_
      refine a_iload_n 23 dX11_yawnsAtDraw_22 rfl rfl ?_
      refine a_callV ok_X11_mightAt ln_X11_411 in_X11_mightAt rfl 26 dX11_yawnsAtDraw_23 rfl (k_X11_mightAt q o hx ha) (by repeat (first | assumption | (refine rg_ne (by first | decide | omega) ?_) | apply rg_eq | refine rg_fr (by assumption) (by first | decide | (simp; omega)) ?_)) rfl rfl rfl ⟨(Nat.le_of_ble_eq_true rfl), (Nat.le_of_ble_eq_true rfl)⟩ (Nat.le_of_ble_eq_true rfl) ⟨(Nat.le_of_ble_eq_true rfl), (Nat.le_of_ble_eq_true rfl)⟩ ?_
      rintro _ _ ⟨rfl, rfl⟩
      refine a_icmp_ge 33 29 dX11_yawnsAtDraw_26 rfl (by decide) (fun c_26 => ?_) (fun c_26 => ?_)
      · refine a_iconst (0) 34 dX11_yawnsAtDraw_33 rfl (by decide) ?_
        exact a_ireturn dX11_yawnsAtDraw_34 rfl rfl (Nat.le_of_ble_eq_true rfl) (Nat.le_of_ble_eq_true rfl) ⟨rfl, by rw [if_neg (fun w => (Int32.not_lt.mpr c_26) w.2)]⟩
      · refine a_iconst (1) 30 dX11_yawnsAtDraw_29 rfl (by decide) ?_
        refine a_goto 34 dX11_yawnsAtDraw_30 (by decide) ?_
        exact a_ireturn dX11_yawnsAtDraw_34 rfl rfl (Nat.le_of_ble_eq_true rfl) (Nat.le_of_ble_eq_true rfl) ⟨rfl, by rw [if_pos ⟨⟨Decidable.not_not.mp (fun u => c_4 (e5.mpr u)), Decidable.not_not.mp (fun u => (b_eq0.mp c_14) (e24.mpr u))⟩, Int32.not_le.mp c_26⟩]⟩
end CNIGHT
