/-! THE CLASS: a newcomer, one -/
theorem kp_app {h : rH} {e : va_E} : kp h (h ++ [e]) [] := fun k hk _ => List.getElem?_append_left hk
theorem at_app {h : rH} {e : va_E} : (h ++ [e])[h.length]? = some e := by simp
theorem kp_tr {h h1 h2 : rH} {S : List Nat} (q : kp h h1 []) (q2 : kp h1 h2 S) (hl : h.length ≤ h1.length) : kp h h2 S := fun k hk hn => (q2 k (Nat.lt_of_lt_of_le hk hl) hn).trans (q k hk (fun z => by cases z))
theorem new_fr {h h2 : rH} {e : va_E} (hf : fr (h ++ [e]) h2 [h.length]) : kp h h2 [] ∧ h2.length = h.length + 1 := by
  refine ⟨fun k hk _ => ?_, by rw [hf.1]; simp⟩
  rw [hf.2 k (by simp; omega)]
  exact List.getElem?_append_left hk
theorem isK_3 {k : Int32} : (0 ≤ k ∧ k ≤ 2) ↔ (0 ≤ k ∧ k < nI 3) := by
  rw [i_le, i_le, i_lt]
  show (0 ≤ k.toInt ∧ k.toInt ≤ 2) ↔ (0 ≤ k.toInt ∧ k.toInt < 3)
  omega
theorem isD_10 {k : Int32} : (0 ≤ k ∧ k ≤ 9) ↔ (0 ≤ k ∧ k < nI 10) := by
  rw [i_le, i_le, i_lt]
  show (0 ≤ k.toInt ∧ k.toInt ≤ 9) ↔ (0 ≤ k.toInt ∧ k.toInt < 10)
  omega
theorem oT_some {n : Nat} {c : Int32} {x : Nat} (h : oT n c = some x) : 0 ≤ c ∧ c < nI n := by
  unfold oT at h
  by_cases e : 0 ≤ c ∧ c < nI n
  · exact e
  · rw [if_neg e] at h; cases h
section CONEW
variable {l : Launch} {G : rG} {h : rH} {T : Tn}
set_option maxRecDepth 100000 in
set_option maxHeartbeats 400000 in
theorem k_X11_newcomer_7 (a b c : Int32) : rM l G 4 mX11_newcomer 1 4 [.int 0, .int a, .int b, .int c] h (fun h' v => v = some (.ref (gN G + h.length)) ∧ h'[h.length]? = some (pc 7 a b c 0) ∧ kp h h' [] ∧ h'.length = h.length + 1) := by
  have h0 : (h ++ [pc 7 0 0 0 0])[h.length]? = some (pc 7 0 0 0 0) := at_app
  refine rM_start (by decide) (Nat.le_of_ble_eq_true rfl) ?_
  refine a_iload_n 1 dX11_newcomer_0 rfl rfl ?_
  refine a_if_ne 15 4 dX11_newcomer_1 rfl (by decide) (fun c_1 => absurd rfl c_1) (fun c_1 => ?_)
  refine a_new (fs := [.int 0, .int 0, .int 0, .int 0]) cl_X7 lc_X11_38 ia_X7 ii_X7 rfl 7 dX11_newcomer_4 rfl (by decide) ⟨(Nat.le_of_ble_eq_true rfl), (Nat.le_of_ble_eq_true rfl)⟩ ?_
  refine a_dup 8 dX11_newcomer_7 rfl rfl ?_
  refine a_iload_n 9 dX11_newcomer_8 rfl rfl ?_
  refine a_iload_n 10 dX11_newcomer_9 rfl rfl ?_
  refine a_iload_n 11 dX11_newcomer_10 rfl rfl ?_
  refine a_callI ok_X7_init ln_X11_368 is_X7_init rfl rfl rfl 14 dX11_newcomer_11 rfl (k_X7_init_7 h0) rfl rfl ⟨(Nat.le_of_ble_eq_true rfl), (Nat.le_of_ble_eq_true rfl)⟩ (Nat.le_of_ble_eq_true rfl) ⟨(Nat.le_of_ble_eq_true rfl), (Nat.le_of_ble_eq_true rfl)⟩ ?_
  rintro h2 _ ⟨rfl, g2, hf2⟩
  exact a_areturn dX11_newcomer_14 rfl (by first | exact Or.inl rfl | exact Or.inr ⟨_, rfl⟩ | exact rf_or _) (Nat.le_of_ble_eq_true rfl) (Nat.le_of_ble_eq_true rfl) ⟨rfl, g2, new_fr hf2⟩
set_option maxRecDepth 100000 in
set_option maxHeartbeats 400000 in
theorem k_X11_newcomer_3 (a b c : Int32) : rM l G 4 mX11_newcomer 1 4 [.int 1, .int a, .int b, .int c] h (fun h' v => v = some (.ref (gN G + h.length)) ∧ h'[h.length]? = some (pc 3 a b c 0) ∧ kp h h' [] ∧ h'.length = h.length + 1) := by
  have h0 : (h ++ [pc 3 0 0 0 0])[h.length]? = some (pc 3 0 0 0 0) := at_app
  refine rM_start (by decide) (Nat.le_of_ble_eq_true rfl) ?_
  refine a_iload_n 1 dX11_newcomer_0 rfl rfl ?_
  refine a_if_ne 15 4 dX11_newcomer_1 rfl (by decide) (fun c_1 => ?_) (fun c_1 => absurd c_1 (by decide))
  refine a_iload_n 16 dX11_newcomer_15 rfl rfl ?_
  refine a_iconst (1) 17 dX11_newcomer_16 rfl (by decide) ?_
  refine a_icmp_ne 33 20 dX11_newcomer_17 rfl (by decide) (fun c_17 => absurd rfl c_17) (fun c_17 => ?_)
  refine a_new (fs := [.int 0, .int 0, .int 0, .int 0]) cl_X3 lc_X11_371 ia_X3 ii_X3 rfl 23 dX11_newcomer_20 rfl (by decide) ⟨(Nat.le_of_ble_eq_true rfl), (Nat.le_of_ble_eq_true rfl)⟩ ?_
  refine a_dup 24 dX11_newcomer_23 rfl rfl ?_
  refine a_iload_n 25 dX11_newcomer_24 rfl rfl ?_
  refine a_iload_n 26 dX11_newcomer_25 rfl rfl ?_
  refine a_iload_n 27 dX11_newcomer_26 rfl rfl ?_
  refine a_callI ok_X3_init ln_X11_373 is_X3_init rfl rfl rfl 30 dX11_newcomer_27 rfl (k_X3_init_3 h0) rfl rfl ⟨(Nat.le_of_ble_eq_true rfl), (Nat.le_of_ble_eq_true rfl)⟩ (Nat.le_of_ble_eq_true rfl) ⟨(Nat.le_of_ble_eq_true rfl), (Nat.le_of_ble_eq_true rfl)⟩ ?_
  rintro h2 _ ⟨rfl, g2, hf2⟩
  refine a_goto 43 dX11_newcomer_30 (by decide) ?_
  exact a_areturn dX11_newcomer_43 rfl (by first | exact Or.inl rfl | exact Or.inr ⟨_, rfl⟩ | exact rf_or _) (Nat.le_of_ble_eq_true rfl) (Nat.le_of_ble_eq_true rfl) ⟨rfl, g2, new_fr hf2⟩
set_option maxRecDepth 100000 in
set_option maxHeartbeats 400000 in
theorem k_X11_newcomer_4 (a b c : Int32) : rM l G 4 mX11_newcomer 1 4 [.int 2, .int a, .int b, .int c] h (fun h' v => v = some (.ref (gN G + h.length)) ∧ h'[h.length]? = some (pc 4 a b c 0) ∧ kp h h' [] ∧ h'.length = h.length + 1) := by
  have h0 : (h ++ [pc 4 0 0 0 0])[h.length]? = some (pc 4 0 0 0 0) := at_app
  refine rM_start (by decide) (Nat.le_of_ble_eq_true rfl) ?_
  refine a_iload_n 1 dX11_newcomer_0 rfl rfl ?_
  refine a_if_ne 15 4 dX11_newcomer_1 rfl (by decide) (fun c_1 => ?_) (fun c_1 => absurd c_1 (by decide))
  refine a_iload_n 16 dX11_newcomer_15 rfl rfl ?_
  refine a_iconst (1) 17 dX11_newcomer_16 rfl (by decide) ?_
  refine a_icmp_ne 33 20 dX11_newcomer_17 rfl (by decide) (fun c_17 => ?_) (fun c_17 => absurd c_17 (by decide))
  refine a_new (fs := [.int 0, .int 0, .int 0, .int 0]) cl_X4 lc_X11_374 ia_X4 ii_X4 rfl 36 dX11_newcomer_33 rfl (by decide) ⟨(Nat.le_of_ble_eq_true rfl), (Nat.le_of_ble_eq_true rfl)⟩ ?_
  refine a_dup 37 dX11_newcomer_36 rfl rfl ?_
  refine a_iload_n 38 dX11_newcomer_37 rfl rfl ?_
  refine a_iload_n 39 dX11_newcomer_38 rfl rfl ?_
  refine a_iload_n 40 dX11_newcomer_39 rfl rfl ?_
  refine a_callI ok_X4_init ln_X11_376 is_X4_init rfl rfl rfl 43 dX11_newcomer_40 rfl (k_X4_init_4 h0) rfl rfl ⟨(Nat.le_of_ble_eq_true rfl), (Nat.le_of_ble_eq_true rfl)⟩ (Nat.le_of_ble_eq_true rfl) ⟨(Nat.le_of_ble_eq_true rfl), (Nat.le_of_ble_eq_true rfl)⟩ ?_
  rintro h2 _ ⟨rfl, g2, hf2⟩
  exact a_areturn dX11_newcomer_43 rfl (by first | exact Or.inl rfl | exact Or.inr ⟨_, rfl⟩ | exact rf_or _) (Nat.le_of_ble_eq_true rfl) (Nat.le_of_ble_eq_true rfl) ⟨rfl, g2, new_fr hf2⟩
theorem va_upN {f : Nat → Option Nat} {k : Nat} {v : Option Nat} {j : Nat} : va_up f k v j = if j = k then v else f j := rfl
theorem one_fin {h1 : rH} {e k s i : Nat} {sf L f : Nat → Int32} {p : Nat → Option Nat} (o : T.ok) (q : cAll G h T) (hlen : 61 ≤ h.length) (hk : kp h h1 []) (hl1 : h1.length = h.length + 1) (hm12 : T.m < 12) (he : e < 32) (hsit : sitT T e = none) (h9 : h[9]? = some (.inl (gA G 0, 32, .inl sf))) (hs : ∀ c, c < T.n → sf c = noI (sitT T c)) (hp : h[12]? = some (.inl (gA G 3, 12, .inr (.inr (.inr (.inr p)))))) (hp2 : ∀ x, x < T.m → p x = some (gN G + T.pa x) ∧ 61 ≤ T.pa x ∧ h[T.pa x]? = some (pc (ciK (T.kd x)) (nI x) (nI (T.sl x)) (nI (T.ki x)) (nI (T.se x)))) (hnew : h1[h.length]? = some (pc (ciK k) (nI T.m) (nI s) (nI i) 0)) {h4 : rH} (e4 : h4 = (((h1.set h.length (pc (ciK k) (nI T.m) (nI s) (nI i) (nI e))).set 12 (.inl (gA G 3, 12, .inr (.inr (.inr (.inr (va_up p (nI T.m).toNatClampNeg (some (gN G + h.length))))))))).set 9 (.inl (gA G 0, 32, .inl (upd sf (nI e).toNatClampNeg (nI T.m))))).set 0 (ytc G (nI T.m + 1) (nI T.nl) T.fa T.tr)) : cAll G h4 (newOne T k e s i h.length) ∧ kC h h4 := by
  subst e4
  have hh := fun {j : Nat} {x : va_E} (z : h[j]? = some x) => kp_get hk (fun w => by cases w) z
  have q1 := q.kp hk
  have hf : fr h1 ((((h1.set h.length (pc (ciK k) (nI T.m) (nI s) (nI i) (nI e))).set 12 (.inl (gA G 3, 12, .inr (.inr (.inr (.inr (va_up p (nI T.m).toNatClampNeg (some (gN G + h.length))))))))).set 9 (.inl (gA G 0, 32, .inl (upd sf (nI e).toNatClampNeg (nI T.m))))).set 0 (ytc G (nI T.m + 1) (nI T.nl) T.fa T.tr)) [0, 9, 12, h.length] := fr_set (fr_set (fr_set (fr_set (fr_refl _ _) (by simp)) (by simp)) (by simp)) (by simp)
  have hS : ∀ j ∈ [0, 9, 12, h.length], j = 0 ∨ j = 9 ∨ j = 12 ∨ 61 ≤ j := fun j hj => by simp only [List.mem_cons, List.not_mem_nil, or_false] at hj; omega
  refine ⟨one_cells (S := [0, 9, 12, h.length]) q1 ?_ (rg_ne (by decide) (rg_eq (rg_ne (by decide) (rg_ne (by omega) (hh h9))))) ?_ ?_ (law_pa (v := pc 0 0 0 0 0) q1.1 hnew (ciK_P k) (fun j h1 h2 h3 => hf.2 j (by simp; omega)) (hf.2 13 (by simp; omega))) (kp_fr hf) hS, kC_kp (kp_tr hk (kp_fr hf) (by omega)) (fun j hj => by have := hS j hj; omega)⟩
  · rw [show nI T.m + 1 = nI (T.m + 1) from nI_1 _]
    exact rg_eq (rg_ne (by decide) (rg_ne (by decide) (rg_ne (by omega) (hh q.1.1))))
  · rw [nI_clamp (by omega)]
    exact sit_one hsit hs
  · refine ⟨_, rg_ne (by decide) (rg_ne (by decide) (rg_eq (rg_ne (by omega) (hh hp)))), fun x hx => ?_⟩
    rw [nI_clamp (by omega), va_upN]
    by_cases ex : x = T.m
    · subst ex
      dsimp only
      rw [if_pos rfl, if_pos rfl, if_pos rfl, if_pos rfl, if_pos rfl, if_pos rfl]
      exact ⟨rfl, hlen, rg_ne (by omega) (rg_ne (by omega) (rg_ne (by omega) (rg_eq hnew)))⟩
    · dsimp only
      rw [if_neg ex, if_neg ex, if_neg ex, if_neg ex, if_neg ex, if_neg ex]
      have hx2 : x < T.m := Nat.lt_of_le_of_ne (Nat.le_of_lt_succ hx) ex
      obtain ⟨a1, a2, a3⟩ := hp2 x hx2
      have hlt := (List.getElem?_eq_some_iff.mp a3).1
      exact ⟨a1, a2, rg_ne (by omega) (rg_ne (by omega) (rg_ne (by omega) (rg_ne (by omega) (hh a3))))⟩
set_option maxRecDepth 100000 in
set_option maxHeartbeats 400000 in
theorem c_one (q : cAll G h T) (o : T.ok) (hlen : 61 ≤ h.length) (k c s i : Int32) : rM l G 12 mX11_one 1 4 [.ref (gN G + 0), .int k, .int c, .int s, .int i] h (fun h' v => v = some (.int (aOne T k c s i)) ∧ cAll G h' (tOne T k c s i h.length) ∧ kC h h') := by
  have hm := o.m12
  have hn := o.n32
  have hy := q.1.1
  obtain ⟨fc, sf, L, h7, h8, h9, h10, h11, hfc, hs, hL⟩ := c_car q.1
  obtain ⟨p, hp, hp2⟩ := q.1.2.2.2.2.1
  rcases oT_cases (n := T.n) (Nat.lt_of_le_of_lt hn (by decide)) c with ⟨e, hc⟩ | ⟨x, hx, rfl, e⟩
  · have ea : aOne T k c s i = -1 := by unfold aOne; rw [e]
    have et : tOne T k c s i h.length = T := by unfold tOne; rw [e]
    refine rM_start (by decide) (Nat.le_of_ble_eq_true rfl) ?_
    refine a_aload_n 1 dX11_one_0 rfl rfl ?_
    refine a_get fd_X11_34 rfl 4 dX11_one_1 rfl (by repeat (first | assumption | (refine rg_ne (by first | decide | omega) ?_) | apply rg_eq | refine rg_fr (by assumption) (by first | decide | (simp; omega)) ?_)) rfl ?_
    refine a_iload_n 5 dX11_one_4 rfl rfl ?_
    refine a_callV ok_X1_isSeat ln_X11_108 in_X1_isSeat rfl 8 dX11_one_5 rfl (c_seat q.1 c) (by repeat (first | assumption | (refine rg_ne (by first | decide | omega) ?_) | apply rg_eq | refine rg_fr (by assumption) (by first | decide | (simp; omega)) ?_)) rfl rfl rfl ⟨(Nat.le_of_ble_eq_true rfl), (Nat.le_of_ble_eq_true rfl)⟩ (Nat.le_of_ble_eq_true rfl) ⟨(Nat.le_of_ble_eq_true rfl), (Nat.le_of_ble_eq_true rfl)⟩ ?_
    rintro _ _ ⟨rfl, rfl⟩
    refine a_if_ne 13 11 dX11_one_8 rfl (by decide) (fun c_8 => absurd (if_neg hc) c_8) (fun c_8 => ?_)
    refine a_iconst (-1) 12 dX11_one_11 rfl (by decide) ?_
    exact a_ireturn dX11_one_12 rfl rfl (Nat.le_of_ble_eq_true rfl) (Nat.le_of_ble_eq_true rfl) ⟨by rw [ea], by rw [et]; exact q, fun _ _ _ _ => rfl⟩
  · have hx32 : x < 32 := Nat.lt_of_lt_of_le hx hn
    have es : (if 0 ≤ nI x ∧ nI x < 32 then sf (nI x).toNatClampNeg else -9) = noI (sitT T x) := by rw [if_pos ⟨nI_pos' (by omega), nI_lt (b := 32) hx32 (by decide)⟩, nI_clamp (by omega), hs x hx]
    have bs : ∀ P : Prop, True := fun _ => trivial
    by_cases hv : (0 ≤ k ∧ k ≤ 2) ∧ (0 ≤ s ∧ s ≤ 9) ∧ (0 ≤ i ∧ i ≤ 9)
    · obtain ⟨v1, v2, v3⟩ := hv
      rcases oT_cases (n := 3) (by decide) k with ⟨-, hc⟩ | ⟨k, hk, rfl, ek⟩
      · exact absurd (isK_3.mp v1) hc
      rcases oT_cases (n := 10) (by decide) s with ⟨-, hc⟩ | ⟨s, hsl, rfl, es2⟩
      · exact absurd (isD_10.mp v2) hc
      rcases oT_cases (n := 10) (by decide) i with ⟨-, hc⟩ | ⟨i, hil, rfl, ei⟩
      · exact absurd (isD_10.mp v3) hc
      have ea : aOne T (nI k) (nI x) (nI s) (nI i) = if sitT T x = none then (if T.m = 12 then -4 else nI T.m) else -3 := by unfold aOne; rw [e, ek, es2, ei]
      have et : tOne T (nI k) (nI x) (nI s) (nI i) h.length = if sitT T x = none then (if T.m = 12 then T else newOne T k x s i h.length) else T := by unfold tOne; rw [e, ek, es2, ei]
      cases hk0 : sitT T x with
      | some y =>
        have hsp := firstN_spec hk0
        have hne : ¬ nI y = -9 := nI_ne9 (by omega)
        rw [hk0, if_neg (by intro z; cases z)] at ea et
        refine rM_start (by decide) (Nat.le_of_ble_eq_true rfl) ?_
        refine a_aload_n 1 dX11_one_0 rfl rfl ?_
        refine a_get fd_X11_34 rfl 4 dX11_one_1 rfl (by repeat (first | assumption | (refine rg_ne (by first | decide | omega) ?_) | apply rg_eq | refine rg_fr (by assumption) (by first | decide | (simp; omega)) ?_)) rfl ?_
        refine a_iload_n 5 dX11_one_4 rfl rfl ?_
        refine a_callV ok_X1_isSeat ln_X11_108 in_X1_isSeat rfl 8 dX11_one_5 rfl (c_seat q.1 (nI x)) (by repeat (first | assumption | (refine rg_ne (by first | decide | omega) ?_) | apply rg_eq | refine rg_fr (by assumption) (by first | decide | (simp; omega)) ?_)) rfl rfl rfl ⟨(Nat.le_of_ble_eq_true rfl), (Nat.le_of_ble_eq_true rfl)⟩ (Nat.le_of_ble_eq_true rfl) ⟨(Nat.le_of_ble_eq_true rfl), (Nat.le_of_ble_eq_true rfl)⟩ ?_
        rintro _ _ ⟨rfl, rfl⟩
        refine a_if_ne 13 11 dX11_one_8 rfl (by decide) (fun c_8 => ?_) (fun c_8 => absurd c_8 (by rw [if_pos (oT_yes hx (by omega))]; decide))
        refine a_iload_n 14 dX11_one_13 rfl rfl ?_
        refine a_callS ok_X11_isKind ln_X11_135 is_X11_isKind rfl 17 dX11_one_14 rfl (k_X11_isKind _) rfl rfl ⟨(Nat.le_of_ble_eq_true rfl), (Nat.le_of_ble_eq_true rfl)⟩ (Nat.le_of_ble_eq_true rfl) ⟨(Nat.le_of_ble_eq_true rfl), (Nat.le_of_ble_eq_true rfl)⟩ ?_
        rintro _ _ ⟨rfl, rfl⟩
        refine a_if_eq 35 20 dX11_one_17 rfl (by decide) (fun c_17 => absurd c_17 (by rw [if_pos v1]; decide)) (fun c_17 => ?_)
        refine a_iload_n 21 dX11_one_20 rfl rfl ?_
        refine a_callS ok_X11_isDigit ln_X11_138 is_X11_isDigit rfl 24 dX11_one_21 rfl (k_X11_isDigit _) rfl rfl ⟨(Nat.le_of_ble_eq_true rfl), (Nat.le_of_ble_eq_true rfl)⟩ (Nat.le_of_ble_eq_true rfl) ⟨(Nat.le_of_ble_eq_true rfl), (Nat.le_of_ble_eq_true rfl)⟩ ?_
        rintro _ _ ⟨rfl, rfl⟩
        refine a_if_eq 35 27 dX11_one_24 rfl (by decide) (fun c_24 => absurd c_24 (by rw [if_pos v2]; decide)) (fun c_24 => ?_)
        refine a_iload 29 dX11_one_27 rfl rfl ?_
        refine a_callS ok_X11_isDigit ln_X11_138 is_X11_isDigit rfl 32 dX11_one_29 rfl (k_X11_isDigit _) rfl rfl ⟨(Nat.le_of_ble_eq_true rfl), (Nat.le_of_ble_eq_true rfl)⟩ (Nat.le_of_ble_eq_true rfl) ⟨(Nat.le_of_ble_eq_true rfl), (Nat.le_of_ble_eq_true rfl)⟩ ?_
        rintro _ _ ⟨rfl, rfl⟩
        refine a_if_ne 38 35 dX11_one_32 rfl (by decide) (fun c_32 => ?_) (fun c_32 => absurd c_32 (by rw [if_pos v3]; decide))
        refine a_aload_n 39 dX11_one_38 rfl rfl ?_
        refine a_get fd_X11_34 rfl 42 dX11_one_39 rfl (by repeat (first | assumption | (refine rg_ne (by first | decide | omega) ?_) | apply rg_eq | refine rg_fr (by assumption) (by first | decide | (simp; omega)) ?_)) rfl ?_
        refine a_iload_n 43 dX11_one_42 rfl rfl ?_
        refine a_callV ok_X1_sitterOf ln_X11_116 in_X1_sitterOf rfl 46 dX11_one_43 rfl (k_X1_sitterOf h7 h9 (nI x)) (by repeat (first | assumption | (refine rg_ne (by first | decide | omega) ?_) | apply rg_eq | refine rg_fr (by assumption) (by first | decide | (simp; omega)) ?_)) rfl rfl rfl ⟨(Nat.le_of_ble_eq_true rfl), (Nat.le_of_ble_eq_true rfl)⟩ (Nat.le_of_ble_eq_true rfl) ⟨(Nat.le_of_ble_eq_true rfl), (Nat.le_of_ble_eq_true rfl)⟩ ?_
        rintro _ _ ⟨rfl, rfl⟩
        rw [es, hk0]
        refine a_bipush (-9) 48 dX11_one_46 rfl (by decide) ?_
        refine a_icmp_eq 54 51 dX11_one_48 rfl (by decide) (fun c_48 => absurd c_48 hne) (fun c_48 => ?_)
        refine a_bipush (-3) 53 dX11_one_51 rfl (by decide) ?_
        exact a_ireturn dX11_one_53 rfl rfl (Nat.le_of_ble_eq_true rfl) (Nat.le_of_ble_eq_true rfl) ⟨by rw [ea], by rw [et]; exact q, fun _ _ _ _ => rfl⟩
      | none =>
        rw [hk0, if_pos rfl] at ea et
        by_cases hm12 : T.m = 12
        · rw [if_pos hm12] at ea et
          refine rM_start (by decide) (Nat.le_of_ble_eq_true rfl) ?_
          refine a_aload_n 1 dX11_one_0 rfl rfl ?_
          refine a_get fd_X11_34 rfl 4 dX11_one_1 rfl (by repeat (first | assumption | (refine rg_ne (by first | decide | omega) ?_) | apply rg_eq | refine rg_fr (by assumption) (by first | decide | (simp; omega)) ?_)) rfl ?_
          refine a_iload_n 5 dX11_one_4 rfl rfl ?_
          refine a_callV ok_X1_isSeat ln_X11_108 in_X1_isSeat rfl 8 dX11_one_5 rfl (c_seat q.1 (nI x)) (by repeat (first | assumption | (refine rg_ne (by first | decide | omega) ?_) | apply rg_eq | refine rg_fr (by assumption) (by first | decide | (simp; omega)) ?_)) rfl rfl rfl ⟨(Nat.le_of_ble_eq_true rfl), (Nat.le_of_ble_eq_true rfl)⟩ (Nat.le_of_ble_eq_true rfl) ⟨(Nat.le_of_ble_eq_true rfl), (Nat.le_of_ble_eq_true rfl)⟩ ?_
          rintro _ _ ⟨rfl, rfl⟩
          refine a_if_ne 13 11 dX11_one_8 rfl (by decide) (fun c_8 => ?_) (fun c_8 => absurd c_8 (by rw [if_pos (oT_yes hx (by omega))]; decide))
          refine a_iload_n 14 dX11_one_13 rfl rfl ?_
          refine a_callS ok_X11_isKind ln_X11_135 is_X11_isKind rfl 17 dX11_one_14 rfl (k_X11_isKind _) rfl rfl ⟨(Nat.le_of_ble_eq_true rfl), (Nat.le_of_ble_eq_true rfl)⟩ (Nat.le_of_ble_eq_true rfl) ⟨(Nat.le_of_ble_eq_true rfl), (Nat.le_of_ble_eq_true rfl)⟩ ?_
          rintro _ _ ⟨rfl, rfl⟩
          refine a_if_eq 35 20 dX11_one_17 rfl (by decide) (fun c_17 => absurd c_17 (by rw [if_pos v1]; decide)) (fun c_17 => ?_)
          refine a_iload_n 21 dX11_one_20 rfl rfl ?_
          refine a_callS ok_X11_isDigit ln_X11_138 is_X11_isDigit rfl 24 dX11_one_21 rfl (k_X11_isDigit _) rfl rfl ⟨(Nat.le_of_ble_eq_true rfl), (Nat.le_of_ble_eq_true rfl)⟩ (Nat.le_of_ble_eq_true rfl) ⟨(Nat.le_of_ble_eq_true rfl), (Nat.le_of_ble_eq_true rfl)⟩ ?_
          rintro _ _ ⟨rfl, rfl⟩
          refine a_if_eq 35 27 dX11_one_24 rfl (by decide) (fun c_24 => absurd c_24 (by rw [if_pos v2]; decide)) (fun c_24 => ?_)
          refine a_iload 29 dX11_one_27 rfl rfl ?_
          refine a_callS ok_X11_isDigit ln_X11_138 is_X11_isDigit rfl 32 dX11_one_29 rfl (k_X11_isDigit _) rfl rfl ⟨(Nat.le_of_ble_eq_true rfl), (Nat.le_of_ble_eq_true rfl)⟩ (Nat.le_of_ble_eq_true rfl) ⟨(Nat.le_of_ble_eq_true rfl), (Nat.le_of_ble_eq_true rfl)⟩ ?_
          rintro _ _ ⟨rfl, rfl⟩
          refine a_if_ne 38 35 dX11_one_32 rfl (by decide) (fun c_32 => ?_) (fun c_32 => absurd c_32 (by rw [if_pos v3]; decide))
          refine a_aload_n 39 dX11_one_38 rfl rfl ?_
          refine a_get fd_X11_34 rfl 42 dX11_one_39 rfl (by repeat (first | assumption | (refine rg_ne (by first | decide | omega) ?_) | apply rg_eq | refine rg_fr (by assumption) (by first | decide | (simp; omega)) ?_)) rfl ?_
          refine a_iload_n 43 dX11_one_42 rfl rfl ?_
          refine a_callV ok_X1_sitterOf ln_X11_116 in_X1_sitterOf rfl 46 dX11_one_43 rfl (k_X1_sitterOf h7 h9 (nI x)) (by repeat (first | assumption | (refine rg_ne (by first | decide | omega) ?_) | apply rg_eq | refine rg_fr (by assumption) (by first | decide | (simp; omega)) ?_)) rfl rfl rfl ⟨(Nat.le_of_ble_eq_true rfl), (Nat.le_of_ble_eq_true rfl)⟩ (Nat.le_of_ble_eq_true rfl) ⟨(Nat.le_of_ble_eq_true rfl), (Nat.le_of_ble_eq_true rfl)⟩ ?_
          rintro _ _ ⟨rfl, rfl⟩
          rw [es, hk0]
          refine a_bipush (-9) 48 dX11_one_46 rfl (by decide) ?_
          refine a_icmp_eq 54 51 dX11_one_48 rfl (by decide) (fun c_48 => ?_) (fun c_48 => absurd rfl c_48)
          refine a_aload_n 55 dX11_one_54 rfl rfl ?_
          refine a_get fd_X11_98 rfl 58 dX11_one_55 rfl (by repeat (first | assumption | (refine rg_ne (by first | decide | omega) ?_) | apply rg_eq | refine rg_fr (by assumption) (by first | decide | (simp; omega)) ?_)) rfl ?_
          refine a_istore 60 dX11_one_58 rfl (by decide) ?_
          refine a_iload 62 dX11_one_60 rfl rfl ?_
          refine a_if_lt 75 65 dX11_one_62 rfl (by decide) (fun c_62 => absurd c_62 (nI_pos (by omega))) (fun c_62 => ?_)
          refine a_iload 67 dX11_one_65 rfl rfl ?_
          refine a_aload_n 68 dX11_one_67 rfl rfl ?_
          refine a_get fd_X11_40 rfl 71 dX11_one_68 rfl (by repeat (first | assumption | (refine rg_ne (by first | decide | omega) ?_) | apply rg_eq | refine rg_fr (by assumption) (by first | decide | (simp; omega)) ?_)) rfl ?_
          refine a_alen_3 72 dX11_one_71 rfl (by repeat (first | assumption | (refine rg_ne (by first | decide | omega) ?_) | apply rg_eq | refine rg_fr (by assumption) (by first | decide | (simp; omega)) ?_)) ?_
          refine a_icmp_lt 78 75 dX11_one_72 rfl (by decide) (fun c_72 => absurd c_72 (by rw [hm12]; decide)) (fun c_72 => ?_)
          refine a_bipush (-4) 77 dX11_one_75 rfl (by decide) ?_
          exact a_ireturn dX11_one_77 rfl rfl (Nat.le_of_ble_eq_true rfl) (Nat.le_of_ble_eq_true rfl) ⟨by rw [ea], by rw [et]; exact q, fun _ _ _ _ => rfl⟩
        · rw [if_neg hm12] at ea et
          have hmlt : T.m < 12 := by omega
          have vm : vp_in (nI T.m) 12 := vp_in_nI hmlt (by decide)
          have vx : vp_in (nI x) 32 := vp_in_nI hx32 (by decide)
          rcases (show k = 0 ∨ k = 1 ∨ k = 2 by omega) with rfl | rfl | rfl
          · skip
            refine rM_start (by decide) (Nat.le_of_ble_eq_true rfl) ?_
            refine a_aload_n 1 dX11_one_0 rfl rfl ?_
            refine a_get fd_X11_34 rfl 4 dX11_one_1 rfl (by repeat (first | assumption | (refine rg_ne (by first | decide | omega) ?_) | apply rg_eq | refine rg_fr (by assumption) (by first | decide | (simp; omega)) ?_)) rfl ?_
            refine a_iload_n 5 dX11_one_4 rfl rfl ?_
            refine a_callV ok_X1_isSeat ln_X11_108 in_X1_isSeat rfl 8 dX11_one_5 rfl (c_seat q.1 (nI x)) (by repeat (first | assumption | (refine rg_ne (by first | decide | omega) ?_) | apply rg_eq | refine rg_fr (by assumption) (by first | decide | (simp; omega)) ?_)) rfl rfl rfl ⟨(Nat.le_of_ble_eq_true rfl), (Nat.le_of_ble_eq_true rfl)⟩ (Nat.le_of_ble_eq_true rfl) ⟨(Nat.le_of_ble_eq_true rfl), (Nat.le_of_ble_eq_true rfl)⟩ ?_
            rintro _ _ ⟨rfl, rfl⟩
            refine a_if_ne 13 11 dX11_one_8 rfl (by decide) (fun c_8 => ?_) (fun c_8 => absurd c_8 (by rw [if_pos (oT_yes hx (by omega))]; decide))
            refine a_iload_n 14 dX11_one_13 rfl rfl ?_
            refine a_callS ok_X11_isKind ln_X11_135 is_X11_isKind rfl 17 dX11_one_14 rfl (k_X11_isKind _) rfl rfl ⟨(Nat.le_of_ble_eq_true rfl), (Nat.le_of_ble_eq_true rfl)⟩ (Nat.le_of_ble_eq_true rfl) ⟨(Nat.le_of_ble_eq_true rfl), (Nat.le_of_ble_eq_true rfl)⟩ ?_
            rintro _ _ ⟨rfl, rfl⟩
            refine a_if_eq 35 20 dX11_one_17 rfl (by decide) (fun c_17 => absurd c_17 (by rw [if_pos v1]; decide)) (fun c_17 => ?_)
            refine a_iload_n 21 dX11_one_20 rfl rfl ?_
            refine a_callS ok_X11_isDigit ln_X11_138 is_X11_isDigit rfl 24 dX11_one_21 rfl (k_X11_isDigit _) rfl rfl ⟨(Nat.le_of_ble_eq_true rfl), (Nat.le_of_ble_eq_true rfl)⟩ (Nat.le_of_ble_eq_true rfl) ⟨(Nat.le_of_ble_eq_true rfl), (Nat.le_of_ble_eq_true rfl)⟩ ?_
            rintro _ _ ⟨rfl, rfl⟩
            refine a_if_eq 35 27 dX11_one_24 rfl (by decide) (fun c_24 => absurd c_24 (by rw [if_pos v2]; decide)) (fun c_24 => ?_)
            refine a_iload 29 dX11_one_27 rfl rfl ?_
            refine a_callS ok_X11_isDigit ln_X11_138 is_X11_isDigit rfl 32 dX11_one_29 rfl (k_X11_isDigit _) rfl rfl ⟨(Nat.le_of_ble_eq_true rfl), (Nat.le_of_ble_eq_true rfl)⟩ (Nat.le_of_ble_eq_true rfl) ⟨(Nat.le_of_ble_eq_true rfl), (Nat.le_of_ble_eq_true rfl)⟩ ?_
            rintro _ _ ⟨rfl, rfl⟩
            refine a_if_ne 38 35 dX11_one_32 rfl (by decide) (fun c_32 => ?_) (fun c_32 => absurd c_32 (by rw [if_pos v3]; decide))
            refine a_aload_n 39 dX11_one_38 rfl rfl ?_
            refine a_get fd_X11_34 rfl 42 dX11_one_39 rfl (by repeat (first | assumption | (refine rg_ne (by first | decide | omega) ?_) | apply rg_eq | refine rg_fr (by assumption) (by first | decide | (simp; omega)) ?_)) rfl ?_
            refine a_iload_n 43 dX11_one_42 rfl rfl ?_
            refine a_callV ok_X1_sitterOf ln_X11_116 in_X1_sitterOf rfl 46 dX11_one_43 rfl (k_X1_sitterOf h7 h9 (nI x)) (by repeat (first | assumption | (refine rg_ne (by first | decide | omega) ?_) | apply rg_eq | refine rg_fr (by assumption) (by first | decide | (simp; omega)) ?_)) rfl rfl rfl ⟨(Nat.le_of_ble_eq_true rfl), (Nat.le_of_ble_eq_true rfl)⟩ (Nat.le_of_ble_eq_true rfl) ⟨(Nat.le_of_ble_eq_true rfl), (Nat.le_of_ble_eq_true rfl)⟩ ?_
            rintro _ _ ⟨rfl, rfl⟩
            rw [es, hk0]
            refine a_bipush (-9) 48 dX11_one_46 rfl (by decide) ?_
            refine a_icmp_eq 54 51 dX11_one_48 rfl (by decide) (fun c_48 => ?_) (fun c_48 => absurd rfl c_48)
            refine a_aload_n 55 dX11_one_54 rfl rfl ?_
            refine a_get fd_X11_98 rfl 58 dX11_one_55 rfl (by repeat (first | assumption | (refine rg_ne (by first | decide | omega) ?_) | apply rg_eq | refine rg_fr (by assumption) (by first | decide | (simp; omega)) ?_)) rfl ?_
            refine a_istore 60 dX11_one_58 rfl (by decide) ?_
            refine a_iload 62 dX11_one_60 rfl rfl ?_
            refine a_if_lt 75 65 dX11_one_62 rfl (by decide) (fun c_62 => absurd c_62 (nI_pos (by omega))) (fun c_62 => ?_)
            refine a_iload 67 dX11_one_65 rfl rfl ?_
            refine a_aload_n 68 dX11_one_67 rfl rfl ?_
            refine a_get fd_X11_40 rfl 71 dX11_one_68 rfl (by repeat (first | assumption | (refine rg_ne (by first | decide | omega) ?_) | apply rg_eq | refine rg_fr (by assumption) (by first | decide | (simp; omega)) ?_)) rfl ?_
            refine a_alen_3 72 dX11_one_71 rfl (by repeat (first | assumption | (refine rg_ne (by first | decide | omega) ?_) | apply rg_eq | refine rg_fr (by assumption) (by first | decide | (simp; omega)) ?_)) ?_
            refine a_icmp_lt 78 75 dX11_one_72 rfl (by decide) (fun c_72 => ?_) (fun c_72 => absurd (nI_lt (b := 12) hmlt (by decide)) c_72)
            refine a_iload_n 79 dX11_one_78 rfl rfl ?_
            refine a_iload 81 dX11_one_79 rfl rfl ?_
            refine a_iload_n 82 dX11_one_81 rfl rfl ?_
            refine a_iload 84 dX11_one_82 rfl rfl ?_
            refine a_callS ok_X11_newcomer ln_X11_141 is_X11_newcomer rfl 87 dX11_one_84 rfl (k_X11_newcomer_7 _ _ _) rfl rfl ⟨(Nat.le_of_ble_eq_true rfl), (Nat.le_of_ble_eq_true rfl)⟩ (Nat.le_of_ble_eq_true rfl) ⟨(Nat.le_of_ble_eq_true rfl), (Nat.le_of_ble_eq_true rfl)⟩ ?_
            rintro h1 _ ⟨rfl, hnew, hkp, hl1⟩
            have g0 := kp_get hkp (fun w => by cases w) hy
            have g7 := kp_get hkp (fun w => by cases w) h7
            have g9 := kp_get hkp (fun w => by cases w) h9
            have g12 := kp_get hkp (fun w => by cases w) hp
            have hfin := fun h4 e4 => one_fin (k := 0) (e := x) (s := s) (i := i) (L := L) (f := fc) o q hlen hkp hl1 hmlt hx32 hk0 h9 hs hp hp2 hnew (h4 := h4) e4
            refine a_astore 89 dX11_one_87 rfl (by decide) ?_
            refine a_aload 91 dX11_one_89 rfl rfl ?_
            refine a_iload_n 92 dX11_one_91 rfl rfl ?_
            refine a_put fd_X11_145_X7 cl_X7 rfl 95 dX11_one_92 rfl (by repeat (first | assumption | (refine rg_ne (by first | decide | omega) ?_) | apply rg_eq | refine rg_fr (by assumption) (by first | decide | (simp; omega)) ?_)) (Nat.le_of_ble_eq_true rfl) rfl rfl rfl ?_
            refine a_aload_n 96 dX11_one_95 rfl rfl ?_
            refine a_get fd_X11_40 rfl 99 dX11_one_96 rfl (by repeat (first | assumption | (refine rg_ne (by first | decide | omega) ?_) | apply rg_eq | refine rg_fr (by assumption) (by first | decide | (simp; omega)) ?_)) rfl ?_
            refine a_iload 101 dX11_one_99 rfl rfl ?_
            refine a_aload 103 dX11_one_101 rfl rfl ?_
            refine a_aastore_3 rfl (Or.inl rfl) 104 dX11_one_103 rfl (by repeat (first | assumption | (refine rg_ne (by first | decide | omega) ?_) | apply rg_eq | refine rg_fr (by assumption) (by first | decide | (simp; omega)) ?_)) (by repeat (first | assumption | (refine rg_ne (by first | decide | omega) ?_) | apply rg_eq | refine rg_fr (by assumption) (by first | decide | (simp; omega)) ?_)) vm ?_
            refine a_aload_n 105 dX11_one_104 rfl rfl ?_
            refine a_get fd_X11_34 rfl 108 dX11_one_105 rfl (by repeat (first | assumption | (refine rg_ne (by first | decide | omega) ?_) | apply rg_eq | refine rg_fr (by assumption) (by first | decide | (simp; omega)) ?_)) rfl ?_
            refine a_iload_n 109 dX11_one_108 rfl rfl ?_
            refine a_iload 111 dX11_one_109 rfl rfl ?_
            refine a_callV ok_X1_seatOne ln_X11_148 in_X1_seatOne rfl 114 dX11_one_111 rfl (k_X1_seatOne (by exact rg_ne (by decide) (rg_ne (by omega) g7)) (by exact rg_ne (by decide) (rg_ne (by omega) g9)) (nI x) (nI T.m) vx) (by repeat (first | assumption | (refine rg_ne (by first | decide | omega) ?_) | apply rg_eq | refine rg_fr (by assumption) (by first | decide | (simp; omega)) ?_)) rfl rfl rfl ⟨(Nat.le_of_ble_eq_true rfl), (Nat.le_of_ble_eq_true rfl)⟩ (Nat.le_of_ble_eq_true rfl) ⟨(Nat.le_of_ble_eq_true rfl), (Nat.le_of_ble_eq_true rfl)⟩ ?_
            rintro _ _ ⟨rfl, rfl⟩
            refine a_aload_n 115 dX11_one_114 rfl rfl ?_
            refine a_iload 117 dX11_one_115 rfl rfl ?_
            refine a_iconst (1) 118 dX11_one_117 rfl (by decide) ?_
            refine a_iadd 119 dX11_one_118 rfl ?_
            refine a_put fd_X11_98 cl_X11 rfl 122 dX11_one_119 rfl (by repeat (first | assumption | (refine rg_ne (by first | decide | omega) ?_) | apply rg_eq | refine rg_fr (by assumption) (by first | decide | (simp; omega)) ?_)) (Nat.le_of_ble_eq_true rfl) rfl rfl rfl ?_
            refine a_iload 124 dX11_one_122 rfl rfl ?_
            exact a_ireturn dX11_one_124 rfl rfl (Nat.le_of_ble_eq_true rfl) (Nat.le_of_ble_eq_true rfl) ⟨by rw [ea], by rw [et]; exact (hfin _ rfl).1, (hfin _ rfl).2⟩
          · skip
            refine rM_start (by decide) (Nat.le_of_ble_eq_true rfl) ?_
            refine a_aload_n 1 dX11_one_0 rfl rfl ?_
            refine a_get fd_X11_34 rfl 4 dX11_one_1 rfl (by repeat (first | assumption | (refine rg_ne (by first | decide | omega) ?_) | apply rg_eq | refine rg_fr (by assumption) (by first | decide | (simp; omega)) ?_)) rfl ?_
            refine a_iload_n 5 dX11_one_4 rfl rfl ?_
            refine a_callV ok_X1_isSeat ln_X11_108 in_X1_isSeat rfl 8 dX11_one_5 rfl (c_seat q.1 (nI x)) (by repeat (first | assumption | (refine rg_ne (by first | decide | omega) ?_) | apply rg_eq | refine rg_fr (by assumption) (by first | decide | (simp; omega)) ?_)) rfl rfl rfl ⟨(Nat.le_of_ble_eq_true rfl), (Nat.le_of_ble_eq_true rfl)⟩ (Nat.le_of_ble_eq_true rfl) ⟨(Nat.le_of_ble_eq_true rfl), (Nat.le_of_ble_eq_true rfl)⟩ ?_
            rintro _ _ ⟨rfl, rfl⟩
            refine a_if_ne 13 11 dX11_one_8 rfl (by decide) (fun c_8 => ?_) (fun c_8 => absurd c_8 (by rw [if_pos (oT_yes hx (by omega))]; decide))
            refine a_iload_n 14 dX11_one_13 rfl rfl ?_
            refine a_callS ok_X11_isKind ln_X11_135 is_X11_isKind rfl 17 dX11_one_14 rfl (k_X11_isKind _) rfl rfl ⟨(Nat.le_of_ble_eq_true rfl), (Nat.le_of_ble_eq_true rfl)⟩ (Nat.le_of_ble_eq_true rfl) ⟨(Nat.le_of_ble_eq_true rfl), (Nat.le_of_ble_eq_true rfl)⟩ ?_
            rintro _ _ ⟨rfl, rfl⟩
            refine a_if_eq 35 20 dX11_one_17 rfl (by decide) (fun c_17 => absurd c_17 (by rw [if_pos v1]; decide)) (fun c_17 => ?_)
            refine a_iload_n 21 dX11_one_20 rfl rfl ?_
            refine a_callS ok_X11_isDigit ln_X11_138 is_X11_isDigit rfl 24 dX11_one_21 rfl (k_X11_isDigit _) rfl rfl ⟨(Nat.le_of_ble_eq_true rfl), (Nat.le_of_ble_eq_true rfl)⟩ (Nat.le_of_ble_eq_true rfl) ⟨(Nat.le_of_ble_eq_true rfl), (Nat.le_of_ble_eq_true rfl)⟩ ?_
            rintro _ _ ⟨rfl, rfl⟩
            refine a_if_eq 35 27 dX11_one_24 rfl (by decide) (fun c_24 => absurd c_24 (by rw [if_pos v2]; decide)) (fun c_24 => ?_)
            refine a_iload 29 dX11_one_27 rfl rfl ?_
            refine a_callS ok_X11_isDigit ln_X11_138 is_X11_isDigit rfl 32 dX11_one_29 rfl (k_X11_isDigit _) rfl rfl ⟨(Nat.le_of_ble_eq_true rfl), (Nat.le_of_ble_eq_true rfl)⟩ (Nat.le_of_ble_eq_true rfl) ⟨(Nat.le_of_ble_eq_true rfl), (Nat.le_of_ble_eq_true rfl)⟩ ?_
            rintro _ _ ⟨rfl, rfl⟩
            refine a_if_ne 38 35 dX11_one_32 rfl (by decide) (fun c_32 => ?_) (fun c_32 => absurd c_32 (by rw [if_pos v3]; decide))
            refine a_aload_n 39 dX11_one_38 rfl rfl ?_
            refine a_get fd_X11_34 rfl 42 dX11_one_39 rfl (by repeat (first | assumption | (refine rg_ne (by first | decide | omega) ?_) | apply rg_eq | refine rg_fr (by assumption) (by first | decide | (simp; omega)) ?_)) rfl ?_
            refine a_iload_n 43 dX11_one_42 rfl rfl ?_
            refine a_callV ok_X1_sitterOf ln_X11_116 in_X1_sitterOf rfl 46 dX11_one_43 rfl (k_X1_sitterOf h7 h9 (nI x)) (by repeat (first | assumption | (refine rg_ne (by first | decide | omega) ?_) | apply rg_eq | refine rg_fr (by assumption) (by first | decide | (simp; omega)) ?_)) rfl rfl rfl ⟨(Nat.le_of_ble_eq_true rfl), (Nat.le_of_ble_eq_true rfl)⟩ (Nat.le_of_ble_eq_true rfl) ⟨(Nat.le_of_ble_eq_true rfl), (Nat.le_of_ble_eq_true rfl)⟩ ?_
            rintro _ _ ⟨rfl, rfl⟩
            rw [es, hk0]
            refine a_bipush (-9) 48 dX11_one_46 rfl (by decide) ?_
            refine a_icmp_eq 54 51 dX11_one_48 rfl (by decide) (fun c_48 => ?_) (fun c_48 => absurd rfl c_48)
            refine a_aload_n 55 dX11_one_54 rfl rfl ?_
            refine a_get fd_X11_98 rfl 58 dX11_one_55 rfl (by repeat (first | assumption | (refine rg_ne (by first | decide | omega) ?_) | apply rg_eq | refine rg_fr (by assumption) (by first | decide | (simp; omega)) ?_)) rfl ?_
            refine a_istore 60 dX11_one_58 rfl (by decide) ?_
            refine a_iload 62 dX11_one_60 rfl rfl ?_
            refine a_if_lt 75 65 dX11_one_62 rfl (by decide) (fun c_62 => absurd c_62 (nI_pos (by omega))) (fun c_62 => ?_)
            refine a_iload 67 dX11_one_65 rfl rfl ?_
            refine a_aload_n 68 dX11_one_67 rfl rfl ?_
            refine a_get fd_X11_40 rfl 71 dX11_one_68 rfl (by repeat (first | assumption | (refine rg_ne (by first | decide | omega) ?_) | apply rg_eq | refine rg_fr (by assumption) (by first | decide | (simp; omega)) ?_)) rfl ?_
            refine a_alen_3 72 dX11_one_71 rfl (by repeat (first | assumption | (refine rg_ne (by first | decide | omega) ?_) | apply rg_eq | refine rg_fr (by assumption) (by first | decide | (simp; omega)) ?_)) ?_
            refine a_icmp_lt 78 75 dX11_one_72 rfl (by decide) (fun c_72 => ?_) (fun c_72 => absurd (nI_lt (b := 12) hmlt (by decide)) c_72)
            refine a_iload_n 79 dX11_one_78 rfl rfl ?_
            refine a_iload 81 dX11_one_79 rfl rfl ?_
            refine a_iload_n 82 dX11_one_81 rfl rfl ?_
            refine a_iload 84 dX11_one_82 rfl rfl ?_
            refine a_callS ok_X11_newcomer ln_X11_141 is_X11_newcomer rfl 87 dX11_one_84 rfl (k_X11_newcomer_3 _ _ _) rfl rfl ⟨(Nat.le_of_ble_eq_true rfl), (Nat.le_of_ble_eq_true rfl)⟩ (Nat.le_of_ble_eq_true rfl) ⟨(Nat.le_of_ble_eq_true rfl), (Nat.le_of_ble_eq_true rfl)⟩ ?_
            rintro h1 _ ⟨rfl, hnew, hkp, hl1⟩
            have g0 := kp_get hkp (fun w => by cases w) hy
            have g7 := kp_get hkp (fun w => by cases w) h7
            have g9 := kp_get hkp (fun w => by cases w) h9
            have g12 := kp_get hkp (fun w => by cases w) hp
            have hfin := fun h4 e4 => one_fin (k := 1) (e := x) (s := s) (i := i) (L := L) (f := fc) o q hlen hkp hl1 hmlt hx32 hk0 h9 hs hp hp2 hnew (h4 := h4) e4
            refine a_astore 89 dX11_one_87 rfl (by decide) ?_
            refine a_aload 91 dX11_one_89 rfl rfl ?_
            refine a_iload_n 92 dX11_one_91 rfl rfl ?_
            refine a_put fd_X11_145_X3 cl_X3 rfl 95 dX11_one_92 rfl (by repeat (first | assumption | (refine rg_ne (by first | decide | omega) ?_) | apply rg_eq | refine rg_fr (by assumption) (by first | decide | (simp; omega)) ?_)) (Nat.le_of_ble_eq_true rfl) rfl rfl rfl ?_
            refine a_aload_n 96 dX11_one_95 rfl rfl ?_
            refine a_get fd_X11_40 rfl 99 dX11_one_96 rfl (by repeat (first | assumption | (refine rg_ne (by first | decide | omega) ?_) | apply rg_eq | refine rg_fr (by assumption) (by first | decide | (simp; omega)) ?_)) rfl ?_
            refine a_iload 101 dX11_one_99 rfl rfl ?_
            refine a_aload 103 dX11_one_101 rfl rfl ?_
            refine a_aastore_3 rfl (Or.inr ca_3) 104 dX11_one_103 rfl (by repeat (first | assumption | (refine rg_ne (by first | decide | omega) ?_) | apply rg_eq | refine rg_fr (by assumption) (by first | decide | (simp; omega)) ?_)) (by repeat (first | assumption | (refine rg_ne (by first | decide | omega) ?_) | apply rg_eq | refine rg_fr (by assumption) (by first | decide | (simp; omega)) ?_)) vm ?_
            refine a_aload_n 105 dX11_one_104 rfl rfl ?_
            refine a_get fd_X11_34 rfl 108 dX11_one_105 rfl (by repeat (first | assumption | (refine rg_ne (by first | decide | omega) ?_) | apply rg_eq | refine rg_fr (by assumption) (by first | decide | (simp; omega)) ?_)) rfl ?_
            refine a_iload_n 109 dX11_one_108 rfl rfl ?_
            refine a_iload 111 dX11_one_109 rfl rfl ?_
            refine a_callV ok_X1_seatOne ln_X11_148 in_X1_seatOne rfl 114 dX11_one_111 rfl (k_X1_seatOne (by exact rg_ne (by decide) (rg_ne (by omega) g7)) (by exact rg_ne (by decide) (rg_ne (by omega) g9)) (nI x) (nI T.m) vx) (by repeat (first | assumption | (refine rg_ne (by first | decide | omega) ?_) | apply rg_eq | refine rg_fr (by assumption) (by first | decide | (simp; omega)) ?_)) rfl rfl rfl ⟨(Nat.le_of_ble_eq_true rfl), (Nat.le_of_ble_eq_true rfl)⟩ (Nat.le_of_ble_eq_true rfl) ⟨(Nat.le_of_ble_eq_true rfl), (Nat.le_of_ble_eq_true rfl)⟩ ?_
            rintro _ _ ⟨rfl, rfl⟩
            refine a_aload_n 115 dX11_one_114 rfl rfl ?_
            refine a_iload 117 dX11_one_115 rfl rfl ?_
            refine a_iconst (1) 118 dX11_one_117 rfl (by decide) ?_
            refine a_iadd 119 dX11_one_118 rfl ?_
            refine a_put fd_X11_98 cl_X11 rfl 122 dX11_one_119 rfl (by repeat (first | assumption | (refine rg_ne (by first | decide | omega) ?_) | apply rg_eq | refine rg_fr (by assumption) (by first | decide | (simp; omega)) ?_)) (Nat.le_of_ble_eq_true rfl) rfl rfl rfl ?_
            refine a_iload 124 dX11_one_122 rfl rfl ?_
            exact a_ireturn dX11_one_124 rfl rfl (Nat.le_of_ble_eq_true rfl) (Nat.le_of_ble_eq_true rfl) ⟨by rw [ea], by rw [et]; exact (hfin _ rfl).1, (hfin _ rfl).2⟩
          · skip
            refine rM_start (by decide) (Nat.le_of_ble_eq_true rfl) ?_
            refine a_aload_n 1 dX11_one_0 rfl rfl ?_
            refine a_get fd_X11_34 rfl 4 dX11_one_1 rfl (by repeat (first | assumption | (refine rg_ne (by first | decide | omega) ?_) | apply rg_eq | refine rg_fr (by assumption) (by first | decide | (simp; omega)) ?_)) rfl ?_
            refine a_iload_n 5 dX11_one_4 rfl rfl ?_
            refine a_callV ok_X1_isSeat ln_X11_108 in_X1_isSeat rfl 8 dX11_one_5 rfl (c_seat q.1 (nI x)) (by repeat (first | assumption | (refine rg_ne (by first | decide | omega) ?_) | apply rg_eq | refine rg_fr (by assumption) (by first | decide | (simp; omega)) ?_)) rfl rfl rfl ⟨(Nat.le_of_ble_eq_true rfl), (Nat.le_of_ble_eq_true rfl)⟩ (Nat.le_of_ble_eq_true rfl) ⟨(Nat.le_of_ble_eq_true rfl), (Nat.le_of_ble_eq_true rfl)⟩ ?_
            rintro _ _ ⟨rfl, rfl⟩
            refine a_if_ne 13 11 dX11_one_8 rfl (by decide) (fun c_8 => ?_) (fun c_8 => absurd c_8 (by rw [if_pos (oT_yes hx (by omega))]; decide))
            refine a_iload_n 14 dX11_one_13 rfl rfl ?_
            refine a_callS ok_X11_isKind ln_X11_135 is_X11_isKind rfl 17 dX11_one_14 rfl (k_X11_isKind _) rfl rfl ⟨(Nat.le_of_ble_eq_true rfl), (Nat.le_of_ble_eq_true rfl)⟩ (Nat.le_of_ble_eq_true rfl) ⟨(Nat.le_of_ble_eq_true rfl), (Nat.le_of_ble_eq_true rfl)⟩ ?_
            rintro _ _ ⟨rfl, rfl⟩
            refine a_if_eq 35 20 dX11_one_17 rfl (by decide) (fun c_17 => absurd c_17 (by rw [if_pos v1]; decide)) (fun c_17 => ?_)
            refine a_iload_n 21 dX11_one_20 rfl rfl ?_
            refine a_callS ok_X11_isDigit ln_X11_138 is_X11_isDigit rfl 24 dX11_one_21 rfl (k_X11_isDigit _) rfl rfl ⟨(Nat.le_of_ble_eq_true rfl), (Nat.le_of_ble_eq_true rfl)⟩ (Nat.le_of_ble_eq_true rfl) ⟨(Nat.le_of_ble_eq_true rfl), (Nat.le_of_ble_eq_true rfl)⟩ ?_
            rintro _ _ ⟨rfl, rfl⟩
            refine a_if_eq 35 27 dX11_one_24 rfl (by decide) (fun c_24 => absurd c_24 (by rw [if_pos v2]; decide)) (fun c_24 => ?_)
            refine a_iload 29 dX11_one_27 rfl rfl ?_
            refine a_callS ok_X11_isDigit ln_X11_138 is_X11_isDigit rfl 32 dX11_one_29 rfl (k_X11_isDigit _) rfl rfl ⟨(Nat.le_of_ble_eq_true rfl), (Nat.le_of_ble_eq_true rfl)⟩ (Nat.le_of_ble_eq_true rfl) ⟨(Nat.le_of_ble_eq_true rfl), (Nat.le_of_ble_eq_true rfl)⟩ ?_
            rintro _ _ ⟨rfl, rfl⟩
            refine a_if_ne 38 35 dX11_one_32 rfl (by decide) (fun c_32 => ?_) (fun c_32 => absurd c_32 (by rw [if_pos v3]; decide))
            refine a_aload_n 39 dX11_one_38 rfl rfl ?_
            refine a_get fd_X11_34 rfl 42 dX11_one_39 rfl (by repeat (first | assumption | (refine rg_ne (by first | decide | omega) ?_) | apply rg_eq | refine rg_fr (by assumption) (by first | decide | (simp; omega)) ?_)) rfl ?_
            refine a_iload_n 43 dX11_one_42 rfl rfl ?_
            refine a_callV ok_X1_sitterOf ln_X11_116 in_X1_sitterOf rfl 46 dX11_one_43 rfl (k_X1_sitterOf h7 h9 (nI x)) (by repeat (first | assumption | (refine rg_ne (by first | decide | omega) ?_) | apply rg_eq | refine rg_fr (by assumption) (by first | decide | (simp; omega)) ?_)) rfl rfl rfl ⟨(Nat.le_of_ble_eq_true rfl), (Nat.le_of_ble_eq_true rfl)⟩ (Nat.le_of_ble_eq_true rfl) ⟨(Nat.le_of_ble_eq_true rfl), (Nat.le_of_ble_eq_true rfl)⟩ ?_
            rintro _ _ ⟨rfl, rfl⟩
            rw [es, hk0]
            refine a_bipush (-9) 48 dX11_one_46 rfl (by decide) ?_
            refine a_icmp_eq 54 51 dX11_one_48 rfl (by decide) (fun c_48 => ?_) (fun c_48 => absurd rfl c_48)
            refine a_aload_n 55 dX11_one_54 rfl rfl ?_
            refine a_get fd_X11_98 rfl 58 dX11_one_55 rfl (by repeat (first | assumption | (refine rg_ne (by first | decide | omega) ?_) | apply rg_eq | refine rg_fr (by assumption) (by first | decide | (simp; omega)) ?_)) rfl ?_
            refine a_istore 60 dX11_one_58 rfl (by decide) ?_
            refine a_iload 62 dX11_one_60 rfl rfl ?_
            refine a_if_lt 75 65 dX11_one_62 rfl (by decide) (fun c_62 => absurd c_62 (nI_pos (by omega))) (fun c_62 => ?_)
            refine a_iload 67 dX11_one_65 rfl rfl ?_
            refine a_aload_n 68 dX11_one_67 rfl rfl ?_
            refine a_get fd_X11_40 rfl 71 dX11_one_68 rfl (by repeat (first | assumption | (refine rg_ne (by first | decide | omega) ?_) | apply rg_eq | refine rg_fr (by assumption) (by first | decide | (simp; omega)) ?_)) rfl ?_
            refine a_alen_3 72 dX11_one_71 rfl (by repeat (first | assumption | (refine rg_ne (by first | decide | omega) ?_) | apply rg_eq | refine rg_fr (by assumption) (by first | decide | (simp; omega)) ?_)) ?_
            refine a_icmp_lt 78 75 dX11_one_72 rfl (by decide) (fun c_72 => ?_) (fun c_72 => absurd (nI_lt (b := 12) hmlt (by decide)) c_72)
            refine a_iload_n 79 dX11_one_78 rfl rfl ?_
            refine a_iload 81 dX11_one_79 rfl rfl ?_
            refine a_iload_n 82 dX11_one_81 rfl rfl ?_
            refine a_iload 84 dX11_one_82 rfl rfl ?_
            refine a_callS ok_X11_newcomer ln_X11_141 is_X11_newcomer rfl 87 dX11_one_84 rfl (k_X11_newcomer_4 _ _ _) rfl rfl ⟨(Nat.le_of_ble_eq_true rfl), (Nat.le_of_ble_eq_true rfl)⟩ (Nat.le_of_ble_eq_true rfl) ⟨(Nat.le_of_ble_eq_true rfl), (Nat.le_of_ble_eq_true rfl)⟩ ?_
            rintro h1 _ ⟨rfl, hnew, hkp, hl1⟩
            have g0 := kp_get hkp (fun w => by cases w) hy
            have g7 := kp_get hkp (fun w => by cases w) h7
            have g9 := kp_get hkp (fun w => by cases w) h9
            have g12 := kp_get hkp (fun w => by cases w) hp
            have hfin := fun h4 e4 => one_fin (k := 2) (e := x) (s := s) (i := i) (L := L) (f := fc) o q hlen hkp hl1 hmlt hx32 hk0 h9 hs hp hp2 hnew (h4 := h4) e4
            refine a_astore 89 dX11_one_87 rfl (by decide) ?_
            refine a_aload 91 dX11_one_89 rfl rfl ?_
            refine a_iload_n 92 dX11_one_91 rfl rfl ?_
            refine a_put fd_X11_145_X4 cl_X4 rfl 95 dX11_one_92 rfl (by repeat (first | assumption | (refine rg_ne (by first | decide | omega) ?_) | apply rg_eq | refine rg_fr (by assumption) (by first | decide | (simp; omega)) ?_)) (Nat.le_of_ble_eq_true rfl) rfl rfl rfl ?_
            refine a_aload_n 96 dX11_one_95 rfl rfl ?_
            refine a_get fd_X11_40 rfl 99 dX11_one_96 rfl (by repeat (first | assumption | (refine rg_ne (by first | decide | omega) ?_) | apply rg_eq | refine rg_fr (by assumption) (by first | decide | (simp; omega)) ?_)) rfl ?_
            refine a_iload 101 dX11_one_99 rfl rfl ?_
            refine a_aload 103 dX11_one_101 rfl rfl ?_
            refine a_aastore_3 rfl (Or.inr ca_4) 104 dX11_one_103 rfl (by repeat (first | assumption | (refine rg_ne (by first | decide | omega) ?_) | apply rg_eq | refine rg_fr (by assumption) (by first | decide | (simp; omega)) ?_)) (by repeat (first | assumption | (refine rg_ne (by first | decide | omega) ?_) | apply rg_eq | refine rg_fr (by assumption) (by first | decide | (simp; omega)) ?_)) vm ?_
            refine a_aload_n 105 dX11_one_104 rfl rfl ?_
            refine a_get fd_X11_34 rfl 108 dX11_one_105 rfl (by repeat (first | assumption | (refine rg_ne (by first | decide | omega) ?_) | apply rg_eq | refine rg_fr (by assumption) (by first | decide | (simp; omega)) ?_)) rfl ?_
            refine a_iload_n 109 dX11_one_108 rfl rfl ?_
            refine a_iload 111 dX11_one_109 rfl rfl ?_
            refine a_callV ok_X1_seatOne ln_X11_148 in_X1_seatOne rfl 114 dX11_one_111 rfl (k_X1_seatOne (by exact rg_ne (by decide) (rg_ne (by omega) g7)) (by exact rg_ne (by decide) (rg_ne (by omega) g9)) (nI x) (nI T.m) vx) (by repeat (first | assumption | (refine rg_ne (by first | decide | omega) ?_) | apply rg_eq | refine rg_fr (by assumption) (by first | decide | (simp; omega)) ?_)) rfl rfl rfl ⟨(Nat.le_of_ble_eq_true rfl), (Nat.le_of_ble_eq_true rfl)⟩ (Nat.le_of_ble_eq_true rfl) ⟨(Nat.le_of_ble_eq_true rfl), (Nat.le_of_ble_eq_true rfl)⟩ ?_
            rintro _ _ ⟨rfl, rfl⟩
            refine a_aload_n 115 dX11_one_114 rfl rfl ?_
            refine a_iload 117 dX11_one_115 rfl rfl ?_
            refine a_iconst (1) 118 dX11_one_117 rfl (by decide) ?_
            refine a_iadd 119 dX11_one_118 rfl ?_
            refine a_put fd_X11_98 cl_X11 rfl 122 dX11_one_119 rfl (by repeat (first | assumption | (refine rg_ne (by first | decide | omega) ?_) | apply rg_eq | refine rg_fr (by assumption) (by first | decide | (simp; omega)) ?_)) (Nat.le_of_ble_eq_true rfl) rfl rfl rfl ?_
            refine a_iload 124 dX11_one_122 rfl rfl ?_
            exact a_ireturn dX11_one_124 rfl rfl (Nat.le_of_ble_eq_true rfl) (Nat.le_of_ble_eq_true rfl) ⟨by rw [ea], by rw [et]; exact (hfin _ rfl).1, (hfin _ rfl).2⟩
    · have ea : aOne T k (nI x) s i = -2 := by
        unfold aOne
        rw [e]
        dsimp only
        split
        · rename_i h1 h2 h3
          exact absurd ⟨isK_3.mpr (oT_some h1), isD_10.mpr (oT_some h2), isD_10.mpr (oT_some h3)⟩ hv
        · rfl
      have et : tOne T k (nI x) s i h.length = T := by
        unfold tOne
        rw [e]
        dsimp only
        split
        · rename_i h1 h2 h3
          exact absurd ⟨isK_3.mpr (oT_some h1), isD_10.mpr (oT_some h2), isD_10.mpr (oT_some h3)⟩ hv
        · rfl
      refine rM_start (by decide) (Nat.le_of_ble_eq_true rfl) ?_
      refine a_aload_n 1 dX11_one_0 rfl rfl ?_
      refine a_get fd_X11_34 rfl 4 dX11_one_1 rfl (by repeat (first | assumption | (refine rg_ne (by first | decide | omega) ?_) | apply rg_eq | refine rg_fr (by assumption) (by first | decide | (simp; omega)) ?_)) rfl ?_
      refine a_iload_n 5 dX11_one_4 rfl rfl ?_
      refine a_callV ok_X1_isSeat ln_X11_108 in_X1_isSeat rfl 8 dX11_one_5 rfl (c_seat q.1 (nI x)) (by repeat (first | assumption | (refine rg_ne (by first | decide | omega) ?_) | apply rg_eq | refine rg_fr (by assumption) (by first | decide | (simp; omega)) ?_)) rfl rfl rfl ⟨(Nat.le_of_ble_eq_true rfl), (Nat.le_of_ble_eq_true rfl)⟩ (Nat.le_of_ble_eq_true rfl) ⟨(Nat.le_of_ble_eq_true rfl), (Nat.le_of_ble_eq_true rfl)⟩ ?_
      rintro _ _ ⟨rfl, rfl⟩
      refine a_if_ne 13 11 dX11_one_8 rfl (by decide) (fun c_8 => ?_) (fun c_8 => absurd c_8 (by rw [if_pos (oT_yes hx (by omega))]; decide))
      refine a_iload_n 14 dX11_one_13 rfl rfl ?_
      refine a_callS ok_X11_isKind ln_X11_135 is_X11_isKind rfl 17 dX11_one_14 rfl (k_X11_isKind _) rfl rfl ⟨(Nat.le_of_ble_eq_true rfl), (Nat.le_of_ble_eq_true rfl)⟩ (Nat.le_of_ble_eq_true rfl) ⟨(Nat.le_of_ble_eq_true rfl), (Nat.le_of_ble_eq_true rfl)⟩ ?_
      rintro _ _ ⟨rfl, rfl⟩
      refine a_if_eq 35 20 dX11_one_17 rfl (by decide) (fun c_17 => ?_) (fun c_17 => ?_)
      · refine a_bipush (-2) 37 dX11_one_35 rfl (by decide) ?_
        exact a_ireturn dX11_one_37 rfl rfl (Nat.le_of_ble_eq_true rfl) (Nat.le_of_ble_eq_true rfl) ⟨by rw [ea], by rw [et]; exact q, fun _ _ _ _ => rfl⟩
      · refine a_iload_n 21 dX11_one_20 rfl rfl ?_
        refine a_callS ok_X11_isDigit ln_X11_138 is_X11_isDigit rfl 24 dX11_one_21 rfl (k_X11_isDigit _) rfl rfl ⟨(Nat.le_of_ble_eq_true rfl), (Nat.le_of_ble_eq_true rfl)⟩ (Nat.le_of_ble_eq_true rfl) ⟨(Nat.le_of_ble_eq_true rfl), (Nat.le_of_ble_eq_true rfl)⟩ ?_
        rintro _ _ ⟨rfl, rfl⟩
        refine a_if_eq 35 27 dX11_one_24 rfl (by decide) (fun c_24 => ?_) (fun c_24 => ?_)
        · refine a_bipush (-2) 37 dX11_one_35 rfl (by decide) ?_
          exact a_ireturn dX11_one_37 rfl rfl (Nat.le_of_ble_eq_true rfl) (Nat.le_of_ble_eq_true rfl) ⟨by rw [ea], by rw [et]; exact q, fun _ _ _ _ => rfl⟩
        · refine a_iload 29 dX11_one_27 rfl rfl ?_
          refine a_callS ok_X11_isDigit ln_X11_138 is_X11_isDigit rfl 32 dX11_one_29 rfl (k_X11_isDigit _) rfl rfl ⟨(Nat.le_of_ble_eq_true rfl), (Nat.le_of_ble_eq_true rfl)⟩ (Nat.le_of_ble_eq_true rfl) ⟨(Nat.le_of_ble_eq_true rfl), (Nat.le_of_ble_eq_true rfl)⟩ ?_
          rintro _ _ ⟨rfl, rfl⟩
          refine a_if_ne 38 35 dX11_one_32 rfl (by decide) (fun c_32 => absurd (if_neg (fun w => hv ⟨Decidable.not_not.mp (fun u => c_17 (if_neg u)), Decidable.not_not.mp (fun u => c_24 (if_neg u)), w⟩)) c_32) (fun c_32 => ?_)
          refine a_bipush (-2) 37 dX11_one_35 rfl (by decide) ?_
          exact a_ireturn dX11_one_37 rfl rfl (Nat.le_of_ble_eq_true rfl) (Nat.le_of_ble_eq_true rfl) ⟨by rw [ea], by rw [et]; exact q, fun _ _ _ _ => rfl⟩
end CONEW
