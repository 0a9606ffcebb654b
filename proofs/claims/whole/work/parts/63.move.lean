/-! THE CLASS: move, one -/
/-- the model's cells stay -/
def kC (h h' : rH) : Prop := ∀ k, k < h.length → 38 ≤ k → k ≤ 60 → h'[k]? = h[k]?
theorem kC_kp {h h' : rH} {S : List Nat} (q : kp h h' S) (hS : ∀ k ∈ S, k < 38 ∨ 60 < k) : kC h h' := fun k hk h1 h2 => q k hk (fun z => by have := hS k z; omega)
theorem cAll.kp {G : rG} {h h' : rH} {T : Tn} (q : cAll G h T) (hf : kp h h' []) : cAll G h' T := ⟨q.1.kp hf (fun k hk => by cases hk), q.2.1.kp hf (fun k hk => by cases hk), q.2.2.kp hf (fun k hk => by cases hk)⟩
theorem firstN_cg {p p' : Nat → Bool} : ∀ {r q : Nat}, (∀ i, q ≤ i → i < q + r → p i = p' i) → firstN p r q = firstN p' r q
  | 0, _, _ => rfl
  | r + 1, q, h => by
    rw [firstN, firstN, h q (by omega) (by omega), firstN_cg (r := r) (q := q + 1) (fun i h1 h2 => h i (by omega) (by omega))]
theorem sit_none {T : Tn} {k : Nat} (h : sitT T k = none) {y : Nat} (hy : y < T.m) : ¬ T.se y = k := of_decide_eq_false (firstN_no h y (Nat.zero_le _) (by omega))
theorem sit_move {T : Tn} (o : T.ok) {x k : Nat} (hx : x < T.m) (hk : sitT T k = none) {s : Nat → Int32} (hs : ∀ c, c < T.n → s c = noI (sitT T c)) : ∀ c, c < T.n → upd (upd s (T.se x) (-9)) k (nI x) c = noI (firstN (fun y => decide ((if y = x then k else T.se y) = c)) T.m 0) := by
  intro c hc
  by_cases e : c = k
  · subst e
    rw [pk_us, firstN_some (k := x) (by omega) (by omega) (decide_eq_true (by rw [if_pos rfl])) (fun i h1 h2 => decide_eq_false (by rw [if_neg (by omega)]; exact sit_none hk (by omega)))]
  · rw [pk_un e]
    by_cases e2 : c = T.se x
    · subst e2
      rw [pk_us, firstN_none (fun i h1 h2 => decide_eq_false (by
        by_cases e3 : i = x
        · rw [if_pos e3]; exact fun z => e z.symm
        · rw [if_neg e3]; exact fun z => e3 (o.sei (by omega) hx z)))]
    · rw [pk_un e2, hs c hc]
      congr 1
      refine firstN_cg (fun i h1 h2 => decide_eq_decide.mpr ?_)
      by_cases e3 : i = x
      · subst e3
        rw [if_pos rfl]
        exact ⟨fun z => absurd z.symm e2, fun z => absurd z.symm e⟩
      · rw [if_neg e3]
theorem sit_one {T : Tn} {e : Nat} (hk : sitT T e = none) {s : Nat → Int32} (hs : ∀ c, c < T.n → s c = noI (sitT T c)) : ∀ c, c < T.n → upd s e (nI T.m) c = noI (firstN (fun y => decide ((if y = T.m then e else T.se y) = c)) (T.m + 1) 0) := by
  intro c hc
  by_cases h1 : c = e
  · subst h1
    rw [pk_us, firstN_some (k := T.m) (by omega) (by omega) (decide_eq_true (by rw [if_pos rfl])) (fun i h1 h2 => decide_eq_false (by rw [if_neg (by omega)]; exact sit_none hk (by omega)))]
  · rw [pk_un h1, hs c hc]
    congr 1
    cases hF : sitT T c with
    | none => exact (firstN_none (fun i h2 h3 => decide_eq_false (by
        by_cases e3 : i = T.m
        · rw [if_pos e3]; exact fun z => h1 z.symm
        · rw [if_neg e3]; exact sit_none hF (by omega)))).symm
    | some x =>
      have hsp := firstN_spec hF
      exact (firstN_some (k := x) (by omega) (by omega) (decide_eq_true (by rw [if_neg (by omega)]; exact of_decide_eq_true hsp.2.2.1)) (fun i h2 h3 => decide_eq_false (by rw [if_neg (by omega)]; exact of_decide_eq_false (hsp.2.2.2 i h2 h3)))).symm
theorem one_cells {G : rG} {h h' : rH} {T : Tn} {O : OneT} {s' : Nat → Int32} {S : List Nat} (q : cAll G h T) (h0 : h'[0]? = some (ytc G (nI O.1) (nI T.nl) T.fa T.tr)) (h9 : h'[9]? = some (.inl (gA G 0, 32, .inl s'))) (hs : ∀ c, c < T.n → s' c = noI (firstN (fun x => decide (O.2.2.1 x = c)) O.1 0)) (hO : cOne G h' O) (hL : cLaw G h' T.2.2.1) (hk : kp h h' S) (hS : ∀ k ∈ S, k = 0 ∨ k = 9 ∨ k = 12 ∨ 61 ≤ k) : cAll G h' (setO T O) := by
  obtain ⟨⟨-, t1, t2, ⟨f, s, L, ⟨g7, g8, g9, g10, g11⟩, hf, -, hl⟩, h4, h5, h6, h7⟩, q2, q3⟩ := q
  have hn : ∀ k, k < 61 → k ≠ 0 → k ≠ 9 → k ≠ 12 → k ∉ S := fun k a b c d hk => by have := hS k hk; omega
  have z := cTxt.kp ⟨t1, t2⟩ (kp_mono (S' := S) hk (fun _ h => h)) (fun k hk => by have := hS k hk; omega)
  exact ⟨⟨h0, z.1, z.2, ⟨f, s', L, ⟨kp_get hk (hn _ (by decide) (by decide) (by decide) (by decide)) g7, kp_get hk (hn _ (by decide) (by decide) (by decide) (by decide)) g8, h9, kp_get hk (hn _ (by decide) (by decide) (by decide) (by decide)) g10, kp_get hk (hn _ (by decide) (by decide) (by decide) (by decide)) g11⟩, hf, hs, hl⟩, hO, hL, h6.kp hk (fun k hk => by have := hS k hk; omega), h7.kp hk (fun k hk => by have := hS k hk; omega)⟩, q2.kp hk (fun k hk => by have := hS k hk; omega), q3.kp hk (fun k hk => by have := hS k hk; omega)⟩
section CMOVE
variable {l : Launch} {G : rG} {h : rH} {T : Tn}
theorem la_cells (q : cAt G h T) {z : Nat} (hz : z < T.nl) : ∃ cb f, 61 ≤ cb ∧ lawAtC G h (T.la z) cb f := by
  obtain ⟨p, h1, h2⟩ := q.2.2.2.2.2.1
  obtain ⟨-, -, cb, f, a, b, -⟩ := h2 z hz
  exact ⟨cb, f, a, b⟩
/-- a person's cell is no law's -/
theorem law_pa {h' : rH} {a : Nat} {v : va_E} {nu sl ki se : Int32} {ci : Nat} (q : cAt G h T) (ha : h[a]? = some (pc ci nu sl ki se)) (hci : isP ci) (hk : ∀ k, 61 ≤ k → k < h.length → k ≠ a → h'[k]? = h[k]?) (h13 : h'[13]? = h[13]?) : cLaw G h' T.2.2.1 := by
  obtain ⟨p, h1, h2⟩ := q.2.2.2.2.2.1
  refine ⟨p, h13.trans h1, fun z hz => ?_⟩
  obtain ⟨a1, a2, cb, f, a3, ⟨a4, a5⟩, a6⟩ := h2 z hz
  have n1 : T.la z ≠ a := by
    intro e
    rw [show T.2.2.1.2.2 z = a from e, ha] at a4
    simp only [pc, Option.some.injEq, Sum.inr.injEq, Prod.mk.injEq] at a4
    unfold isP at hci
    omega
  have n2 : cb ≠ a := by
    intro e
    rw [e, ha] at a5
    cases a5
  exact ⟨a1, a2, cb, f, a3, ⟨(hk _ a2 (List.getElem?_eq_some_iff.mp a4).1 n1).trans a4, (hk _ a3 (List.getElem?_eq_some_iff.mp a5).1 n2).trans a5⟩, a6⟩
set_option maxRecDepth 100000 in
set_option maxHeartbeats 400000 in
theorem c_move (q : cAll G h T) (o : T.ok) (c d : Int32) : rM l G 12 mX11_move 0 0 [.ref (gN G + 0), .int c, .int d] h (fun h' v => v = some (.int (aMove T c d)) ∧ cAll G h' (tMove T c d) ∧ kC h h') := by
  have hm := o.m12
  have hn := o.n32
  have hy := q.1.1
  obtain ⟨fc, s, L, h7, h8, h9, h10, h11, hfc, hs, hL⟩ := c_car q.1
  rcases oT_cases (n := T.m) (by omega) c with ⟨e, hc⟩ | ⟨x, hx, rfl, e⟩
  · have ea : aMove T c d = -1 := by unfold aMove; rw [e]
    have et : tMove T c d = T := by unfold tMove; rw [e]
    refine rM_start (by decide) (Nat.le_of_ble_eq_true rfl) ?_
    refine a_aload_n 1 dX11_move_0 rfl rfl ?_
    refine a_iload_n 2 dX11_move_1 rfl rfl ?_
    refine a_callV ok_X11_personAt ln_X11_152 in_X11_personAt rfl 5 dX11_move_2 rfl (c_personN q.1 hc) (by repeat (first | assumption | (refine rg_ne (by first | decide | omega) ?_) | apply rg_eq | refine rg_fr (by assumption) (by first | decide | (simp; omega)) ?_)) rfl rfl rfl ⟨(Nat.le_of_ble_eq_true rfl), (Nat.le_of_ble_eq_true rfl)⟩ (Nat.le_of_ble_eq_true rfl) ⟨(Nat.le_of_ble_eq_true rfl), (Nat.le_of_ble_eq_true rfl)⟩ ?_
    rintro _ _ ⟨rfl, rfl⟩
    refine a_astoreN_n 6 dX11_move_5 rfl (by decide) ?_
    refine a_aloadN_n 7 dX11_move_6 rfl rfl ?_
    refine a_ifnullN 21 dX11_move_7 (by decide) ?_
    refine a_iconst (-1) 22 dX11_move_21 rfl (by decide) ?_
    exact a_ireturn dX11_move_22 rfl rfl (Nat.le_of_ble_eq_true rfl) (Nat.le_of_ble_eq_true rfl) ⟨by rw [ea], by rw [et]; exact q, fun _ _ _ _ => rfl⟩
  · have hP := c_person (l := l) q.1 o hx
    rcases oT_cases (n := T.n) (Nat.lt_of_le_of_lt hn (by decide)) d with ⟨e2, hd⟩ | ⟨k, hk, rfl, e2⟩
    · have ea : aMove T (nI x) d = -1 := by unfold aMove; rw [e, e2]
      have et : tMove T (nI x) d = T := by unfold tMove; rw [e, e2]
      refine rM_start (by decide) (Nat.le_of_ble_eq_true rfl) ?_
      refine a_aload_n 1 dX11_move_0 rfl rfl ?_
      refine a_iload_n 2 dX11_move_1 rfl rfl ?_
      refine a_callV ok_X11_personAt ln_X11_152 in_X11_personAt rfl 5 dX11_move_2 rfl (hP) (by repeat (first | assumption | (refine rg_ne (by first | decide | omega) ?_) | apply rg_eq | refine rg_fr (by assumption) (by first | decide | (simp; omega)) ?_)) rfl rfl rfl ⟨(Nat.le_of_ble_eq_true rfl), (Nat.le_of_ble_eq_true rfl)⟩ (Nat.le_of_ble_eq_true rfl) ⟨(Nat.le_of_ble_eq_true rfl), (Nat.le_of_ble_eq_true rfl)⟩ ?_
      rintro _ _ ⟨rfl, rfl⟩
      refine a_astore_n 6 dX11_move_5 rfl (by decide) ?_
      refine a_aload_n 7 dX11_move_6 rfl rfl ?_
      refine a_ifnull 10 dX11_move_7 rfl ?_
      refine a_aload_n 11 dX11_move_10 rfl rfl ?_
      refine a_get fd_X11_34 rfl 14 dX11_move_11 rfl (by repeat (first | assumption | (refine rg_ne (by first | decide | omega) ?_) | apply rg_eq | refine rg_fr (by assumption) (by first | decide | (simp; omega)) ?_)) rfl ?_
      refine a_iload_n 15 dX11_move_14 rfl rfl ?_
      refine a_callV ok_X1_isSeat ln_X11_108 in_X1_isSeat rfl 18 dX11_move_15 rfl (c_seat q.1 d) (by repeat (first | assumption | (refine rg_ne (by first | decide | omega) ?_) | apply rg_eq | refine rg_fr (by assumption) (by first | decide | (simp; omega)) ?_)) rfl rfl rfl ⟨(Nat.le_of_ble_eq_true rfl), (Nat.le_of_ble_eq_true rfl)⟩ (Nat.le_of_ble_eq_true rfl) ⟨(Nat.le_of_ble_eq_true rfl), (Nat.le_of_ble_eq_true rfl)⟩ ?_
      rintro _ _ ⟨rfl, rfl⟩
      refine a_if_ne 23 21 dX11_move_18 rfl (by decide) (fun c_18 => absurd (if_neg hd) c_18) (fun c_18 => ?_)
      refine a_iconst (-1) 22 dX11_move_21 rfl (by decide) ?_
      exact a_ireturn dX11_move_22 rfl rfl (Nat.le_of_ble_eq_true rfl) (Nat.le_of_ble_eq_true rfl) ⟨by rw [ea], by rw [et]; exact q, fun _ _ _ _ => rfl⟩
    · have hk32 : k < 32 := Nat.lt_of_lt_of_le hk hn
      have ea : aMove T (nI x) (nI k) = if sitT T k = none then nI (T.se x) else -3 := by unfold aMove; rw [e, e2]
      have et : tMove T (nI x) (nI k) = if sitT T k = none then setO T (T.m, T.kd, (fun y => if y = x then k else T.se y), T.sl, T.ki, T.pa) else T := by unfold tMove; rw [e, e2]
      have es : (if 0 ≤ nI k ∧ nI k < 32 then s (nI k).toNatClampNeg else -9) = noI (sitT T k) := by rw [if_pos ⟨nI_pos' (by omega), nI_lt (b := 32) hk32 (by decide)⟩, nI_clamp (by omega), hs k hk]
      cases hk0 : sitT T k with
      | some y =>
        have hsp := firstN_spec hk0
        rw [hk0, if_neg (by intro z; cases z)] at ea et
        have hne : ¬ nI y = -9 := nI_ne9 (by omega)
        refine rM_start (by decide) (Nat.le_of_ble_eq_true rfl) ?_
        refine a_aload_n 1 dX11_move_0 rfl rfl ?_
        refine a_iload_n 2 dX11_move_1 rfl rfl ?_
        refine a_callV ok_X11_personAt ln_X11_152 in_X11_personAt rfl 5 dX11_move_2 rfl (hP) (by repeat (first | assumption | (refine rg_ne (by first | decide | omega) ?_) | apply rg_eq | refine rg_fr (by assumption) (by first | decide | (simp; omega)) ?_)) rfl rfl rfl ⟨(Nat.le_of_ble_eq_true rfl), (Nat.le_of_ble_eq_true rfl)⟩ (Nat.le_of_ble_eq_true rfl) ⟨(Nat.le_of_ble_eq_true rfl), (Nat.le_of_ble_eq_true rfl)⟩ ?_
        rintro _ _ ⟨rfl, rfl⟩
        refine a_astore_n 6 dX11_move_5 rfl (by decide) ?_
        refine a_aload_n 7 dX11_move_6 rfl rfl ?_
        refine a_ifnull 10 dX11_move_7 rfl ?_
        refine a_aload_n 11 dX11_move_10 rfl rfl ?_
        refine a_get fd_X11_34 rfl 14 dX11_move_11 rfl (by repeat (first | assumption | (refine rg_ne (by first | decide | omega) ?_) | apply rg_eq | refine rg_fr (by assumption) (by first | decide | (simp; omega)) ?_)) rfl ?_
        refine a_iload_n 15 dX11_move_14 rfl rfl ?_
        refine a_callV ok_X1_isSeat ln_X11_108 in_X1_isSeat rfl 18 dX11_move_15 rfl (c_seat q.1 (nI k)) (by repeat (first | assumption | (refine rg_ne (by first | decide | omega) ?_) | apply rg_eq | refine rg_fr (by assumption) (by first | decide | (simp; omega)) ?_)) rfl rfl rfl ⟨(Nat.le_of_ble_eq_true rfl), (Nat.le_of_ble_eq_true rfl)⟩ (Nat.le_of_ble_eq_true rfl) ⟨(Nat.le_of_ble_eq_true rfl), (Nat.le_of_ble_eq_true rfl)⟩ ?_
        rintro _ _ ⟨rfl, rfl⟩
        refine a_if_ne 23 21 dX11_move_18 rfl (by decide) (fun c_18 => ?_) (fun c_18 => absurd c_18 (by rw [if_pos (oT_yes hk (by omega))]; decide))
        refine a_aload_n 24 dX11_move_23 rfl rfl ?_
        refine a_get fd_X11_34 rfl 27 dX11_move_24 rfl (by repeat (first | assumption | (refine rg_ne (by first | decide | omega) ?_) | apply rg_eq | refine rg_fr (by assumption) (by first | decide | (simp; omega)) ?_)) rfl ?_
        refine a_iload_n 28 dX11_move_27 rfl rfl ?_
        refine a_callV ok_X1_sitterOf ln_X11_116 in_X1_sitterOf rfl 31 dX11_move_28 rfl (k_X1_sitterOf h7 h9 (nI k)) (by repeat (first | assumption | (refine rg_ne (by first | decide | omega) ?_) | apply rg_eq | refine rg_fr (by assumption) (by first | decide | (simp; omega)) ?_)) rfl rfl rfl ⟨(Nat.le_of_ble_eq_true rfl), (Nat.le_of_ble_eq_true rfl)⟩ (Nat.le_of_ble_eq_true rfl) ⟨(Nat.le_of_ble_eq_true rfl), (Nat.le_of_ble_eq_true rfl)⟩ ?_
        rintro _ _ ⟨rfl, rfl⟩
        rw [es, hk0]
        refine a_bipush (-9) 33 dX11_move_31 rfl (by decide) ?_
        refine a_icmp_eq 39 36 dX11_move_33 rfl (by decide) (fun c_33 => absurd c_33 hne) (fun c_33 => ?_)
        refine a_bipush (-3) 38 dX11_move_36 rfl (by decide) ?_
        exact a_ireturn dX11_move_38 rfl rfl (Nat.le_of_ble_eq_true rfl) (Nat.le_of_ble_eq_true rfl) ⟨by rw [ea], by rw [et]; exact q, fun _ _ _ _ => rfl⟩
      | none =>
        rw [hk0, if_pos rfl] at ea et
        have hs32 : T.se x < 32 := Nat.lt_of_lt_of_le (o.sen hx) hn
        have h61 := pa_61 q.1 hx
        have hpc := c_at q.1 hx
        have vs : vp_in (nI (T.se x)) 32 := vp_in_nI hs32 (by decide)
        have vk : vp_in (nI k) 32 := vp_in_nI hk32 (by decide)
        have hfin : ∀ ci, ciK (T.kd x) = ci → isP ci → cAll G (((h.set 9 (.inl (gA G 0, 32, .inl (upd s (nI (T.se x)).toNatClampNeg (-9))))).set 9 (.inl (gA G 0, 32, .inl (upd (upd s (nI (T.se x)).toNatClampNeg (-9)) (nI k).toNatClampNeg (nI x))))).set (T.pa x) (pc ci (nI x) (nI (T.sl x)) (nI (T.ki x)) (nI k))) (setO T (T.m, T.kd, (fun y => if y = x then k else T.se y), T.sl, T.ki, T.pa)) := by
          intro ci hci hP
          subst hci
          rw [nI_clamp (by omega), nI_clamp (by omega)]
          have hf : fr h (((h.set 9 (.inl (gA G 0, 32, .inl (upd s (T.se x) (-9))))).set 9 (.inl (gA G 0, 32, .inl (upd (upd s (T.se x) (-9)) k (nI x))))).set (T.pa x) (pc (ciK (T.kd x)) (nI x) (nI (T.sl x)) (nI (T.ki x)) (nI k))) [9, T.pa x] := fr_set (fr_set (fr_set (fr_refl _ _) (by simp)) (by simp)) (by simp)
          refine one_cells (S := [9, T.pa x]) q (rg_ne (by omega) (rg_ne (by decide) (rg_ne (by decide) hy))) (rg_ne (by omega) (rg_eq (rg_eq h9))) (sit_move o hx hk0 hs) ?_ (law_pa (v := pc 0 0 0 0 0) q.1 hpc hP (fun j h1 h2 h3 => hf.2 j (by simp; omega)) (hf.2 13 (by simp; omega))) (kp_fr hf) (fun j hj => by simp only [List.mem_cons, List.not_mem_nil, or_false] at hj; omega)
          obtain ⟨p, p1, p2⟩ := q.1.2.2.2.2.1
          refine ⟨p, rg_ne (by omega) (rg_ne (by decide) (rg_ne (by decide) p1)), fun y hy => ?_⟩
          obtain ⟨a1, a2, a3⟩ := p2 y hy
          refine ⟨a1, a2, ?_⟩
          by_cases eyx : y = x
          · subst eyx
            show _ = some (pc _ (nI y) _ _ (nI (if y = y then k else T.se y)))
            rw [if_pos rfl]
            exact rg_eq (rg_ne (by omega) (rg_ne (by omega) hpc))
          · show _ = some (pc _ (nI y) _ _ (nI (if y = x then k else T.se y)))
            rw [if_neg eyx]
            exact rg_ne (fun z => eyx ((pa_inj q.1 o hx hy).mp z).symm) (rg_ne (show 9 ≠ T.2.1.2.2.2.2.2 y by omega) (rg_ne (show 9 ≠ T.2.1.2.2.2.2.2 y by omega) a3))
        have hkC : ∀ ci, kC h (((h.set 9 (.inl (gA G 0, 32, .inl (upd s (nI (T.se x)).toNatClampNeg (-9))))).set 9 (.inl (gA G 0, 32, .inl (upd (upd s (nI (T.se x)).toNatClampNeg (-9)) (nI k).toNatClampNeg (nI x))))).set (T.pa x) (pc ci (nI x) (nI (T.sl x)) (nI (T.ki x)) (nI k))) := fun ci => kC_kp (S := [9, T.pa x]) (kp_fr (fr_set (fr_set (fr_set (fr_refl _ _) (by simp)) (by simp)) (by simp))) (fun j hj => by simp only [List.mem_cons, List.not_mem_nil, or_false] at hj; omega)
        rcases kd_cases o hx with e3 | e3 | e3
        · have hf3 := hfin 7 (by rw [e3]; rfl) (by unfold isP; decide)
          rw [e3] at hpc
          have hpc2 : h[T.pa x]? = some (pc 7 (nI x) (nI (T.sl x)) (nI (T.ki x)) (nI (T.se x))) := hpc
          refine rM_start (by decide) (Nat.le_of_ble_eq_true rfl) ?_
          refine a_aload_n 1 dX11_move_0 rfl rfl ?_
          refine a_iload_n 2 dX11_move_1 rfl rfl ?_
          refine a_callV ok_X11_personAt ln_X11_152 in_X11_personAt rfl 5 dX11_move_2 rfl (hP) (by repeat (first | assumption | (refine rg_ne (by first | decide | omega) ?_) | apply rg_eq | refine rg_fr (by assumption) (by first | decide | (simp; omega)) ?_)) rfl rfl rfl ⟨(Nat.le_of_ble_eq_true rfl), (Nat.le_of_ble_eq_true rfl)⟩ (Nat.le_of_ble_eq_true rfl) ⟨(Nat.le_of_ble_eq_true rfl), (Nat.le_of_ble_eq_true rfl)⟩ ?_
          rintro _ _ ⟨rfl, rfl⟩
          refine a_astore_n 6 dX11_move_5 rfl (by decide) ?_
          refine a_aload_n 7 dX11_move_6 rfl rfl ?_
          refine a_ifnull 10 dX11_move_7 rfl ?_
          refine a_aload_n 11 dX11_move_10 rfl rfl ?_
          refine a_get fd_X11_34 rfl 14 dX11_move_11 rfl (by repeat (first | assumption | (refine rg_ne (by first | decide | omega) ?_) | apply rg_eq | refine rg_fr (by assumption) (by first | decide | (simp; omega)) ?_)) rfl ?_
          refine a_iload_n 15 dX11_move_14 rfl rfl ?_
          refine a_callV ok_X1_isSeat ln_X11_108 in_X1_isSeat rfl 18 dX11_move_15 rfl (c_seat q.1 (nI k)) (by repeat (first | assumption | (refine rg_ne (by first | decide | omega) ?_) | apply rg_eq | refine rg_fr (by assumption) (by first | decide | (simp; omega)) ?_)) rfl rfl rfl ⟨(Nat.le_of_ble_eq_true rfl), (Nat.le_of_ble_eq_true rfl)⟩ (Nat.le_of_ble_eq_true rfl) ⟨(Nat.le_of_ble_eq_true rfl), (Nat.le_of_ble_eq_true rfl)⟩ ?_
          rintro _ _ ⟨rfl, rfl⟩
          refine a_if_ne 23 21 dX11_move_18 rfl (by decide) (fun c_18 => ?_) (fun c_18 => absurd c_18 (by rw [if_pos (oT_yes hk (by omega))]; decide))
          refine a_aload_n 24 dX11_move_23 rfl rfl ?_
          refine a_get fd_X11_34 rfl 27 dX11_move_24 rfl (by repeat (first | assumption | (refine rg_ne (by first | decide | omega) ?_) | apply rg_eq | refine rg_fr (by assumption) (by first | decide | (simp; omega)) ?_)) rfl ?_
          refine a_iload_n 28 dX11_move_27 rfl rfl ?_
          refine a_callV ok_X1_sitterOf ln_X11_116 in_X1_sitterOf rfl 31 dX11_move_28 rfl (k_X1_sitterOf h7 h9 (nI k)) (by repeat (first | assumption | (refine rg_ne (by first | decide | omega) ?_) | apply rg_eq | refine rg_fr (by assumption) (by first | decide | (simp; omega)) ?_)) rfl rfl rfl ⟨(Nat.le_of_ble_eq_true rfl), (Nat.le_of_ble_eq_true rfl)⟩ (Nat.le_of_ble_eq_true rfl) ⟨(Nat.le_of_ble_eq_true rfl), (Nat.le_of_ble_eq_true rfl)⟩ ?_
          rintro _ _ ⟨rfl, rfl⟩
          rw [es, hk0]
          refine a_bipush (-9) 33 dX11_move_31 rfl (by decide) ?_
          refine a_icmp_eq 39 36 dX11_move_33 rfl (by decide) (fun c_33 => ?_) (fun c_33 => absurd rfl c_33)
          refine a_aload_n 40 dX11_move_39 rfl rfl ?_
          refine a_getP fd_X11_145_X7 fd_X11_145_X3 fd_X11_145_X4 (ciK_P 0) rfl 43 dX11_move_40 rfl (by repeat (first | assumption | (refine rg_ne (by first | decide | omega) ?_) | apply rg_eq | refine rg_fr (by assumption) (by first | decide | (simp; omega)) ?_)) rfl ?_
          refine a_istore 45 dX11_move_43 rfl (by decide) ?_
          refine a_aload_n 46 dX11_move_45 rfl rfl ?_
          refine a_get fd_X11_34 rfl 49 dX11_move_46 rfl (by repeat (first | assumption | (refine rg_ne (by first | decide | omega) ?_) | apply rg_eq | refine rg_fr (by assumption) (by first | decide | (simp; omega)) ?_)) rfl ?_
          refine a_iload 51 dX11_move_49 rfl rfl ?_
          refine a_bipush (-9) 53 dX11_move_51 rfl (by decide) ?_
          refine a_callV ok_X1_seatOne ln_X11_148 in_X1_seatOne rfl 56 dX11_move_53 rfl (k_X1_seatOne h7 h9 (nI (T.se x)) (-9) vs) (by repeat (first | assumption | (refine rg_ne (by first | decide | omega) ?_) | apply rg_eq | refine rg_fr (by assumption) (by first | decide | (simp; omega)) ?_)) rfl rfl rfl ⟨(Nat.le_of_ble_eq_true rfl), (Nat.le_of_ble_eq_true rfl)⟩ (Nat.le_of_ble_eq_true rfl) ⟨(Nat.le_of_ble_eq_true rfl), (Nat.le_of_ble_eq_true rfl)⟩ ?_
          rintro _ _ ⟨rfl, rfl⟩
          refine a_aload_n 57 dX11_move_56 rfl rfl ?_
          refine a_get fd_X11_34 rfl 60 dX11_move_57 rfl (by repeat (first | assumption | (refine rg_ne (by first | decide | omega) ?_) | apply rg_eq | refine rg_fr (by assumption) (by first | decide | (simp; omega)) ?_)) rfl ?_
          refine a_iload_n 61 dX11_move_60 rfl rfl ?_
          refine a_iload_n 62 dX11_move_61 rfl rfl ?_
          refine a_callV ok_X1_seatOne ln_X11_148 in_X1_seatOne rfl 65 dX11_move_62 rfl (k_X1_seatOne (by exact rg_ne (by decide) h7) (by exact rg_eq h9) (nI k) (nI x) vk) (by repeat (first | assumption | (refine rg_ne (by first | decide | omega) ?_) | apply rg_eq | refine rg_fr (by assumption) (by first | decide | (simp; omega)) ?_)) rfl rfl rfl ⟨(Nat.le_of_ble_eq_true rfl), (Nat.le_of_ble_eq_true rfl)⟩ (Nat.le_of_ble_eq_true rfl) ⟨(Nat.le_of_ble_eq_true rfl), (Nat.le_of_ble_eq_true rfl)⟩ ?_
          rintro _ _ ⟨rfl, rfl⟩
          refine a_aload_n 66 dX11_move_65 rfl rfl ?_
          refine a_iload_n 67 dX11_move_66 rfl rfl ?_
          refine a_put fd_X11_145_X7 cl_X7 rfl 70 dX11_move_67 rfl (by repeat (first | assumption | (refine rg_ne (by first | decide | omega) ?_) | apply rg_eq | refine rg_fr (by assumption) (by first | decide | (simp; omega)) ?_)) (Nat.le_of_ble_eq_true rfl) rfl rfl rfl ?_
          refine a_iload 72 dX11_move_70 rfl rfl ?_
          exact a_ireturn dX11_move_72 rfl rfl (Nat.le_of_ble_eq_true rfl) (Nat.le_of_ble_eq_true rfl) ⟨by rw [ea], by rw [et]; exact hf3, hkC 7⟩
        · have hf3 := hfin 3 (by rw [e3]; rfl) (by unfold isP; decide)
          rw [e3] at hpc
          have hpc2 : h[T.pa x]? = some (pc 3 (nI x) (nI (T.sl x)) (nI (T.ki x)) (nI (T.se x))) := hpc
          refine rM_start (by decide) (Nat.le_of_ble_eq_true rfl) ?_
          refine a_aload_n 1 dX11_move_0 rfl rfl ?_
          refine a_iload_n 2 dX11_move_1 rfl rfl ?_
          refine a_callV ok_X11_personAt ln_X11_152 in_X11_personAt rfl 5 dX11_move_2 rfl (hP) (by repeat (first | assumption | (refine rg_ne (by first | decide | omega) ?_) | apply rg_eq | refine rg_fr (by assumption) (by first | decide | (simp; omega)) ?_)) rfl rfl rfl ⟨(Nat.le_of_ble_eq_true rfl), (Nat.le_of_ble_eq_true rfl)⟩ (Nat.le_of_ble_eq_true rfl) ⟨(Nat.le_of_ble_eq_true rfl), (Nat.le_of_ble_eq_true rfl)⟩ ?_
          rintro _ _ ⟨rfl, rfl⟩
          refine a_astore_n 6 dX11_move_5 rfl (by decide) ?_
          refine a_aload_n 7 dX11_move_6 rfl rfl ?_
          refine a_ifnull 10 dX11_move_7 rfl ?_
          refine a_aload_n 11 dX11_move_10 rfl rfl ?_
          refine a_get fd_X11_34 rfl 14 dX11_move_11 rfl (by repeat (first | assumption | (refine rg_ne (by first | decide | omega) ?_) | apply rg_eq | refine rg_fr (by assumption) (by first | decide | (simp; omega)) ?_)) rfl ?_
          refine a_iload_n 15 dX11_move_14 rfl rfl ?_
          refine a_callV ok_X1_isSeat ln_X11_108 in_X1_isSeat rfl 18 dX11_move_15 rfl (c_seat q.1 (nI k)) (by repeat (first | assumption | (refine rg_ne (by first | decide | omega) ?_) | apply rg_eq | refine rg_fr (by assumption) (by first | decide | (simp; omega)) ?_)) rfl rfl rfl ⟨(Nat.le_of_ble_eq_true rfl), (Nat.le_of_ble_eq_true rfl)⟩ (Nat.le_of_ble_eq_true rfl) ⟨(Nat.le_of_ble_eq_true rfl), (Nat.le_of_ble_eq_true rfl)⟩ ?_
          rintro _ _ ⟨rfl, rfl⟩
          refine a_if_ne 23 21 dX11_move_18 rfl (by decide) (fun c_18 => ?_) (fun c_18 => absurd c_18 (by rw [if_pos (oT_yes hk (by omega))]; decide))
          refine a_aload_n 24 dX11_move_23 rfl rfl ?_
          refine a_get fd_X11_34 rfl 27 dX11_move_24 rfl (by repeat (first | assumption | (refine rg_ne (by first | decide | omega) ?_) | apply rg_eq | refine rg_fr (by assumption) (by first | decide | (simp; omega)) ?_)) rfl ?_
          refine a_iload_n 28 dX11_move_27 rfl rfl ?_
          refine a_callV ok_X1_sitterOf ln_X11_116 in_X1_sitterOf rfl 31 dX11_move_28 rfl (k_X1_sitterOf h7 h9 (nI k)) (by repeat (first | assumption | (refine rg_ne (by first | decide | omega) ?_) | apply rg_eq | refine rg_fr (by assumption) (by first | decide | (simp; omega)) ?_)) rfl rfl rfl ⟨(Nat.le_of_ble_eq_true rfl), (Nat.le_of_ble_eq_true rfl)⟩ (Nat.le_of_ble_eq_true rfl) ⟨(Nat.le_of_ble_eq_true rfl), (Nat.le_of_ble_eq_true rfl)⟩ ?_
          rintro _ _ ⟨rfl, rfl⟩
          rw [es, hk0]
          refine a_bipush (-9) 33 dX11_move_31 rfl (by decide) ?_
          refine a_icmp_eq 39 36 dX11_move_33 rfl (by decide) (fun c_33 => ?_) (fun c_33 => absurd rfl c_33)
          refine a_aload_n 40 dX11_move_39 rfl rfl ?_
          refine a_getP fd_X11_145_X7 fd_X11_145_X3 fd_X11_145_X4 (ciK_P 1) rfl 43 dX11_move_40 rfl (by repeat (first | assumption | (refine rg_ne (by first | decide | omega) ?_) | apply rg_eq | refine rg_fr (by assumption) (by first | decide | (simp; omega)) ?_)) rfl ?_
          refine a_istore 45 dX11_move_43 rfl (by decide) ?_
          refine a_aload_n 46 dX11_move_45 rfl rfl ?_
          refine a_get fd_X11_34 rfl 49 dX11_move_46 rfl (by repeat (first | assumption | (refine rg_ne (by first | decide | omega) ?_) | apply rg_eq | refine rg_fr (by assumption) (by first | decide | (simp; omega)) ?_)) rfl ?_
          refine a_iload 51 dX11_move_49 rfl rfl ?_
          refine a_bipush (-9) 53 dX11_move_51 rfl (by decide) ?_
          refine a_callV ok_X1_seatOne ln_X11_148 in_X1_seatOne rfl 56 dX11_move_53 rfl (k_X1_seatOne h7 h9 (nI (T.se x)) (-9) vs) (by repeat (first | assumption | (refine rg_ne (by first | decide | omega) ?_) | apply rg_eq | refine rg_fr (by assumption) (by first | decide | (simp; omega)) ?_)) rfl rfl rfl ⟨(Nat.le_of_ble_eq_true rfl), (Nat.le_of_ble_eq_true rfl)⟩ (Nat.le_of_ble_eq_true rfl) ⟨(Nat.le_of_ble_eq_true rfl), (Nat.le_of_ble_eq_true rfl)⟩ ?_
          rintro _ _ ⟨rfl, rfl⟩
          refine a_aload_n 57 dX11_move_56 rfl rfl ?_
          refine a_get fd_X11_34 rfl 60 dX11_move_57 rfl (by repeat (first | assumption | (refine rg_ne (by first | decide | omega) ?_) | apply rg_eq | refine rg_fr (by assumption) (by first | decide | (simp; omega)) ?_)) rfl ?_
          refine a_iload_n 61 dX11_move_60 rfl rfl ?_
          refine a_iload_n 62 dX11_move_61 rfl rfl ?_
          refine a_callV ok_X1_seatOne ln_X11_148 in_X1_seatOne rfl 65 dX11_move_62 rfl (k_X1_seatOne (by exact rg_ne (by decide) h7) (by exact rg_eq h9) (nI k) (nI x) vk) (by repeat (first | assumption | (refine rg_ne (by first | decide | omega) ?_) | apply rg_eq | refine rg_fr (by assumption) (by first | decide | (simp; omega)) ?_)) rfl rfl rfl ⟨(Nat.le_of_ble_eq_true rfl), (Nat.le_of_ble_eq_true rfl)⟩ (Nat.le_of_ble_eq_true rfl) ⟨(Nat.le_of_ble_eq_true rfl), (Nat.le_of_ble_eq_true rfl)⟩ ?_
          rintro _ _ ⟨rfl, rfl⟩
          refine a_aload_n 66 dX11_move_65 rfl rfl ?_
          refine a_iload_n 67 dX11_move_66 rfl rfl ?_
          refine a_put fd_X11_145_X3 cl_X3 rfl 70 dX11_move_67 rfl (by repeat (first | assumption | (refine rg_ne (by first | decide | omega) ?_) | apply rg_eq | refine rg_fr (by assumption) (by first | decide | (simp; omega)) ?_)) (Nat.le_of_ble_eq_true rfl) rfl rfl rfl ?_
          refine a_iload 72 dX11_move_70 rfl rfl ?_
          exact a_ireturn dX11_move_72 rfl rfl (Nat.le_of_ble_eq_true rfl) (Nat.le_of_ble_eq_true rfl) ⟨by rw [ea], by rw [et]; exact hf3, hkC 3⟩
        · have hf3 := hfin 4 (by rw [e3]; rfl) (by unfold isP; decide)
          rw [e3] at hpc
          have hpc2 : h[T.pa x]? = some (pc 4 (nI x) (nI (T.sl x)) (nI (T.ki x)) (nI (T.se x))) := hpc
          refine rM_start (by decide) (Nat.le_of_ble_eq_true rfl) ?_
          refine a_aload_n 1 dX11_move_0 rfl rfl ?_
          refine a_iload_n 2 dX11_move_1 rfl rfl ?_
          refine a_callV ok_X11_personAt ln_X11_152 in_X11_personAt rfl 5 dX11_move_2 rfl (hP) (by repeat (first | assumption | (refine rg_ne (by first | decide | omega) ?_) | apply rg_eq | refine rg_fr (by assumption) (by first | decide | (simp; omega)) ?_)) rfl rfl rfl ⟨(Nat.le_of_ble_eq_true rfl), (Nat.le_of_ble_eq_true rfl)⟩ (Nat.le_of_ble_eq_true rfl) ⟨(Nat.le_of_ble_eq_true rfl), (Nat.le_of_ble_eq_true rfl)⟩ ?_
          rintro _ _ ⟨rfl, rfl⟩
          refine a_astore_n 6 dX11_move_5 rfl (by decide) ?_
          refine a_aload_n 7 dX11_move_6 rfl rfl ?_
          refine a_ifnull 10 dX11_move_7 rfl ?_
          refine a_aload_n 11 dX11_move_10 rfl rfl ?_
          refine a_get fd_X11_34 rfl 14 dX11_move_11 rfl (by repeat (first | assumption | (refine rg_ne (by first | decide | omega) ?_) | apply rg_eq | refine rg_fr (by assumption) (by first | decide | (simp; omega)) ?_)) rfl ?_
          refine a_iload_n 15 dX11_move_14 rfl rfl ?_
          refine a_callV ok_X1_isSeat ln_X11_108 in_X1_isSeat rfl 18 dX11_move_15 rfl (c_seat q.1 (nI k)) (by repeat (first | assumption | (refine rg_ne (by first | decide | omega) ?_) | apply rg_eq | refine rg_fr (by assumption) (by first | decide | (simp; omega)) ?_)) rfl rfl rfl ⟨(Nat.le_of_ble_eq_true rfl), (Nat.le_of_ble_eq_true rfl)⟩ (Nat.le_of_ble_eq_true rfl) ⟨(Nat.le_of_ble_eq_true rfl), (Nat.le_of_ble_eq_true rfl)⟩ ?_
          rintro _ _ ⟨rfl, rfl⟩
          refine a_if_ne 23 21 dX11_move_18 rfl (by decide) (fun c_18 => ?_) (fun c_18 => absurd c_18 (by rw [if_pos (oT_yes hk (by omega))]; decide))
          refine a_aload_n 24 dX11_move_23 rfl rfl ?_
          refine a_get fd_X11_34 rfl 27 dX11_move_24 rfl (by repeat (first | assumption | (refine rg_ne (by first | decide | omega) ?_) | apply rg_eq | refine rg_fr (by assumption) (by first | decide | (simp; omega)) ?_)) rfl ?_
          refine a_iload_n 28 dX11_move_27 rfl rfl ?_
          refine a_callV ok_X1_sitterOf ln_X11_116 in_X1_sitterOf rfl 31 dX11_move_28 rfl (k_X1_sitterOf h7 h9 (nI k)) (by repeat (first | assumption | (refine rg_ne (by first | decide | omega) ?_) | apply rg_eq | refine rg_fr (by assumption) (by first | decide | (simp; omega)) ?_)) rfl rfl rfl ⟨(Nat.le_of_ble_eq_true rfl), (Nat.le_of_ble_eq_true rfl)⟩ (Nat.le_of_ble_eq_true rfl) ⟨(Nat.le_of_ble_eq_true rfl), (Nat.le_of_ble_eq_true rfl)⟩ ?_
          rintro _ _ ⟨rfl, rfl⟩
          rw [es, hk0]
          refine a_bipush (-9) 33 dX11_move_31 rfl (by decide) ?_
          refine a_icmp_eq 39 36 dX11_move_33 rfl (by decide) (fun c_33 => ?_) (fun c_33 => absurd rfl c_33)
          refine a_aload_n 40 dX11_move_39 rfl rfl ?_
          refine a_getP fd_X11_145_X7 fd_X11_145_X3 fd_X11_145_X4 (ciK_P 2) rfl 43 dX11_move_40 rfl (by repeat (first | assumption | (refine rg_ne (by first | decide | omega) ?_) | apply rg_eq | refine rg_fr (by assumption) (by first | decide | (simp; omega)) ?_)) rfl ?_
          refine a_istore 45 dX11_move_43 rfl (by decide) ?_
          refine a_aload_n 46 dX11_move_45 rfl rfl ?_
          refine a_get fd_X11_34 rfl 49 dX11_move_46 rfl (by repeat (first | assumption | (refine rg_ne (by first | decide | omega) ?_) | apply rg_eq | refine rg_fr (by assumption) (by first | decide | (simp; omega)) ?_)) rfl ?_
          refine a_iload 51 dX11_move_49 rfl rfl ?_
          refine a_bipush (-9) 53 dX11_move_51 rfl (by decide) ?_
          refine a_callV ok_X1_seatOne ln_X11_148 in_X1_seatOne rfl 56 dX11_move_53 rfl (k_X1_seatOne h7 h9 (nI (T.se x)) (-9) vs) (by repeat (first | assumption | (refine rg_ne (by first | decide | omega) ?_) | apply rg_eq | refine rg_fr (by assumption) (by first | decide | (simp; omega)) ?_)) rfl rfl rfl ⟨(Nat.le_of_ble_eq_true rfl), (Nat.le_of_ble_eq_true rfl)⟩ (Nat.le_of_ble_eq_true rfl) ⟨(Nat.le_of_ble_eq_true rfl), (Nat.le_of_ble_eq_true rfl)⟩ ?_
          rintro _ _ ⟨rfl, rfl⟩
          refine a_aload_n 57 dX11_move_56 rfl rfl ?_
          refine a_get fd_X11_34 rfl 60 dX11_move_57 rfl (by repeat (first | assumption | (refine rg_ne (by first | decide | omega) ?_) | apply rg_eq | refine rg_fr (by assumption) (by first | decide | (simp; omega)) ?_)) rfl ?_
          refine a_iload_n 61 dX11_move_60 rfl rfl ?_
          refine a_iload_n 62 dX11_move_61 rfl rfl ?_
          refine a_callV ok_X1_seatOne ln_X11_148 in_X1_seatOne rfl 65 dX11_move_62 rfl (k_X1_seatOne (by exact rg_ne (by decide) h7) (by exact rg_eq h9) (nI k) (nI x) vk) (by repeat (first | assumption | (refine rg_ne (by first | decide | omega) ?_) | apply rg_eq | refine rg_fr (by assumption) (by first | decide | (simp; omega)) ?_)) rfl rfl rfl ⟨(Nat.le_of_ble_eq_true rfl), (Nat.le_of_ble_eq_true rfl)⟩ (Nat.le_of_ble_eq_true rfl) ⟨(Nat.le_of_ble_eq_true rfl), (Nat.le_of_ble_eq_true rfl)⟩ ?_
          rintro _ _ ⟨rfl, rfl⟩
          refine a_aload_n 66 dX11_move_65 rfl rfl ?_
          refine a_iload_n 67 dX11_move_66 rfl rfl ?_
          refine a_put fd_X11_145_X4 cl_X4 rfl 70 dX11_move_67 rfl (by repeat (first | assumption | (refine rg_ne (by first | decide | omega) ?_) | apply rg_eq | refine rg_fr (by assumption) (by first | decide | (simp; omega)) ?_)) (Nat.le_of_ble_eq_true rfl) rfl rfl rfl ?_
          refine a_iload 72 dX11_move_70 rfl rfl ?_
          exact a_ireturn dX11_move_72 rfl rfl (Nat.le_of_ble_eq_true rfl) (Nat.le_of_ble_eq_true rfl) ⟨by rw [ea], by rw [et]; exact hf3, hkC 4⟩
end CMOVE
