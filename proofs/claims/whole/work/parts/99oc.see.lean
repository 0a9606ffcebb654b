/-! WHO SEES WHOM, by the gaps on the way -/
section SEE
variable {C : CarT}
abbrev pthC (C : CarT) (w : Nat) (to : Option Nat) (r k : Nat) : Option (List Nat) := pth C.2.2.1 C.2.2.2.1 w to r k
theorem bes_C (o : okC C) {k w : Nat} (hk : k < C.2.2.2.1 * C.2.2.1) (hw : w < 4) : besN C.2.2.1 C.2.2.2.1 k w = C.1 k w := (o.2.2.2.2.2 k w hk hw).symm
theorem psN_pth (o : okC C) {w : Nat} (hw : w < 4) {to : Option Nat} : ∀ (r k : Nat), k < C.2.2.2.1 * C.2.2.1 → psN C w to r k = pthC C w to r k
  | 0, _, _ => rfl
  | r + 1, k, hk => by
    unfold pthC
    rw [psN, pth, bes_C o hk hw]
    by_cases e : to = some k
    · rw [if_pos e, if_pos e]
    · rw [if_neg e, if_neg e]
      cases hd : C.1 k w with
      | none => rfl
      | some d =>
        dsimp only
        rw [psN_pth o hw r d (nb_step o hk hw hd).1]
theorem pth_fuel (o : okC C) {w : Nat} (hw : w < 4) {to : Option Nat} : ∀ (r r2 k : Nat), k < C.2.2.2.1 * C.2.2.1 → muW (C.2.2.2.1 * C.2.2.1) w k < r → muW (C.2.2.2.1 * C.2.2.1) w k < r2 → pthC C w to r k = pthC C w to r2 k
  | 0, _, _, _, h, _ => absurd h (by omega)
  | _, 0, _, _, _, h => absurd h (by omega)
  | r + 1, r2 + 1, k, hk, h1, h2 => by
    unfold pthC
    rw [pth, pth, bes_C o hk hw]
    by_cases e : to = some k
    · rw [if_pos e, if_pos e]
    · rw [if_neg e, if_neg e]
      cases hd : C.1 k w with
      | none => rfl
      | some d =>
        have hs := nb_step o hk hw hd
        have ih := pth_fuel o hw (to := to) r r2 d hs.1 (by omega) (by omega)
        unfold pthC at ih
        dsimp only
        rw [ih]
abbrev freeL (C : CarT) (l : List Nat) : Prop := ∀ g, g ∈ l → C.2.1 g = 0
theorem rch_pth (o : okC C) {w : Nat} (hw : w < 4) {x : Nat} : ∀ (r k : Nat), k < C.2.2.2.1 * C.2.2.1 → k ≠ x → (rch C.1 (blC C) w r k x = true ↔ ∃ l, pthC C w (some x) (r + 1) k = some l ∧ freeL C l)
  | 0, k, hk, hne => by
    have hne2 : ¬ (some x : Option Nat) = some k := fun u => hne (Option.some.inj u).symm
    unfold pthC
    rw [pth, if_neg hne2]
    constructor
    · intro h; cases h
    · rintro ⟨l, hl, -⟩
      cases hd : besN C.2.2.1 C.2.2.2.1 k w with
      | none => rw [hd] at hl; dsimp only at hl; rw [if_neg (by intro u; cases u)] at hl; cases hl
      | some d => rw [hd] at hl; dsimp only at hl; rw [pth] at hl; cases hl
  | r + 1, k, hk, hne => by
    have hne2 : ¬ (some x : Option Nat) = some k := fun u => hne (Option.some.inj u).symm
    unfold pthC
    rw [pth, if_neg hne2, bes_C o hk hw]
    cases hd : C.1 k w with
    | none =>
      rw [rch_none hd]
      constructor
      · intro h; cases h
      · rintro ⟨l, hl, -⟩
        dsimp only at hl; rw [if_neg (by intro u; cases u)] at hl; cases hl
    | some d =>
      have hs := nb_step o hk hw hd
      rw [rch_some hd, blC_gp, Bool.and_eq_true, Bool.or_eq_true, decide_eq_true_eq, decide_eq_true_eq]
      dsimp only
      by_cases e : x = d
      · subst e
        rw [pth, if_pos rfl]
        constructor
        · rintro ⟨h, -⟩
          exact ⟨_, rfl, fun g hg => by rw [List.mem_singleton.mp hg]; exact h⟩
        · rintro ⟨l, hl, hf⟩
          cases hl
          exact ⟨hf _ (List.mem_singleton.mpr rfl), Or.inl rfl⟩
      · have ih := rch_pth o hw r d hs.1 (fun u => e u.symm)
        constructor
        · rintro ⟨h, h2 | h2⟩
          · exact absurd h2 e
          · obtain ⟨l, hl, hf⟩ := ih.mp h2
            unfold pthC at hl
            rw [hl]
            refine ⟨_, rfl, fun g hg => ?_⟩
            rcases List.mem_cons.mp hg with u | u
            · rw [u]; exact h
            · exact hf g u
        · rintro ⟨l, hl, hf⟩
          obtain ⟨l2, hl2, rfl⟩ := Option.map_eq_some_iff.mp hl
          exact ⟨hf _ List.mem_cons_self, Or.inr (ih.mpr ⟨l2, hl2, fun g hg => hf g (List.mem_cons_of_mem _ hg)⟩)⟩
theorem rch_32 (o : okC C) {w : Nat} (hw : w < 4) {k x : Nat} (hk : k < C.2.2.2.1 * C.2.2.1) (hne : k ≠ x) : rch C.1 (blC C) w 33 k x = true ↔ ∃ l, pthC C w (some x) 32 k = some l ∧ freeL C l := by
  have hm := mu33 o hk (w := w)
  rw [rch_pth o hw 33 k hk hne, pth_fuel o hw 34 32 k hk (by omega) hm]
theorem rce_pth (o : okC C) {w : Nat} (hw : w < 4) : ∀ (r k : Nat), k < C.2.2.2.1 * C.2.2.1 → muW (C.2.2.2.1 * C.2.2.1) w k < r → (C.1 (rce C.1 (blC C) w r k) w = none ↔ ∃ l, pthC C w none r k = some l ∧ freeL C l) ∧ (C.1 (rce C.1 (blC C) w r k) w = none → rce C.1 (blC C) w r k = gend C.2.2.1 C.2.2.2.1 w r k)
  | 0, _, _, h => absurd h (by omega)
  | r + 1, k, hk, h => by
    unfold pthC
    rw [pth, gend, if_neg (by intro u; cases u), bes_C o hk hw]
    cases hd : C.1 k w with
    | none =>
      rw [rce_none hd]
      exact ⟨⟨fun _ => ⟨[], if_pos rfl, fun g hg => absurd hg List.not_mem_nil⟩, fun _ => hd⟩, fun _ => rfl⟩
    | some d =>
      have hs := nb_step o hk hw hd
      have ih := rce_pth o hw r d hs.1 (by omega)
      rw [rce_some hd, blC_gp]
      dsimp only
      by_cases hb : C.2.1 (gpN C.2.2.1 k d) = 0
      · rw [if_pos hb]
        refine ⟨ih.1.trans ⟨?_, ?_⟩, ih.2⟩
        · rintro ⟨l, hl, hf⟩
          unfold pthC at hl
          rw [hl]
          refine ⟨_, rfl, fun g hg => ?_⟩
          rcases List.mem_cons.mp hg with u | u
          · rw [u]; exact hb
          · exact hf g u
        · rintro ⟨l, hl, hf⟩
          obtain ⟨l2, hl2, rfl⟩ := Option.map_eq_some_iff.mp hl
          exact ⟨l2, hl2, fun g hg => hf g (List.mem_cons_of_mem _ hg)⟩
      · rw [if_neg hb]
        refine ⟨⟨fun u => (by rw [hd] at u; cases u), ?_⟩, fun u => (by rw [hd] at u; cases u)⟩
        rintro ⟨l, hl, hf⟩
        obtain ⟨l2, hl2, rfl⟩ := Option.map_eq_some_iff.mp hl
        exact absurd (hf _ List.mem_cons_self) hb
theorem rce_32 (o : okC C) {w : Nat} (hw : w < 4) {k : Nat} (hk : k < C.2.2.2.1 * C.2.2.1) : (C.1 (rce C.1 (blC C) w 33 k) w = none ↔ ∃ l, pthC C w none 32 k = some l ∧ freeL C l) ∧ (C.1 (rce C.1 (blC C) w 33 k) w = none → rce C.1 (blC C) w 33 k = gend C.2.2.1 C.2.2.2.1 w 32 k) := by
  have hm := mu33 o hk (w := w)
  rw [(rch_fuel o hw (bl := blC C) (x := 0) 33 32 k hk (by omega) hm).2]
  exact rce_pth o hw 32 k hk hm
abbrev fcC (C : CarT) (c : Nat) : Nat := C.2.2.2.2.2 c
def geoC (C : CarT) (c x : Nat) : Bool := (pthC C (fcC C c) (some x) 32 c).isSome || (C.2.2.2.2.1 && decide (fcC C c < 2) && (pthC C (fcC C c) (some c) 32 x).isSome)
theorem glC_P (o : okC C) {c x : Nat} (hc : c < C.2.2.2.1 * C.2.2.1) (hx : x < C.2.2.2.1 * C.2.2.1) : glC C c x = glP C.2.2.1 C.2.2.2.1 (fcC C c) c x := by
  unfold glC glP
  rw [psN_pth o (o.2.2.1 c) 32 c hc, psN_pth o (o.2.2.1 c) 32 x hx]
  rfl
theorem see_gl (o : okC C) {c x : Nat} (hc : c < C.2.2.2.1 * C.2.2.1) (hx : x < C.2.2.2.1 * C.2.2.1) (hne : c ≠ x) : seeB C c x = true ↔ geoC C c x = true ∧ freeL C (glC C c x) := by
  have hf4 : fcC C c < 4 := o.2.2.1 c
  rw [glC_P o hc hx]
  unfold seeB geoC glP
  rw [Bool.or_eq_true, Bool.and_eq_true, Bool.and_eq_true, Bool.and_eq_true, Bool.or_eq_true, decide_eq_true_eq, decide_eq_true_eq, decide_eq_true_eq]
  have h1 := rch_32 o hf4 hc hne
  have h2 := rce_32 o hf4 hc
  have hD : fcC C c < 2 → geoD C.2.2.1 C.2.2.2.1 (fcC C c) c x = true := fun u => geo_D C.2.2.1 o.1 C.2.2.2.1 o.2.1 (fcC C c) u c hc x hx
  unfold geoD at hD
  unfold pthC at h1 h2 ⊢
  cases hP : pth C.2.2.1 C.2.2.2.1 (fcC C c) (some x) 32 c with
  | some l =>
    rw [hP] at h1 hD
    dsimp only at hD ⊢
    constructor
    · rintro (h | ⟨⟨⟨hm, hf2⟩, hend⟩, -⟩)
      · obtain ⟨l2, hl2, hfr⟩ := h1.mp h
        cases hl2
        exact ⟨rfl, hfr⟩
      · obtain ⟨l1, hl1, hfr⟩ := h2.1.mp hend
        have hd := hD hf2
        rw [hl1] at hd
        simp only [Bool.and_eq_true] at hd
        exact ⟨rfl, fun g hg => hfr g (subL_iff.mp hd.2 g hg)⟩
    · rintro ⟨-, hfr⟩
      exact Or.inl (h1.mpr ⟨l, rfl, hfr⟩)
  | none =>
    rw [hP] at h1 hD
    dsimp only at hD ⊢
    have hno : ¬ rch C.1 (blC C) (fcC C c) 33 c x = true := fun u => by obtain ⟨l, hl, -⟩ := h1.mp u; cases hl
    constructor
    · rintro (h | ⟨⟨⟨hm, hf2⟩, hend⟩, hor⟩)
      · exact absurd h hno
      · have hd := hD hf2
        rw [decide_eq_false hne, Bool.false_or] at hd
        simp only [Bool.and_eq_true, decide_eq_true_eq] at hd
        obtain ⟨⟨i1, i2⟩, hge, hd⟩ := hd
        have eg := h2.2 hend
        rcases hor with u | u
        · exact absurd u.symm hne
        · have hen : rce C.1 (blC C) (fcC C c) 33 c < C.2.2.2.1 * C.2.2.1 := rce_lt o hf4 33 c hc
          have h3 := rch_32 o (w := 1 - fcC C c) (by omega) hen (x := x) (by rw [eg]; exact hge)
          obtain ⟨l3, hl3, hfr3⟩ := h3.mp u
          unfold pthC at hl3
          rw [eg] at hl3
          by_cases z : gend C.2.2.1 C.2.2.2.1 (fcC C c) 32 x = gend C.2.2.1 C.2.2.2.1 (fcC C c) 32 c
          · rw [if_pos z, hl3] at hd
            simp only [Bool.and_eq_true] at hd
            obtain ⟨⟨j1, j2⟩, j3, j4⟩ := hd
            refine ⟨?_, fun g hg => hfr3 g (subL_iff.mp j4 g hg)⟩
            rw [hm, decide_eq_true hf2, j1]; rfl
          · rw [if_neg z, hl3] at hd
            simp at hd
    · rintro ⟨hg, hfr⟩
      simp only [Option.isSome_none, Bool.false_or, Bool.and_eq_true, decide_eq_true_eq] at hg
      obtain ⟨⟨hm, hf2⟩, hsome⟩ := hg
      have hd := hD hf2
      rw [decide_eq_false hne, Bool.false_or] at hd
      simp only [Bool.and_eq_true, decide_eq_true_eq] at hd
      obtain ⟨⟨i1, i2⟩, hge, hd⟩ := hd
      obtain ⟨l1, hl1⟩ := Option.isSome_iff_exists.mp i1
      by_cases z : gend C.2.2.1 C.2.2.2.1 (fcC C c) 32 x = gend C.2.2.1 C.2.2.2.1 (fcC C c) 32 c
      · rw [if_pos z, hl1] at hd
        simp only [Bool.and_eq_true] at hd
        obtain ⟨⟨j1, j2⟩, j3⟩ := hd
        have hend : C.1 (rce C.1 (blC C) (fcC C c) 33 c) (fcC C c) = none := h2.1.mpr ⟨l1, hl1, fun g hg => hfr g (subL_iff.mp j2 g hg)⟩
        have eg := h2.2 hend
        cases hl3 : pth C.2.2.1 C.2.2.2.1 (1 - fcC C c) (some x) 32 (gend C.2.2.1 C.2.2.2.1 (fcC C c) 32 c) with
        | none => rw [hl3] at j3; cases j3
        | some l3 =>
          rw [hl3] at j3
          simp only [Bool.and_eq_true] at j3
          have hen : rce C.1 (blC C) (fcC C c) 33 c < C.2.2.2.1 * C.2.2.1 := rce_lt o hf4 33 c hc
          have h3 := rch_32 o (w := 1 - fcC C c) (by omega) hen (x := x) (by rw [eg]; exact hge)
          refine Or.inr ⟨⟨⟨hm, hf2⟩, hend⟩, Or.inr (h3.mpr ⟨l3, ?_, fun g hg => hfr g (subL_iff.mp j3.1 g hg)⟩)⟩
          unfold pthC
          rw [eg]; exact hl3
      · rw [if_neg z, Bool.and_eq_true] at hd
        obtain ⟨y, hy⟩ := Option.isSome_iff_exists.mp hsome
        rw [hy] at hd
        simp at hd
theorem gl_span (o : okC C) {c x : Nat} (hc : c < C.2.2.2.1 * C.2.2.1) (hx : x < C.2.2.2.1 * C.2.2.1) (hg : geoC C c x = true) : ∃ k, gspan C.2.2.1 C.2.2.2.1 (fcC C c) k (glC C c x) := by
  have hf4 : fcC C c < 4 := o.2.2.1 c
  rw [glC_P o hc hx]
  unfold geoC at hg
  unfold pthC at hg
  unfold glP
  cases hP : pth C.2.2.1 C.2.2.2.1 (fcC C c) (some x) 32 c with
  | some l => exact ⟨c, pth_span o.1 o.2.1 hf4 32 c l hc hP⟩
  | none =>
    rw [hP] at hg
    simp only [Option.isSome_none, Bool.false_or, Bool.and_eq_true, decide_eq_true_eq] at hg
    have hD := geo_D C.2.2.1 o.1 C.2.2.2.1 o.2.1 (fcC C c) hg.1.2 c hc x hx
    unfold geoD at hD
    simp only [Bool.and_eq_true] at hD
    obtain ⟨l2, hl2⟩ := Option.isSome_iff_exists.mp hD.1.2
    rw [hl2]
    exact ⟨x, pth_span o.1 o.2.1 hf4 32 x l2 hx hl2⟩
end SEE
section GLOK
variable {T : Tn}
theorem sees_gl (o : T.ok) {x y : Nat} (hx : x < T.m) (hy : y < T.m) : T.sees x y ↔ (x ≠ y ∧ geoC T.1 (T.se x) (T.se y) = true ∧ freeL T.1 (glT T x y)) := by
  rw [sees_see o hx]
  constructor
  · rintro ⟨h1, h2⟩
    exact ⟨h1, (see_gl o.1 (o.sen hx) (o.sen hy) (fun u => h1 (o.sei hx hy u))).mp h2⟩
  · rintro ⟨h1, h2⟩
    exact ⟨h1, (see_gl o.1 (o.sen hx) (o.sen hy) (fun u => h1 (o.sei hx hy u))).mpr h2⟩
theorem gl_ok (o : T.ok) : glOk T := by
  intro x y hx hy hs
  obtain ⟨h1, h2, h3⟩ := (sees_gl o hx hy).mp hs
  obtain ⟨k, hk⟩ := gl_span o.1 (o.sen hx) (o.sen hy) h2
  obtain ⟨s1, s2⟩ := span_ok hk
  refine ⟨fun g hg => ⟨(s1 g hg).1, ?_⟩, s2⟩
  show (gapOk T.wi T.n g && decide (T.B g = 0)) = true
  rw [(s1 g hg).2, decide_eq_true (h3 g hg)]; rfl
end GLOK
