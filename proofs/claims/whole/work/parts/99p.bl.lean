/-! BLINDS: both sides tell the same -/
def relB (S0 num : Nat) (s : offS) (t : bst) : Prop := (s.2.1 = 0 ∧ t.1 < 0) ∨ (s.2.1 = nI num ∧ (∃ u, u ≤ 144000 ∧ t.1 = nI u) ∧ s.1 = nI S0 - t.1 ∧ s.2.2 0 = t.2.1 ∧ (1 < num → s.2.2 1 = t.2.2.1) ∧ (2 < num → s.2.2 2 = t.2.2.2))
theorem q_mv {a b w : Int32} (h : a = b - w) : w = b - a := by grind
theorem rel_le {S0 u v : Nat} (hS : S0 ≤ 144000) (hu : u ≤ 144000) (hv : v ≤ 144000) : nI S0 - nI v ≤ nI S0 - nI u ↔ u ≤ v := by
  rw [i_le, pk_sub_toInt (by omega) (by omega), pk_sub_toInt (by omega) (by omega)]
  omega
theorem rel_step {S0 num : Nat} (hS : S0 ≤ 144000) (hn : num = 1 ∨ num = 2 ∨ num = 3) {s : offS} {t : bst} (R : relB S0 num s t) {v : Nat} (hv : v ≤ 144000) {w : Int32} (hw : nI v = nI S0 - w) {a b c : Nat} {b' c' : Int32} (hb52 : b < 52) (hc52 : c < 52) (hb : if num = 1 then b' = -9 ∧ c' = -9 else b' = nI b ∧ (if num = 2 then c' = -9 else c' = nI c)) : relB S0 num (offF s w (nI a) b' c') (lookI (nI v) t a b c) := by
  have hw2 := q_mv hw
  have htk : (if b' = -9 then (1 : Int32) else if c' = -9 then 2 else 3) = nI num := by
    rcases hn with e | e | e <;> subst e
    · rw [if_pos rfl] at hb
      rw [if_pos hb.1]; rfl
    · rw [if_neg (by decide), if_pos rfl] at hb
      rw [if_neg (by rw [hb.1]; exact nI_ne9 (by omega)), if_pos hb.2]; rfl
    · rw [if_neg (by decide), if_neg (by decide)] at hb
      rw [if_neg (by rw [hb.1]; exact nI_ne9 (by omega)), if_neg (by rw [hb.2]; exact nI_ne9 (by omega))]; rfl
  have hnew : relB S0 num (w, (if b' = -9 then (1 : Int32) else if c' = -9 then 2 else 3), upd (upd (upd s.2.2 0 (nI a)) 1 b') 2 c') (nI v, nI a, nI b, nI c) := by
    refine Or.inr ⟨htk, ⟨v, hv, rfl⟩, hw2, ?_, fun h1 => ?_, fun h2 => ?_⟩
    · show upd (upd (upd s.2.2 0 (nI a)) 1 b') 2 c' 0 = nI a
      rw [pk_un (by decide), pk_un (by decide), pk_us]
    · show upd (upd (upd s.2.2 0 (nI a)) 1 b') 2 c' 1 = nI b
      rw [pk_un (by decide), pk_us]
      rw [if_neg (by omega)] at hb
      exact hb.1
    · show upd (upd (upd s.2.2 0 (nI a)) 1 b') 2 c' 2 = nI c
      rw [pk_us]
      rw [if_neg (by omega), if_neg (by omega)] at hb
      exact hb.2
  unfold offF lookI
  rcases R with ⟨r1, r2⟩ | ⟨r1, ⟨u, hu, r2⟩, r3, r4, r5, r6⟩
  · rw [if_neg (fun h => h.1 r1), if_pos (Or.inl r2)]
    exact hnew
  · have hne : s.2.1 ≠ 0 := by rw [r1]; exact nI_ne0 (by omega) (by omega)
    have hle : w ≤ s.1 ↔ u ≤ v := by rw [hw2, r3, r2]; exact rel_le hS hu hv
    have hlt : nI v < t.1 ↔ v < u := by rw [r2]; exact nI_ltI (by omega) (by omega)
    have hn0 : ¬ t.1 < 0 := by rw [r2]; exact nI_pos (by omega)
    by_cases z : u ≤ v
    · rw [if_pos ⟨hne, hle.mpr z⟩, if_neg (fun h => by rcases h with h | h; exact hn0 h; exact absurd (hlt.mp h) (by omega))]
      exact Or.inr ⟨r1, ⟨u, hu, r2⟩, r3, r4, r5, r6⟩
    · rw [if_neg (fun h => z (hle.mp h.2)), if_pos (Or.inr (hlt.mpr (by omega)))]
      exact hnew
section SREL
variable {S0 fr0 : Nat} {al bo li : Nat → Int32} {cost : Nat → Nat → Nat → Int32}
abbrev cosH (S0 : Nat) (x w : Int32) : Prop := ∃ v, v ≤ 144000 ∧ x = nI v ∧ nI v = nI S0 - w
theorem sr3_rel (hS : S0 ≤ 144000) (hfr : fr0 ≤ 52) (H3 : ∀ a b c, a < b → b < c → c < fr0 → cosH S0 (cost a b c) (v3P al bo li a b c)) {a b : Nat} (hab : a < b) : ∀ (r c : Nat) (s : offS) (t : bst), b < c → c + r ≤ fr0 → relB S0 3 s t → relB S0 3 (sr3 al bo li a b r c s) (lk3 cost a b r c t)
  | 0, _, _, _, _, _, h => h
  | r + 1, c, s, t, hbc, hc, h => by
    rw [sr3, lk3]
    obtain ⟨v, hv, e1, e2⟩ := H3 a b c hab hbc (by omega)
    refine sr3_rel hS hfr H3 hab r (c + 1) _ _ (by omega) (by omega) ?_
    rw [e1]
    exact rel_step hS (Or.inr (Or.inr rfl)) h hv e2 (by omega) (by omega) (by rw [if_neg (by decide), if_neg (by decide)]; exact ⟨rfl, rfl⟩)
theorem sr2_rel {num : Nat} (hnum : num = 2 ∨ num = 3) (hS : S0 ≤ 144000) (hfr : fr0 ≤ 52) (H2 : ∀ a b, a < b → b < fr0 → cosH S0 (cost a b b) (v2P al bo a b)) (H3 : ∀ a b c, a < b → b < c → c < fr0 → cosH S0 (cost a b c) (v3P al bo li a b c)) {a : Nat} : ∀ (r b : Nat) (s : offS) (t : bst), a < b → b + r ≤ fr0 → relB S0 num s t → relB S0 num (sr2 al bo li fr0 num a r b s) (lk2 cost num fr0 a r b t)
  | 0, _, _, _, _, _, h => h
  | r + 1, b, s, t, hab, hb, h => by
    rw [sr2, lk2]
    refine sr2_rel hnum hS hfr H2 H3 r (b + 1) _ _ (by omega) (by omega) ?_
    rcases hnum with e | e
    · subst e
      rw [if_pos rfl, if_neg (by decide), if_neg (by decide)]
      obtain ⟨v, hv, e1, e2⟩ := H2 a b hab (by omega)
      show relB S0 2 _ (lookI (cost a b b) t a b b)
      rw [e1]
      exact rel_step hS (Or.inr (Or.inl rfl)) h hv e2 (by omega) (by omega) (by rw [if_neg (by decide), if_pos rfl]; exact ⟨rfl, rfl⟩)
    · subst e
      rw [if_neg (by decide), if_pos (by decide), if_pos (by decide)]
      exact sr3_rel hS hfr H3 hab _ _ s t (by omega) (by omega) h
theorem sr1_rel {num : Nat} (hnum : num = 1 ∨ num = 2 ∨ num = 3) (hS : S0 ≤ 144000) (hfr : fr0 ≤ 52) (H1 : ∀ a, a < fr0 → cosH S0 (cost a a a) (al a)) (H2 : ∀ a b, a < b → b < fr0 → cosH S0 (cost a b b) (v2P al bo a b)) (H3 : ∀ a b c, a < b → b < c → c < fr0 → cosH S0 (cost a b c) (v3P al bo li a b c)) : ∀ (r a : Nat) (s : offS) (t : bst), a + r ≤ fr0 → relB S0 num s t → relB S0 num (sr1 al bo li fr0 num r a s) (lk1 cost num fr0 r a t)
  | 0, _, _, _, _, h => h
  | r + 1, a, s, t, ha, h => by
    rw [sr1, lk1]
    refine sr1_rel hnum hS hfr H1 H2 H3 r (a + 1) _ _ (by omega) ?_
    by_cases e : num = 1
    · subst e
      rw [if_pos rfl, if_neg (by decide), if_neg (by decide)]
      obtain ⟨v, hv, e1, e2⟩ := H1 a (by omega)
      show relB S0 1 _ (lookI (cost a a a) t a a a)
      rw [e1]
      exact rel_step hS (Or.inl rfl) h hv e2 (by omega) (by omega) (by rw [if_pos rfl]; exact ⟨rfl, rfl⟩)
    · rw [if_neg e, if_pos (by omega), if_pos (by omega)]
      exact sr2_rel (by omega) hS hfr H2 H3 _ _ s t (by omega) (by omega) h
end SREL
theorem gapV_D : ∀ wi, wi < 5 → ∀ g, g < 64 → (100 : Int32) * (nI g >>> (1 &&& 31)) + (if nI g &&& 1 = 0 then (nI g >>> (1 &&& 31)) + 1 else (nI g >>> (1 &&& 31)) + nI wi) = gapV wi g := by decide +kernel
section BLS
variable {T : Tn}
theorem gn_lt {C : CarT} {a b : Nat} (hab : a < b) (hb : b < rkP C 64) : gnF C a < gnF C b := by
  have h1 := gnF_ok (C := C) (p := a) (by omega)
  have h2 := gnF_ok hb
  rcases Nat.lt_or_ge (gnF C a) (gnF C b) with h | h
  · exact h
  · have : rkP C (gnF C b) ≤ rkP C (gnF C a) := cntB_mono h
    omega
theorem ln_lt {wi g : Nat} (h : g < 64) : lnN wi g < 100 := by
  unfold lnN
  split
  · have := Nat.div_le_self (g / 2) wi; omega
  · have := Nat.mod_le (g / 2) wi; omega
theorem bl_rel (o : T.ok) {z k : Nat} (hz : z < T.nl) (hk : 1 ≤ k) (hk3 : k ≤ 3) (hf0 : ¬ rkP T.1 64 = 0) {ga pl li al bo ch : Nat → Int32} {sv f0 f1 f2 : Int32} (hI : plI T.1 64 ga pl li) (hal : alI T z T.m 0 al) (hbo : boI T z T.m 0 bo) : relB (sprT T z) (min k (rkP T.1 64)) (blX T k al bo li ch sv) (lk1 (cosG T z (gnF T.1)) (min k (rkP T.1 64)) (rkP T.1 64) (rkP T.1 64) 0 (-1, f0, f1, f2)) := by
  have hfr := rk_52 o.1 (g := 64) (Nat.le_refl _)
  have hS := spr_le o hz
  have A : ∀ a, a < rkP T.1 64 → al a = alT T z (gnF T.1 a) := fun a ha => by
    obtain ⟨h1, h2, h3⟩ := gnF_ok ha
    have := hal _ h1 h2
    rw [h3] at this
    rw [this]
    exact Int32.add_zero _
  have Bo : ∀ a b, a < b → b < rkP T.1 64 → bo (a * 52 + b) = boT T z (gnF T.1 a) (gnF T.1 b) := fun a b hab hb => by
    obtain ⟨h1, h2, h3⟩ := gnF_ok (C := T.1) (p := a) (by omega)
    obtain ⟨k1, k2, k3⟩ := gnF_ok hb
    have := hbo _ _ (gn_lt hab hb) k1 h2 k2
    rw [h3, k3] at this
    rw [this]
    exact Int32.add_zero _
  have Li : ∀ a, a < rkP T.1 64 → li a = nI (lnN T.wi (gnF T.1 a)) := fun a ha => by
    obtain ⟨h1, h2, h3⟩ := gnF_ok ha
    have := (hI _ h1 h2).2.2
    rw [h3] at this
    exact this
  have V : ∀ a b c, sprT (hB3 T a b c) z ≤ 144000 := fun a b c => spr_le (ok_setB o (isB_upd (isB_upd (isB_upd o.1.2.2.2.1 (Or.inr rfl)) (Or.inr rfl)) (Or.inr rfl))) hz
  refine sr1_rel (by omega) hS hfr (fun a ha => ⟨_, V _ _ _, rfl, ?_⟩) (fun a b hab hb => ⟨_, V _ _ _, rfl, ?_⟩) (fun a b c hab hbc hc => ⟨_, V _ _ _, rfl, ?_⟩) _ 0 _ _ (by omega) (Or.inl ⟨rfl, show (-1 : Int32) < 0 by decide⟩)
  · rw [A a ha]; exact cos_1 o z _
  · unfold v2P
    rw [A a (by omega), A b hb, Bo a b hab hb]; exact cos_2 o z _ _
  · have hln : (li a = li b) ↔ (lnN T.wi (gnF T.1 a) = lnN T.wi (gnF T.1 b)) := by
      rw [Li a (by omega), Li b (by omega)]
      have h1 := ln_lt (wi := T.wi) (gnF_ok (C := T.1) (p := a) (by omega)).1
      have h2 := ln_lt (wi := T.wi) (gnF_ok (C := T.1) (p := b) (by omega)).1
      exact nI_eq (by omega) (by omega)
    unfold v3P v2P
    rw [A a (by omega), A b (by omega), A c hc, Bo a b hab (by omega), Bo b c hbc hc, Bo a c (by omega) hc, if_cg hln rfl rfl]
    exact cos_3 o z (gn_lt hab (by omega)) (gn_lt hbc hc) (gnF_ok (by omega)).2.1
theorem bl_same (o : T.ok) {c k q a b : Int32} (h1 : aBl T c k q a) (h2 : mBl T c k q b) : a = b := by
  have hnl := o.nl6
  unfold aBl at h1
  unfold mBl at h2
  rcases oT_cases (n := T.nl) (by omega) c with ⟨e, hc⟩ | ⟨z, hz, rfl, e⟩
  · rw [e] at h1 h2
    exact h1.trans h2.symm
  · rw [e] at h1 h2
    dsimp only at h1 h2
    by_cases hk : 1 ≤ k ∧ k ≤ 3
    · rw [if_pos hk] at h1 h2
      by_cases hq : -1 ≤ q ∧ q ≤ 2
      · rw [if_pos hq] at h1 h2
        by_cases hf0 : rkP T.1 64 = 0
        · rw [if_pos hf0] at h1 h2
          exact h1.trans h2.symm
        · rw [if_neg hf0] at h1 h2
          obtain ⟨kk, k1, k3, rfl⟩ := k_N hk
          rw [nI_clamp (by omega)] at h1 h2
          obtain ⟨ga, pl, li, al, bo, ch, sv, hI, hal, hbo, p1, p2⟩ := h1
          obtain ⟨f0, f1, f2, m1, m2⟩ := h2
          have hfr := rk_52 o.1 (g := 64) (Nat.le_refl _)
          have R := bl_rel o hz k1 k3 hf0 (ch := ch) (sv := sv) (f0 := f0) (f1 := f1) (f2 := f2) hI hal hbo
          have hgood : bGood (rkP T.1 64) (lk1 (cosG T z (gnF T.1)) (min kk (rkP T.1 64)) (rkP T.1 64) (rkP T.1 64) 0 (-1, f0, f1, f2)) := lk1_good (fun a b c ha hb hc => nI_pos (by
            have := spr_le (ok_setB o (isB_upd (isB_upd (isB_upd o.1.2.2.2.1 (Or.inr rfl) (k := gnF T.1 a)) (Or.inr rfl) (k := gnF T.1 b)) (Or.inr rfl) (k := gnF T.1 c))) (z := z) hz
            exact Nat.lt_of_le_of_lt this (by decide))) _ _ _ (by omega) (Or.inl (show (-1 : Int32) < 0 by decide)) (Or.inr ⟨Nat.pos_of_ne_zero hf0, by omega, by omega⟩)
          generalize blX T kk al bo li ch sv = X at *
          generalize lk1 (cosG T z (gnF T.1)) (min kk (rkP T.1 64)) (rkP T.1 64) (rkP T.1 64) 0 (-1, f0, f1, f2) = Y at *
          rcases R with ⟨-, r2⟩ | ⟨r1, -, r3, r4, r5, r6⟩
          · exact absurd r2 hgood.1
          · by_cases hqm : q = -1
            · rw [p1 hqm, m1 hqm, r3, q_ss]
            · obtain ⟨t, ht, rfl⟩ := q_N hq hqm
              obtain ⟨pa, pb⟩ := p2 t ht rfl
              obtain ⟨ma, mb⟩ := m2 t ht rfl
              rw [r1] at pa pb
              by_cases hlt : t < min kk (rkP T.1 64)
              · obtain ⟨p, hp, hcp, hv⟩ := ma hlt
                obtain ⟨g1, g2, g3⟩ := gnF_ok hp
                have hga := (hI _ g1 g2).1
                rw [g3] at hga
                have hch : X.2.2 t = nI p := by
                  rw [← hcp]
                  rcases (show t = 0 ∨ t = 1 ∨ t = 2 by omega) with e3 | e3 | e3
                  · subst e3; exact r4
                  · subst e3; exact r5 (by omega)
                  · subst e3; exact r6 (by omega)
                rw [pb p (by omega) (nI_lt hlt (by omega)) hch, hv, hga]
                exact gapV_D T.wi o.1.1 _ g1
              · rw [pa (nI_le (by omega) (by omega)), mb (by omega)]
      · rw [if_neg hq] at h1 h2
        exact h1.trans h2.symm
    · rw [if_neg hk] at h1 h2
      exact h1.trans h2.symm
end BLS
