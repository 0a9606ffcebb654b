/-! THE GAPS of a sight stand in one line, one behind another -/
abbrev lidN (wi w k : Nat) : Nat := if w < 2 then 32 + k % wi else k / wi
abbrev fwd (w : Nat) : Prop := w = 1 ∨ w = 3
/-- a seat between two, the way on -/
abbrev btw (w k t s : Nat) : Prop := if fwd w then k ≤ s ∧ s < t else t ≤ s ∧ s < k
def stepD (wi le w k : Nat) : Bool := match besN wi le k w with
  | none => true
  | some d => decide (d < le * wi) && decide (lidN wi w d = lidN wi w k) && decide (if fwd w then k < d else d < k) && decide (gpN wi k d < 64) && gapOk wi (le * wi) (gpN wi k d) && decide (lnN wi (gpN wi k d) = lidN wi w k) && decide (gpN wi k d / 2 = min k d) && (List.range 64).all (fun g => !gapOk wi (le * wi) g || decide (lnN wi g ≠ lidN wi w k) || decide (g / 2 < min k d) || decide (max k d ≤ g / 2) || decide (g = gpN wi k d))
theorem step_D : ∀ wi, wi < 5 → ∀ le, le < 9 → ∀ w, w < 4 → ∀ k, k < le * wi → stepD wi le w k = true := by decide +kernel
theorem step_at {wi le w k d : Nat} (h1 : wi < 5) (h2 : le < 9) (hw : w < 4) (hk : k < le * wi) (hd : besN wi le k w = some d) : d < le * wi ∧ lidN wi w d = lidN wi w k ∧ (if fwd w then k < d else d < k) ∧ gpN wi k d < 64 ∧ gapOk wi (le * wi) (gpN wi k d) = true ∧ lnN wi (gpN wi k d) = lidN wi w k ∧ gpN wi k d / 2 = min k d ∧ ∀ g, g < 64 → gapOk wi (le * wi) g = true → lnN wi g = lidN wi w k → min k d ≤ g / 2 → g / 2 < max k d → g = gpN wi k d := by
  have h := step_D wi h1 le h2 w hw k hk
  unfold stepD at h
  rw [hd] at h
  simp only [Bool.and_eq_true, decide_eq_true_eq] at h
  obtain ⟨⟨⟨⟨⟨⟨⟨a1, a2⟩, a3⟩, a4⟩, a5⟩, a6⟩, a7⟩, a8⟩ := h
  refine ⟨a1, a2, a3, a4, a5, a6, a7, fun g hg e1 e2 e3 e4 => ?_⟩
  have := List.all_eq_true.mp a8 g (List.mem_range.mpr hg)
  rw [e1, decide_eq_false (by omega), decide_eq_false (by omega), decide_eq_false (by omega)] at this
  simpa using this
abbrev gspan (wi le w k : Nat) (l : List Nat) : Prop := ∃ t, (if fwd w then k ≤ t else t ≤ k) ∧ (∀ g, g ∈ l → g < 64) ∧ (∀ g, g < 64 → (g ∈ l ↔ (gapOk wi (le * wi) g = true ∧ lnN wi g = lidN wi w k ∧ btw w k t (g / 2)))) ∧ l.Nodup
theorem pth_span {wi le w : Nat} {to : Option Nat} (h1 : wi < 5) (h2 : le < 9) (hw : w < 4) : ∀ (r k : Nat) (l : List Nat), k < le * wi → pth wi le w to r k = some l → gspan wi le w k l
  | 0, _, _, _, h => by cases h
  | r + 1, k, l, hk, h => by
    have hnil : gspan wi le w k [] := by
      refine ⟨k, by split <;> exact Nat.le_refl _, fun g hg => absurd hg List.not_mem_nil, fun g _ => ⟨fun hg => absurd hg List.not_mem_nil, fun hg => ?_⟩, List.nodup_nil⟩
      have hb : btw w k k (g / 2) := hg.2.2
      unfold btw at hb
      split at hb <;> omega
    rw [pth] at h
    by_cases e : to = some k
    · rw [if_pos e] at h; cases h; exact hnil
    · rw [if_neg e] at h
      cases hd : besN wi le k w with
      | none =>
        rw [hd] at h
        dsimp only at h
        by_cases e2 : to = none
        · rw [if_pos e2] at h; cases h; exact hnil
        · rw [if_neg e2] at h; cases h
      | some d =>
        rw [hd] at h
        dsimp only at h
        obtain ⟨l2, hl2, rfl⟩ := Option.map_eq_some_iff.mp h
        obtain ⟨s1, s2, s3, s4, s5, s6, s7, s8⟩ := step_at h1 h2 hw hk hd
        obtain ⟨t, t1, t2, t3, t4⟩ := pth_span h1 h2 hw r d l2 s1 hl2
        refine ⟨t, ?_, fun g hg => ?_, fun g hg => ?_, ?_⟩
        · by_cases f : fwd w
          · rw [if_pos f] at s3 t1 ⊢; omega
          · rw [if_neg f] at s3 t1 ⊢; omega
        · rcases List.mem_cons.mp hg with e3 | e3
          · rw [e3]; exact s4
          · exact t2 g e3
        · rw [List.mem_cons, t3 g hg, s2]
          unfold btw
          by_cases f : fwd w
          · rw [if_pos f] at s3 t1; rw [if_pos f, if_pos f]
            constructor
            · rintro (e3 | ⟨a, b, c⟩)
              · subst e3; exact ⟨s5, s6, by omega⟩
              · exact ⟨a, b, by omega⟩
            · rintro ⟨a, b, c⟩
              by_cases z : g / 2 < d
              · exact Or.inl (s8 g hg a b (by omega) (by omega))
              · exact Or.inr ⟨a, b, by omega⟩
          · rw [if_neg f] at s3 t1; rw [if_neg f, if_neg f]
            constructor
            · rintro (e3 | ⟨a, b, c⟩)
              · subst e3; exact ⟨s5, s6, by omega⟩
              · exact ⟨a, b, by omega⟩
            · rintro ⟨a, b, c⟩
              by_cases z : d ≤ g / 2
              · exact Or.inl (s8 g hg a b (by omega) (by omega))
              · exact Or.inr ⟨a, b, by omega⟩
        · refine List.nodup_cons.mpr ⟨fun hm => ?_, t4⟩
          have := (t3 _ (t2 _ hm)).mp hm
          have hb : btw w d t (gpN wi k d / 2) := this.2.2
          unfold btw at hb
          by_cases f : fwd w
          · rw [if_pos f] at s3 hb; omega
          · rw [if_neg f] at s3 hb; omega
/-- what lies between two gaps of a sight, in its line, is of the sight -/
theorem span_int {wi le w k : Nat} {l : List Nat} (h : gspan wi le w k l) {a b c : Nat} (ha : a ∈ l) (hc : c ∈ l) (hab : a < b) (hbc : b < c) (hb : gapOk wi (le * wi) b = true) (hl : lnN wi b = lnN wi a) : b ∈ l := by
  obtain ⟨t, t1, t2, t3, t4⟩ := h
  have a1 := (t3 a (t2 a ha)).mp ha
  have c1 := (t3 c (t2 c hc)).mp hc
  refine (t3 b (by have := t2 c hc; omega)).mpr ⟨hb, hl.trans a1.2.1, ?_⟩
  have a2 := a1.2.2
  have c2 := c1.2.2
  unfold btw at a2 c2 ⊢
  by_cases f : fwd w
  · rw [if_pos f] at a2 c2 ⊢; omega
  · rw [if_neg f] at a2 c2 ⊢; omega
theorem span_ln {wi le w k : Nat} {l : List Nat} (h : gspan wi le w k l) {a b : Nat} (ha : a ∈ l) (hb : b ∈ l) : lnN wi a = lnN wi b := by
  obtain ⟨t, t1, t2, t3, t4⟩ := h
  exact ((t3 a (t2 a ha)).mp ha).2.1.trans ((t3 b (t2 b hb)).mp hb).2.1.symm
theorem span_ok {wi le w k : Nat} {l : List Nat} (h : gspan wi le w k l) : (∀ g, g ∈ l → g < 64 ∧ gapOk wi (le * wi) g = true) ∧ l.Nodup := by
  obtain ⟨t, t1, t2, t3, t4⟩ := h
  exact ⟨fun g hg => ⟨t2 g hg, ((t3 g (t2 g hg)).mp hg).1⟩, t4⟩
