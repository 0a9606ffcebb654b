/-! FRAMES: the one side's cells stand when the other side works -/
section FRAMES
variable {G : rG} {h h' : rH} {T : Tn} {i : Nat → Int32} {j : Nat → Int64} {S : List Nat}
theorem mX.kpS (q : mX G h T i j) (hf : kp h h' S) (hS : ∀ k ∈ S, k < 38 ∨ 60 < k) : mX G h' T i j := by
  have g : ∀ {k : Nat} {e : va_E}, h[k]? = some e → 38 ≤ k → k ≤ 60 → h'[k]? = some e := fun e h1 h2 => kp_get hf (fun z => by have := hS _ z; omega) e
  obtain ⟨⟨⟨fn, a1, a2, a3, a4, a5, a6, a7, a8⟩, b1, b2, b3, b4, b5, ⟨s, b6, b7⟩, b8⟩, ⟨c1, c2, c3, ⟨g1, c4, c5⟩, ⟨g2, c6, c7⟩, ⟨g3, c8, c9⟩, ⟨g4, c10, c11⟩⟩, ⟨d1, d2, d3, g5, d4, d5⟩, ⟨e1, e2, e3, ⟨g6, e4, e5⟩, ⟨g7, e6, e7⟩⟩, q5, q6, q7⟩ := q
  exact ⟨⟨⟨fn, g a1 (by decide) (by decide), a2, a3, g a4 (by decide) (by decide), a5, g a6 (by decide) (by decide), g a7 (by decide) (by decide), a8⟩, b1, b2, b3, g b4 (by decide) (by decide), b5, ⟨s, g b6 (by decide) (by decide), b7⟩, b8⟩, ⟨g c1 (by decide) (by decide), c2, c3, ⟨g1, g c4 (by decide) (by decide), c5⟩, ⟨g2, g c6 (by decide) (by decide), c7⟩, ⟨g3, g c8 (by decide) (by decide), c9⟩, ⟨g4, g c10 (by decide) (by decide), c11⟩⟩, ⟨g d1 (by decide) (by decide), d2, d3, g5, g d4 (by decide) (by decide), d5⟩, ⟨g e1 (by decide) (by decide), e2, e3, ⟨g6, g e4 (by decide) (by decide), e5⟩, ⟨g7, g e6 (by decide) (by decide), e7⟩⟩, q5.kp hf (fun k hk => by have := hS k hk; omega), q6.kp hf (fun k hk => by have := hS k hk; omega), q7⟩
theorem mAll.kpS (q : mAll G h T) (hf : kp h h' S) (hS : ∀ k ∈ S, k < 38 ∨ 60 < k) : mAll G h' T := by
  obtain ⟨i, j, q⟩ := q
  exact ⟨i, j, q.kpS hf hS⟩
theorem mAll_kpc (q : mAll G h T) (hf : kp h h' cL) : mAll G h' T := q.kpS hf (by decide)
theorem mAll_kC (q : mAll G h T) (hf : kC h h') : mAll G h' T := by
  refine q.kpS (S := (List.range h.length).filter (fun k => decide (k < 38 ∨ 60 < k))) (fun k hk hn => ?_) (fun k hk => by have := (List.mem_filter.mp hk).2; exact of_decide_eq_true this)
  have hno : ¬ (k < 38 ∨ 60 < k) := fun z => hn (List.mem_filter.mpr ⟨List.mem_range.mpr hk, decide_eq_true z⟩)
  exact hf k hk (by omega) (by omega)
theorem cAll_kpm (q : cAll G h T) (hf : kp h h' mL) : cAll G h' T := by
  obtain ⟨⟨q0, q1, q2, q3, q4, q5, q6⟩, q7, q8⟩ := q
  exact ⟨⟨kp_get hf (by decide) q0, (cTxt.kp ⟨q1, q2⟩ hf (by decide)).1, (cTxt.kp ⟨q1, q2⟩ hf (by decide)).2, q3.kp hf (by decide), q4.kp hf (by decide), q5.kp hf (by decide), q6.1.kp hf (by decide), q6.2.kp hf (by decide)⟩, q7.kp hf (by decide), q8.kp hf (by decide)⟩
end FRAMES
