/-! WHAT BLINDS take from the spread -/
theorem q_sub0 (a : Int32) : a - 0 = a := by simp
theorem q_ss (a b : Int32) : a - (a - b) = b := by grind
theorem sumI_cg {f g : Nat → Int32} : ∀ {n : Nat}, (∀ i, i < n → f i = g i) → sumI f n = sumI g n
  | 0, _ => rfl
  | n + 1, h => by rw [sumI, sumI, sumI_cg (n := n) (fun i hi => h i (by omega)), h n (by omega)]
theorem q_4 (a b c d : Int32) : a + b - (c + d) = a - c + (b - d) := by grind
theorem sumI_sub {f g : Nat → Int32} : ∀ (n : Nat), sumI (fun i => f i - g i) n = sumI f n - sumI g n
  | 0 => by simp [sumI]
  | n + 1 => by rw [sumI, sumI, sumI, sumI_sub n, q_4]
theorem sumI_add {f g : Nat → Int32} : ∀ (n : Nat), sumI (fun i => f i + g i) n = sumI f n + sumI g n
  | 0 => by simp [sumI]
  | n + 1 => by rw [sumI, sumI, sumI, sumI_add n]; ac_rfl
theorem sumI_nI {f : Nat → Nat} : ∀ (n : Nat), nI (sumN f n) = sumI (fun i => nI (f i)) n
  | 0 => rfl
  | n + 1 => by rw [sumN, sumI, ← sumI_nI n, nI_add]
abbrev sumII (f : Nat → Nat → Int32) (n : Nat) : Int32 := sumI (fun x => sumI (f x) n) n
theorem sumII_cg {f g : Nat → Nat → Int32} {n : Nat} (h : ∀ x y, x < n → y < n → f x y = g x y) : sumII f n = sumII g n := sumI_cg (fun x hx => sumI_cg (fun y hy => h x y hx hy))
theorem sumII_sub {f g : Nat → Nat → Int32} {n : Nat} : sumII (fun x y => f x y - g x y) n = sumII f n - sumII g n := by
  unfold sumII
  rw [← sumI_sub]
  exact sumI_cg (fun x _ => sumI_sub n)
theorem sumII_add {f g : Nat → Nat → Int32} {n : Nat} : sumII (fun x y => f x y + g x y) n = sumII f n + sumII g n := by
  unfold sumII
  rw [← sumI_add]
  exact sumI_cg (fun x _ => sumI_add n)
section HSUM
variable {T : Tn}
theorem spr_I {z : Nat} : nI (sprT T z) = sumII (fun x y => nI (mz T z x y)) T.m := by
  unfold sumII
  rw [sumI_nI]
  exact sumI_cg (fun x _ => sumI_nI T.m)
abbrev indT (T : Tn) (z : Nat) (P : Nat → Bool) (x y : Nat) : Int32 := if T.sees x y ∧ (glT T x y).any P = true then wdT T z x y else 0
theorem gl_B (o : T.ok) {B' : Nat → Int32} (hB : isB B') {x y : Nat} (hx : x < T.m) (hy : y < T.m) : glT (setB T B') x y = glT T x y := by
  show glC (setB T B').1 (T.se x) (T.se y) = glC T.1 (T.se x) (T.se y)
  rw [glC_P o.1 (o.sen hx) (o.sen hy), glC_P (okC_B o.1 hB) (o.sen hx) (o.sen hy)]
theorem mz_hang (o : T.ok) {z : Nat} {B' : Nat → Int32} (hB : isB B') {P : Nat → Bool} (hP : ∀ g, g < 64 → (B' g = 0 ↔ T.B g = 0 ∧ P g = false)) {x y : Nat} (hx : x < T.m) (hy : y < T.m) : nI (mz (setB T B') z x y) = nI (mz T z x y) - indT T z P x y := by
  by_cases e : x = y
  · subst e
    have hn : ¬ (T.sees x x ∧ (glT T x x).any P = true) := fun u => u.1.1 rfl
    unfold indT mz
    rw [if_pos rfl, if_pos rfl, if_neg hn, q_sub0]
  · have s1 := sees_gl o hx hy
    have s2 : (setB T B').sees x y ↔ (x ≠ y ∧ geoC (setB T B').1 (T.se x) (T.se y) = true ∧ freeL (setB T B').1 (glT (setB T B') x y)) := sees_gl (T := setB T B') (ok_setB o hB) hx hy
    rw [gl_B o hB hx hy] at s2
    have hge : geoC (setB T B').1 (T.se x) (T.se y) = geoC T.1 (T.se x) (T.se y) := rfl
    rw [hge] at s2
    have m1 : mz T z x y = caughtN T.nb T.kd T.se T.ki T.nu z x y (decide (T.sees x y)) := if_neg e
    have m2 : mz (setB T B') z x y = caughtN T.nb T.kd T.se T.ki T.nu z x y (decide ((setB T B').sees x y)) := if_neg e
    by_cases h1 : T.sees x y
    · obtain ⟨-, hg, hfr⟩ := s1.mp h1
      have h64 : ∀ g, g ∈ glT T x y → g < 64 := fun g hm => ((gl_ok o x y hx hy h1).1 g hm).1
      by_cases h2 : (glT T x y).any P = true
      · have h3 : ¬ (setB T B').sees x y := fun u => by
          obtain ⟨-, -, hfr2⟩ := s2.mp u
          obtain ⟨g, hm, hp⟩ := List.any_eq_true.mp h2
          have := ((hP g (h64 g hm)).mp (hfr2 g hm)).2
          rw [hp] at this; cases this
        unfold indT wdT
        rw [if_pos ⟨h1, h2⟩, q_ss, m2, decide_eq_false h3]
      · have h3 : (setB T B').sees x y := s2.mpr ⟨e, hg, fun g hm => (hP g (h64 g hm)).mpr ⟨hfr g hm, by
          cases hp : P g with
          | false => rfl
          | true => exact absurd (List.any_eq_true.mpr ⟨g, hm, hp⟩) h2⟩⟩
        unfold indT
        rw [if_neg (fun u => h2 u.2), q_sub0, m1, m2, decide_eq_true h1, decide_eq_true h3]
    · have h3 : ¬ (setB T B').sees x y := fun u => by
        obtain ⟨-, hg, hfr2⟩ := s2.mp u
        obtain ⟨k, hk⟩ := gl_span o.1 (o.sen hx) (o.sen hy) hg
        exact h1 (s1.mpr ⟨e, hg, fun g hm => ((hP g ((span_ok hk).1 g hm).1).mp (hfr2 g hm)).1⟩)
      unfold indT
      rw [if_neg (fun u => h1 u.1), q_sub0, m1, m2, decide_eq_false h1, decide_eq_false h3]
theorem spr_hang (o : T.ok) {z : Nat} {B' : Nat → Int32} (hB : isB B') {P : Nat → Bool} (hP : ∀ g, g < 64 → (B' g = 0 ↔ T.B g = 0 ∧ P g = false)) : nI (sprT (setB T B') z) = nI (sprT T z) - sumII (indT T z P) T.m := by
  rw [spr_I, spr_I, ← sumII_sub]
  exact sumII_cg (fun x y hx hy => mz_hang o hB hP hx hy)
abbrev P3 (a b c : Nat) : Nat → Bool := fun g => decide (g = a ∨ g = b ∨ g = c)
theorem hB3_P {a b c : Nat} (g : Nat) : upd (upd (upd T.B a 1) b 1) c 1 g = 0 ↔ T.B g = 0 ∧ P3 a b c g = false := by
  have h1 : ¬ (1 : Int32) = 0 := by decide
  by_cases e1 : g = c
  · subst e1; rw [pk_us]; exact ⟨fun u => absurd u h1, fun u => absurd u.2 (by unfold P3; rw [decide_eq_true (Or.inr (Or.inr rfl))]; decide)⟩
  · rw [pk_un e1]
    by_cases e2 : g = b
    · subst e2; rw [pk_us]; exact ⟨fun u => absurd u h1, fun u => absurd u.2 (by unfold P3; rw [decide_eq_true (Or.inr (Or.inl rfl))]; decide)⟩
    · rw [pk_un e2]
      by_cases e3 : g = a
      · subst e3; rw [pk_us]; exact ⟨fun u => absurd u h1, fun u => absurd u.2 (by unfold P3; rw [decide_eq_true (Or.inl rfl)]; decide)⟩
      · rw [pk_un e3]
        exact ⟨fun u => ⟨u, decide_eq_false (fun v => by rcases v with v | v | v; exact e3 v; exact e2 v; exact e1 v)⟩, fun u => u.1⟩
theorem cos_ind (o : T.ok) (z a b c : Nat) : cosI T z a b c = nI (sprT T z) - sumII (indT T z (P3 a b c)) T.m := spr_hang o (isB_upd (isB_upd (isB_upd o.1.2.2.2.1 (Or.inr rfl)) (Or.inr rfl)) (Or.inr rfl)) (fun g _ => hB3_P g)
theorem any_P3 {l : List Nat} {a b c : Nat} : l.any (P3 a b c) = true ↔ a ∈ l ∨ b ∈ l ∨ c ∈ l := by
  rw [List.any_eq_true]
  constructor
  · rintro ⟨g, hm, hp⟩
    rcases of_decide_eq_true hp with e | e | e
    · exact Or.inl (e ▸ hm)
    · exact Or.inr (Or.inl (e ▸ hm))
    · exact Or.inr (Or.inr (e ▸ hm))
  · rintro (h | h | h)
    · exact ⟨a, h, decide_eq_true (Or.inl rfl)⟩
    · exact ⟨b, h, decide_eq_true (Or.inr (Or.inl rfl))⟩
    · exact ⟨c, h, decide_eq_true (Or.inr (Or.inr rfl))⟩
theorem cos_1 (o : T.ok) (z a : Nat) : cosI T z a a a = nI (sprT T z) - alT T z a := by
  rw [cos_ind o]
  congr 1
  refine sumII_cg (fun x y hx hy => ?_)
  unfold indT cAT
  exact if_cg (and_congr Iff.rfl (any_P3.trans ⟨fun u => by rcases u with u | u | u <;> exact u, fun u => Or.inl u⟩)) rfl rfl
theorem q_i2 {s A B : Prop} [Decidable s] [Decidable A] [Decidable B] (w : Int32) : (if s ∧ (A ∨ B ∨ B) then w else 0) = (if s ∧ A then w else 0) + (if s ∧ B then w else 0) - (if s ∧ A ∧ B then w else 0) := by
  by_cases hs : s <;> by_cases hA : A <;> by_cases hB : B <;> simp [hs, hA, hB] <;> grind
theorem q_i3 {s A B C L : Prop} [Decidable s] [Decidable A] [Decidable B] [Decidable C] [Decidable L] (w : Int32) (h1 : s → A → C → L → B) (h2 : s → A → B → L) : (if s ∧ (A ∨ B ∨ C) then w else 0) = (if s ∧ A then w else 0) + (if s ∧ B then w else 0) - (if s ∧ A ∧ B then w else 0) + ((if s ∧ C then w else 0) - (if s ∧ B ∧ C then w else 0) - (if L then 0 else (if s ∧ A ∧ C then w else 0))) := by
  by_cases hs : s <;> by_cases hA : A <;> by_cases hB : B <;> by_cases hC : C <;> by_cases hL : L <;> simp only [hs, hA, hB, hC, hL, true_and, false_and, and_true, and_false, true_or, or_true, false_or, or_false, if_true, if_false, or_self, and_self, forall_const, false_implies, implies_true] at * <;> first | trivial | grind
theorem ind_2 {z a b x y : Nat} : indT T z (P3 a b b) x y = cAT T z a x y + cAT T z b x y - cBT T z a b x y := by
  unfold indT cAT cBT
  rw [← q_i2]
  exact if_cg (and_congr Iff.rfl any_P3) rfl rfl
theorem cos_2 (o : T.ok) (z a b : Nat) : cosI T z a b b = nI (sprT T z) - (alT T z a + alT T z b - boT T z a b) := by
  rw [cos_ind o]
  congr 1
  rw [sumII_cg (g := fun x y => cAT T z a x y + cAT T z b x y - cBT T z a b x y) (fun x y _ _ => ind_2), sumII_sub, sumII_add]
theorem ind_3 (o : T.ok) {z a b c x y : Nat} (hx : x < T.m) (hy : y < T.m) (hab : a < b) (hbc : b < c) (hb : frP T.1 b = true) : indT T z (P3 a b c) x y = cAT T z a x y + cAT T z b x y - cBT T z a b x y + (cAT T z c x y - cBT T z b c x y - (if lnN T.wi a = lnN T.wi b then 0 else cBT T z a c x y)) := by
  have hsp : T.sees x y → ∃ k, gspan T.wi T.lo (fcC T.1 (T.se x)) k (glT T x y) := fun hs => by
    obtain ⟨h0, hg, hfr⟩ := (sees_gl o hx hy).mp hs
    exact gl_span o.1 (o.sen hx) (o.sen hy) hg
  unfold indT cAT cBT
  rw [← q_i3 (s := T.sees x y) (A := a ∈ glT T x y) (B := b ∈ glT T x y) (C := c ∈ glT T x y) (L := lnN T.wi a = lnN T.wi b) _ (fun hs hA hC hL => by
    obtain ⟨k, hk⟩ := hsp hs
    exact span_int hk hA hC hab hbc (frP_B hb).1 hL.symm) (fun hs hA hB => by
    obtain ⟨k, hk⟩ := hsp hs
    exact span_ln hk hA hB)]
  exact if_cg (and_congr Iff.rfl any_P3) rfl rfl
theorem sumII_if {f : Nat → Nat → Int32} {n : Nat} {P : Prop} [Decidable P] : sumII (fun x y => if P then 0 else f x y) n = if P then 0 else sumII f n := by
  by_cases h : P
  · rw [if_pos h]
    have : ∀ m, sumI (fun _ => (0 : Int32)) m = 0 := fun m => by
      induction m with
      | zero => rfl
      | succ m ih => rw [sumI, ih]; rfl
    unfold sumII
    rw [sumI_cg (g := fun _ => 0) (fun x _ => (sumI_cg (g := fun _ => 0) (fun y _ => if_pos h)).trans (this n)), this]
  · rw [if_neg h]
    exact sumII_cg (fun x y _ _ => if_neg h)
theorem cos_3 (o : T.ok) (z : Nat) {a b c : Nat} (hab : a < b) (hbc : b < c) (hb : frP T.1 b = true) : cosI T z a b c = nI (sprT T z) - (alT T z a + alT T z b - boT T z a b + (alT T z c - boT T z b c - (if lnN T.wi a = lnN T.wi b then 0 else boT T z a c))) := by
  rw [cos_ind o]
  congr 1
  rw [sumII_cg (g := fun x y => cAT T z a x y + cAT T z b x y - cBT T z a b x y + (cAT T z c x y - cBT T z b c x y - (if lnN T.wi a = lnN T.wi b then 0 else cBT T z a c x y))) (fun x y hx hy => ind_3 o hx hy hab hbc hb), sumII_add, sumII_sub, sumII_add, sumII_sub, sumII_sub, sumII_if]
end HSUM
