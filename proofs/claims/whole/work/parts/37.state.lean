/-! ONE STATE for both sides: the carriage (neighbours, blinds by gap number, wide, long, mirrors, faces), the ones (how many; kind, seat, slept, kin, where the person stands), the laws (how many, numbers, where), the yawns (how many, minute, who), the sheets (whether, lane, size, cells), fault, trace -/
abbrev CarT : Type := (Nat → Nat → Option Nat) × (Nat → Int32) × Nat × Nat × Bool × (Nat → Nat)
abbrev OneT : Type := Nat × (Nat → Nat) × (Nat → Nat) × (Nat → Nat) × (Nat → Nat) × (Nat → Nat)
abbrev LawT : Type := Nat × (Nat → Nat → Nat) × (Nat → Nat)
abbrev YawT : Type := Nat × (Nat → Nat) × (Nat → Nat)
abbrev SheT : Type := (Nat → Bool) × (Nat → Int32) × (Nat → Nat) × (Nat → Nat → Int32)
abbrev Tn : Type := CarT × OneT × LawT × YawT × SheT × Int32 × Int32
abbrev Tn.nb (T : Tn) : Nat → Nat → Option Nat := T.1.1
abbrev Tn.B (T : Tn) : Nat → Int32 := T.1.2.1
abbrev Tn.wi (T : Tn) : Nat := T.1.2.2.1
abbrev Tn.lo (T : Tn) : Nat := T.1.2.2.2.1
abbrev Tn.mir (T : Tn) : Bool := T.1.2.2.2.2.1
abbrev Tn.face (T : Tn) : Nat → Nat := T.1.2.2.2.2.2
abbrev Tn.m (T : Tn) : Nat := T.2.1.1
abbrev Tn.kd (T : Tn) : Nat → Nat := T.2.1.2.1
abbrev Tn.se (T : Tn) : Nat → Nat := T.2.1.2.2.1
abbrev Tn.sl (T : Tn) : Nat → Nat := T.2.1.2.2.2.1
abbrev Tn.ki (T : Tn) : Nat → Nat := T.2.1.2.2.2.2.1
abbrev Tn.pa (T : Tn) : Nat → Nat := T.2.1.2.2.2.2.2
abbrev Tn.nl (T : Tn) : Nat := T.2.2.1.1
abbrev Tn.nu (T : Tn) : Nat → Nat → Nat := T.2.2.1.2.1
abbrev Tn.la (T : Tn) : Nat → Nat := T.2.2.1.2.2
abbrev Tn.ny (T : Tn) : Nat := T.2.2.2.1.1
abbrev Tn.ym (T : Tn) : Nat → Nat := T.2.2.2.1.2.1
abbrev Tn.yw (T : Tn) : Nat → Nat := T.2.2.2.1.2.2
abbrev Tn.has (T : Tn) : Nat → Bool := T.2.2.2.2.1.1
abbrev Tn.ln (T : Tn) : Nat → Int32 := T.2.2.2.2.1.2.1
abbrev Tn.sz (T : Tn) : Nat → Nat := T.2.2.2.2.1.2.2.1
abbrev Tn.ce (T : Tn) : Nat → Nat → Int32 := T.2.2.2.2.1.2.2.2
abbrev Tn.fa (T : Tn) : Int32 := T.2.2.2.2.2.1
abbrev Tn.tr (T : Tn) : Int32 := T.2.2.2.2.2.2
abbrev Tn.n (T : Tn) : Nat := T.lo * T.wi
abbrev Tn.bR (T : Tn) : Nat → Int32 := fun c => T.B (2 * c)
abbrev Tn.bB (T : Tn) : Nat → Int32 := fun c => T.B (2 * c + 1)
abbrev Tn.bl (T : Tn) : Nat → Nat → Int32 := blM T.bR T.bB T.wi
abbrev Tn.own (T : Tn) (z x : Nat) : Nat := ownN T.kd T.sl T.nu z x
abbrev Tn.mi (T : Tn) (z x y : Nat) : Nat := mightN T.nb T.bl T.mir T.face T.kd T.se T.ki T.nu z x y
abbrev Tn.fi (T : Tn) (z x y : Nat) : Nat := caughtN T.nb T.kd T.se T.ki T.nu z x y true
abbrev Tn.src (T : Tn) (z q p : Nat) : Nat := srcN T.nu (T.mi z) T.ym T.yw z q p
abbrev Tn.all (T : Tn) (z q : Nat) : Nat := allN (T.own z) T.nu (T.mi z) T.ym T.yw z q
abbrev Tn.sees (T : Tn) (x y : Nat) : Prop := seesM T.nb T.bl T.mir T.face T.se x y
/-- what always holds of the state's numbers -/
def okC (C : CarT) : Prop := C.2.2.1 < 5 ∧ C.2.2.2.1 < 9 ∧ (∀ c, C.2.2.2.2.2 c < 4) ∧ isB C.2.1 ∧ (∀ k w, k < 32 → w < 4 → ∀ d, C.1 k w = some d → d < 32) ∧ (∀ k w, k < C.2.2.2.1 * C.2.2.1 → w < 4 → C.1 k w = besN C.2.2.1 C.2.2.2.1 k w)
def okO (n : Nat) (O : OneT) : Prop := O.1 ≤ 12 ∧ (∀ x, x < O.1 → O.2.1 x < 3 ∧ O.2.2.1 x < n ∧ O.2.2.2.1 x < 10 ∧ O.2.2.2.2.1 x < 10) ∧ (∀ x y, x < O.1 → y < O.1 → O.2.2.1 x = O.2.2.1 y → x = y)
def okL (L : LawT) : Prop := L.1 ≤ 6 ∧ ∀ z, z < L.1 → (∀ w, w < 7 → L.2.1 z w < 10) ∧ 1 ≤ L.2.1 z 5 ∧ L.2.1 z 5 ≤ L.2.1 z 6
def okY (m : Nat) (Y : YawT) : Prop := Y.1 ≤ 24 ∧ (∀ q, q < Y.1 → Y.2.1 q < 600 ∧ Y.2.2 q < m) ∧ (∀ p q, p < q → q < Y.1 → Y.2.1 p ≤ Y.2.1 q)
def okS (S : SheT) : Prop := ∀ q, q < 4 → S.2.2.1 q ≤ 60
def Tn.ok (T : Tn) : Prop := okC T.1 ∧ okO T.n T.2.1 ∧ okL T.2.2.1 ∧ okY T.m T.2.2.2.1 ∧ okS T.2.2.2.2.1
/-- the class of a kind of one -/
abbrev ciK (k : Nat) : Nat := if k = 0 then 7 else if k = 1 then 3 else 4
theorem ciK_P (k : Nat) : isP (ciK k) := by
  unfold isP ciK
  repeat' split
  all_goals simp
abbrev bI (b : Bool) : Int32 := if b then 1 else 0
/-! the class's cells hold the state -/
def cCar (G : rG) (h : rH) (C : CarT) (O : OneT) : Prop := ∃ f s L : Nat → Int32, ccAt G h (nI C.2.2.1) (nI (C.2.2.2.1 * C.2.2.1)) (bI C.2.2.2.2.1) (nI (sumN (fun g => if C.2.1 g = 0 then 0 else 1) 64)) f s L C.2.1 ∧ (∀ c, c < C.2.2.2.1 * C.2.2.1 → f c = nI (C.2.2.2.2.2 c)) ∧ (∀ c, c < C.2.2.2.1 * C.2.2.1 → s c = noI (firstN (fun x => decide (O.2.2.1 x = c)) O.1 0)) ∧ ∀ c, c < C.2.2.2.1 * C.2.2.1 → L c = lineW (nI C.2.2.1) (nI (C.2.2.2.1 * C.2.2.1)) (bI C.2.2.2.2.1) C.2.1 (nI (C.2.2.2.2.2 c)) 32 0 (nI c)
def cOne (G : rG) (h : rH) (O : OneT) : Prop := ∃ p : Nat → Option Nat, h[12]? = some (.inl (gA G 3, 12, .inr (.inr (.inr (.inr p))))) ∧ ∀ x, x < O.1 → p x = some (gN G + O.2.2.2.2.2 x) ∧ 61 ≤ O.2.2.2.2.2 x ∧ h[O.2.2.2.2.2 x]? = some (pc (ciK (O.2.1 x)) (nI x) (nI (O.2.2.2.1 x)) (nI (O.2.2.2.2.1 x)) (nI (O.2.2.1 x)))
def cLaw (G : rG) (h : rH) (L : LawT) : Prop := ∃ p : Nat → Option Nat, h[13]? = some (.inl (gA G 4, 6, .inr (.inr (.inr (.inr p))))) ∧ ∀ z, z < L.1 → p z = some (gN G + L.2.2 z) ∧ 61 ≤ L.2.2 z ∧ ∃ cb f, 61 ≤ cb ∧ lawAtC G h (L.2.2 z) cb f ∧ ∀ w, w < 7 → f w = nI (L.2.1 z w)
def cYaw (G : rG) (h : rH) (Y : YawT) : Prop := h[14]? = some (.inr (9, [.ref (gN G + 15), .ref (gN G + 16), .int (nI Y.1)])) ∧ (∃ f, h[15]? = some (.inl (gA G 0, 24, .inl f)) ∧ ∀ q, q < Y.1 → f q = nI (Y.2.1 q)) ∧ ∃ f, h[16]? = some (.inl (gA G 0, 24, .inl f)) ∧ ∀ q, q < Y.1 → f q = nI (Y.2.2 q)
def cShe (G : rG) (h : rH) (S : SheT) : Prop := (∃ p : Nat → Option Nat, h[1]? = some (.inl (gA G 2, 4, .inr (.inr (.inr (.inr p))))) ∧ ∀ q, q < 4 → p q = some (gN G + (30 + 2 * q))) ∧ ∀ q, q < 4 → h[30 + 2 * q]? = some (.inr (8, [.ref (gN G + (31 + 2 * q)), .int (bI (S.1 q)), .int (S.2.1 q), .int (nI (S.2.2.1 q))])) ∧ ∃ f, h[31 + 2 * q]? = some (.inl (gA G 0, 60, .inl f)) ∧ ∀ k, k < S.2.2.1 q → f k = S.2.2.2 q k
def cAt (G : rG) (h : rH) (T : Tn) : Prop := h[0]? = some (ytc G (nI T.m) (nI T.nl) T.fa T.tr) ∧ (∃ s, ctAt G h s) ∧ (∃ s, ltAt G h s) ∧ cCar G h T.1 T.2.1 ∧ cOne G h T.2.1 ∧ cLaw G h T.2.2.1 ∧ cYaw G h T.2.2.2.1 ∧ cShe G h T.2.2.2.2.1
/-- the rows and the plan that the class works in -/
def cPla (G : rG) (h : rH) : Prop := (∃ a b c, h[17]? = some (.inr (0, [.ref (gN G + 18), .ref (gN G + 19), .ref (gN G + 20), .ref (gN G + 21), .ref (gN G + 22), .ref (gN G + 23), .ref (gN G + 24), .int a, .int b, .int c]))) ∧ (∃ f, h[18]? = some (.inl (gA G 0, 52, .inl f))) ∧ (∃ f, h[19]? = some (.inl (gA G 0, 64, .inl f))) ∧ (∃ f, h[20]? = some (.inl (gA G 0, 52, .inl f))) ∧ (∃ f, h[21]? = some (.inl (gA G 0, 52, .inl f))) ∧ (∃ f, h[22]? = some (.inl (gA G 0, 2704, .inl f))) ∧ (∃ f, h[23]? = some (.inl (gA G 0, 32, .inl f))) ∧ (∃ f, h[24]? = some (.inl (gA G 0, 3, .inl f)))
def cRow (G : rG) (h : rH) : Prop := (∃ f, h[25]? = some (.inl (gA G 0, 12, .inl f))) ∧ (∃ f, h[26]? = some (.inl (gA G 0, 144, .inl f))) ∧ (∃ f, h[27]? = some (.inl (gA G 0, 12, .inl f))) ∧ (∃ f, h[28]? = some (.inl (gA G 0, 24, .inl f))) ∧ (∃ f, h[29]? = some (.inl (gA G 1, 24, .inl f)))
/-! what a change elsewhere leaves as it is -/
def kp (h h' : rH) (S : List Nat) : Prop := ∀ k, k < h.length → k ∉ S → h'[k]? = h[k]?
theorem kp_fr {h h' : rH} {S : List Nat} (q : fr h h' S) : kp h h' S := fun k _ hk => q.2 k hk
theorem kp_get {h h' : rH} {S : List Nat} (q : kp h h' S) {k : Nat} (hk : k ∉ S) {e : va_E} (he : h[k]? = some e) : h'[k]? = some e := (q k (List.getElem?_eq_some_iff.mp he).1 hk).trans he
theorem cCar.kp {G : rG} {h h' : rH} {C : CarT} {O : OneT} {S : List Nat} (q : cCar G h C O) (hf : kp h h' S) (hS : ∀ k ∈ S, k < 7 ∨ 11 < k) : cCar G h' C O := by
  obtain ⟨f, s, L, ⟨h1, h2, h3, h4, h5⟩, h6⟩ := q
  have g : ∀ k, 7 ≤ k → k ≤ 11 → k ∉ S := fun k a b hk => by have := hS k hk; omega
  exact ⟨f, s, L, ⟨kp_get hf (g _ (by decide) (by decide)) h1, kp_get hf (g _ (by decide) (by decide)) h2, kp_get hf (g _ (by decide) (by decide)) h3, kp_get hf (g _ (by decide) (by decide)) h4, kp_get hf (g _ (by decide) (by decide)) h5⟩, h6⟩
theorem cOne.kp {G : rG} {h h' : rH} {O : OneT} {S : List Nat} (q : cOne G h O) (hf : kp h h' S) (hS : ∀ k ∈ S, k ≠ 12 ∧ k < 61) : cOne G h' O := by
  obtain ⟨p, h1, h2⟩ := q
  refine ⟨p, kp_get hf (fun hk => (hS _ hk).1 rfl) h1, fun x hx => ?_⟩
  obtain ⟨a, b, c⟩ := h2 x hx
  exact ⟨a, b, kp_get hf (fun hk => by have := (hS _ hk).2; omega) c⟩
theorem cLaw.kp {G : rG} {h h' : rH} {L : LawT} {S : List Nat} (q : cLaw G h L) (hf : kp h h' S) (hS : ∀ k ∈ S, k ≠ 13 ∧ k < 61) : cLaw G h' L := by
  obtain ⟨p, h1, h2⟩ := q
  refine ⟨p, kp_get hf (fun hk => (hS _ hk).1 rfl) h1, fun z hz => ?_⟩
  obtain ⟨a, b, cb, f, c, ⟨d1, d2⟩, e⟩ := h2 z hz
  exact ⟨a, b, cb, f, c, ⟨kp_get hf (fun hk => by have := (hS _ hk).2; omega) d1, kp_get hf (fun hk => by have := (hS _ hk).2; omega) d2⟩, e⟩
theorem cYaw.kp {G : rG} {h h' : rH} {Y : YawT} {S : List Nat} (q : cYaw G h Y) (hf : kp h h' S) (hS : ∀ k ∈ S, k < 14 ∨ 16 < k) : cYaw G h' Y := by
  obtain ⟨h1, ⟨f, h2, h3⟩, g, h4, h5⟩ := q
  have z : ∀ k, 14 ≤ k → k ≤ 16 → k ∉ S := fun k a b hk => by have := hS k hk; omega
  exact ⟨kp_get hf (z _ (by decide) (by decide)) h1, ⟨f, kp_get hf (z _ (by decide) (by decide)) h2, h3⟩, g, kp_get hf (z _ (by decide) (by decide)) h4, h5⟩
theorem cShe.kp {G : rG} {h h' : rH} {Y : SheT} {S : List Nat} (q : cShe G h Y) (hf : kp h h' S) (hS : ∀ k ∈ S, k ≠ 1 ∧ (k < 30 ∨ 37 < k)) : cShe G h' Y := by
  obtain ⟨⟨p, h1, h2⟩, h3⟩ := q
  have z : ∀ k, 30 ≤ k → k ≤ 37 → k ∉ S := fun k a b hk => by have := (hS k hk).2; omega
  refine ⟨⟨p, kp_get hf (fun hk => (hS _ hk).1 rfl) h1, h2⟩, fun x hx => ?_⟩
  obtain ⟨a, f, b, c⟩ := h3 x hx
  exact ⟨kp_get hf (z _ (by omega) (by omega)) a, f, kp_get hf (z _ (by omega) (by omega)) b, c⟩
theorem cTxt.kp {G : rG} {h h' : rH} {S : List Nat} (q : (∃ s, ctAt G h s) ∧ (∃ s, ltAt G h s)) (hf : kp h h' S) (hS : ∀ k ∈ S, k < 2 ∨ 6 < k) : (∃ s, ctAt G h' s) ∧ (∃ s, ltAt G h' s) := by
  obtain ⟨⟨s, a, b⟩, ⟨t, c, d, e⟩⟩ := q
  have z : ∀ k, 2 ≤ k → k ≤ 6 → k ∉ S := fun k a b hk => by have := hS k hk; omega
  exact ⟨⟨s, kp_get hf (z _ (by decide) (by decide)) a, kp_get hf (z _ (by decide) (by decide)) b⟩, ⟨t, kp_get hf (z _ (by decide) (by decide)) c, kp_get hf (z _ (by decide) (by decide)) d, kp_get hf (z _ (by decide) (by decide)) e⟩⟩
/-- cells of a work's rows, and the model's -/
abbrev scr (S : List Nat) : Prop := ∀ k ∈ S, 17 ≤ k ∧ k < 61 ∧ (k < 30 ∨ 37 < k)
theorem cAt.kp {G : rG} {h h' : rH} {T : Tn} {S : List Nat} (q : cAt G h T) (hf : kp h h' S) (hS : scr S) : cAt G h' T := by
  obtain ⟨h0, h1, h2, h3, h4, h5, h6, h7⟩ := q
  have z := cTxt.kp ⟨h1, h2⟩ hf (fun k hk => Or.inr (by have := hS k hk; omega))
  exact ⟨kp_get hf (fun hk => by have := hS _ hk; omega) h0, z.1, z.2, h3.kp hf (fun k hk => by have := hS k hk; omega), h4.kp hf (fun k hk => by have := hS k hk; omega), h5.kp hf (fun k hk => by have := hS k hk; omega), h6.kp hf (fun k hk => by have := hS k hk; omega), h7.kp hf (fun k hk => by have := hS k hk; omega)⟩
theorem cAt.fr {G : rG} {h h' : rH} {T : Tn} {S : List Nat} (q : cAt G h T) (hf : fr h h' S) (hS : scr S) : cAt G h' T := q.kp (kp_fr hf) hS
