/-! THE FRAME OF EVERY WALK. A world is a list of cells h; cell k stands at the machine's address gN + k; what stood below gN when the law began is never written. -/
abbrev rG : Type := Nat × va_G × (Nat → ClassId) × (Nat → Nat) × Nat × (Nat → Int32)
abbrev gN (G : rG) : Nat := G.1
abbrev gD (G : rG) : va_G := G.2.1
abbrev gA (G : rG) : Nat → ClassId := G.2.2.1
abbrev gS (G : rG) : Nat → Nat := G.2.2.2.1
abbrev gL (G : rG) : Nat := G.2.2.2.2.1
abbrev gX (G : rG) : Nat → Int32 := G.2.2.2.2.2
abbrev rH : Type := List va_E
def rws (G : rG) (h : rH) : va_W := h.mapIdx fun k e => (gN G + k, e)
abbrev rFr (G : rG) : Addr → Prop := fun q => gN G ≤ q
def rT (G : rG) : List (ClassId × FieldType) := [(gA G 0, .int), (gA G 1, .boolean), (gA G 2, .object RX8), (gA G 3, .object RX7), (gA G 4, .object RX5)]
def rE (G : rG) (h : rH) (H : Heap) : Prop := va_P (gD G) vwCl (rws G h) H ∧ H.size = gN G + h.length
theorem rws_get {G : rG} {h : rH} {a : Nat} {e : va_E} (hc : h[a]? = some e) : (rws G h)[a]? = some (gN G + a, e) := by
  simp [rws, List.getElem?_mapIdx, hc]
theorem rws_inv {G : rG} {h : rH} {a : Nat} {q : Nat × va_E} (hc : (rws G h)[a]? = some q) : q.1 = gN G + a ∧ h[a]? = some q.2 := by
  simp only [rws, List.getElem?_mapIdx] at hc
  cases hh : h[a]? with
  | none => rw [hh] at hc; cases hc
  | some e => rw [hh] at hc; cases hc; exact ⟨rfl, rfl⟩
theorem rws_D (G : rG) (h : rH) : va_D (rFr G) (rws G h) := by
  refine ⟨fun i j p q hi hj hpq => ?_, fun k q hk => ?_⟩
  · have h1 := (rws_inv hi).1
    have h2 := (rws_inv hj).1
    omega
  · have h1 := (rws_inv hk).1
    show gN G ≤ q.1
    omega
theorem rws_set {G : rG} {h : rH} {a : Nat} {e : va_E} : rws G (h.set a e) = (rws G h).set a (gN G + a, e) := by
  refine List.ext_getElem? fun k => ?_
  simp only [rws, List.getElem?_mapIdx, List.getElem?_set, List.length_mapIdx]
  by_cases hk : a = k
  · subst hk
    by_cases hl : a < h.length
    · simp [hl]
    · simp [hl]
  · simp [hk]
theorem rws_push {G : rG} {h : rH} {e : va_E} : rws G (h ++ [e]) = rws G h ++ [(gN G + h.length, e)] := by
  simp [rws, List.mapIdx_append]
theorem rE_set {G : rG} {h : rH} {a : Nat} {e0 e : va_E} {H H1 : Heap} (hE : rE G h H) (hc : h[a]? = some e0) (he : va_at (gD G) vwCl (gN G + a, e) H1) (z : H1.size = H.size) (oq : ∀ q : Nat, q ≠ gN G + a → H1[q]? = H[q]?) : rE G (h.set a e) H1 := by
  refine ⟨?_, by rw [z, hE.2, List.length_set]⟩
  rw [rws_set]
  exact hE.1.set (rws_D G h) (rws_get hc) he oq
theorem rE_push {G : rG} {h : rH} {e : va_E} {H H1 : Heap} (hE : rE G h H) (he : va_at (gD G) vwCl (H.size, e) H1) (z : H1.size = H.size + 1) (oq : ∀ q : Nat, q < H.size → H1[q]? = H[q]?) : rE G (h ++ [e]) H1 := by
  refine ⟨?_, by rw [z, hE.2, List.length_append]; rfl⟩
  rw [rws_push]
  refine (hE.1.kept (fun k x hx => oq x.1 (hE.1 k x hx).lt)).app (fun k x hx => ?_)
  have hz : k < 1 := (List.getElem?_eq_some_iff.mp hx).1
  rw [show k = 0 by omega] at hx
  cases hx
  rw [← hE.2]
  exact he
/-! the locals: a list by places; a wide value's second place holds none -/
def rkill : Option Value → Option Value
  | some (.long _) => none
  | some (.double _) => none
  | x => x
def rst : List (Option Value) → Nat → Value → List (Option Value)
  | [], _, _ => []
  | _ :: l, 0, v => some v :: l
  | a :: l, 1, v => rkill a :: rst l 0 v
  | a :: l, i + 2, v => a :: rst l (i + 1) v
def rst2 : List (Option Value) → Nat → Value → List (Option Value)
  | [], _, _ => []
  | _ :: l, 0, v => some v :: none :: l.tail
  | a :: l, 1, v => rkill a :: rst2 l 0 v
  | a :: l, i + 2, v => a :: rst2 l (i + 1) v
def rlF : Nat → List (Option Value) → List (Nat × Value)
  | _, [] => []
  | i, none :: l => rlF (i + 1) l
  | i, some v :: l => (i, v) :: rlF (i + 1) l
def rent : Nat → List Value → List (Option Value)
  | n, [] => List.replicate n none
  | n, .long x :: vs => some (.long x) :: none :: rent (n - 2) vs
  | n, .double x :: vs => some (.double x) :: none :: rent (n - 2) vs
  | n, v :: vs => some v :: rent (n - 1) vs
theorem rlF_mem : ∀ (l : List (Option Value)) (i : Nat) (q : Nat × Value), q ∈ rlF i l ↔ ∃ k, q.1 = i + k ∧ l[k]? = some (some q.2)
  | [], i, q => by simp [rlF]
  | none :: l, i, q => by
    rw [show rlF i (none :: l) = rlF (i + 1) l from rfl, rlF_mem l (i + 1) q]
    constructor
    · rintro ⟨k, h1, h2⟩
      exact ⟨k + 1, by omega, by simpa using h2⟩
    · rintro ⟨k, h1, h2⟩
      cases k with
      | zero => simp at h2
      | succ k => exact ⟨k, by omega, by simpa using h2⟩
  | some v :: l, i, q => by
    rw [show rlF i (some v :: l) = (i, v) :: rlF (i + 1) l from rfl, List.mem_cons, rlF_mem l (i + 1) q]
    constructor
    · rintro (rfl | ⟨k, h1, h2⟩)
      · exact ⟨0, rfl, rfl⟩
      · exact ⟨k + 1, by omega, by simpa using h2⟩
    · rintro ⟨k, h1, h2⟩
      cases k with
      | zero =>
        left
        simp at h2
        exact Prod.ext h1 h2.symm
      | succ k => exact Or.inr ⟨k, by omega, by simpa using h2⟩
theorem rkill_some {a : Option Value} {w : Value} (h : rkill a = some w) : a = some w ∧ w.category ≠ 2 := by
  cases a with
  | none => cases h
  | some v => cases v <;> simp_all [rkill, Value.category] <;> (subst h; simp [Value.category])
theorem rst_get : ∀ (l : List (Option Value)) (i : Nat) (v : Value) (j : Nat) (w : Value), (rst l i v)[j]? = some (some w) → (j = i ∧ w = v) ∨ (j ≠ i ∧ l[j]? = some (some w) ∧ ¬ (j + 1 = i ∧ w.category = 2))
  | [], i, v, j, w, h => by simp [rst] at h
  | a :: l, 0, v, j, w, h => by
    cases j with
    | zero => simp [rst] at h; exact Or.inl ⟨rfl, h.symm⟩
    | succ j => simp [rst] at h; exact Or.inr ⟨by omega, by simpa using h, by omega⟩
  | a :: l, 1, v, j, w, h => by
    cases j with
    | zero =>
      simp [rst] at h
      obtain ⟨h1, h2⟩ := rkill_some h
      exact Or.inr ⟨by omega, by simpa using h1, fun q => h2 q.2⟩
    | succ j =>
      have h' : (rst l 0 v)[j]? = some (some w) := by simpa [rst] using h
      rcases rst_get l 0 v j w h' with ⟨h1, h2⟩ | ⟨h1, h2, h3⟩
      · exact Or.inl ⟨by omega, h2⟩
      · exact Or.inr ⟨by omega, by simpa using h2, by omega⟩
  | a :: l, i + 2, v, j, w, h => by
    cases j with
    | zero => simp [rst] at h; exact Or.inr ⟨by omega, by simpa using h, by omega⟩
    | succ j =>
      have h' : (rst l (i + 1) v)[j]? = some (some w) := by simpa [rst] using h
      rcases rst_get l (i + 1) v j w h' with ⟨h1, h2⟩ | ⟨h1, h2, h3⟩
      · exact Or.inl ⟨by omega, h2⟩
      · exact Or.inr ⟨by omega, by simpa using h2, by rintro ⟨q1, q2⟩; exact h3 ⟨by omega, q2⟩⟩
theorem rst2_get : ∀ (l : List (Option Value)) (i : Nat) (v : Value) (j : Nat) (w : Value), (rst2 l i v)[j]? = some (some w) → (j = i ∧ w = v) ∨ (j ≠ i ∧ j ≠ i + 1 ∧ l[j]? = some (some w) ∧ ¬ (j + 1 = i ∧ w.category = 2))
  | [], i, v, j, w, h => by simp [rst2] at h
  | a :: l, 0, v, j, w, h => by
    cases j with
    | zero => simp [rst2] at h; exact Or.inl ⟨rfl, h.symm⟩
    | succ j =>
      cases j with
      | zero => simp [rst2] at h
      | succ j =>
        simp [rst2] at h
        refine Or.inr ⟨by omega, by omega, ?_, by omega⟩
        cases l with
        | nil => simp at h
        | cons b l => simpa using h
  | a :: l, 1, v, j, w, h => by
    cases j with
    | zero =>
      simp [rst2] at h
      obtain ⟨h1, h2⟩ := rkill_some h
      exact Or.inr ⟨by omega, by omega, by simpa using h1, fun q => h2 q.2⟩
    | succ j =>
      have h' : (rst2 l 0 v)[j]? = some (some w) := by simpa [rst2] using h
      rcases rst2_get l 0 v j w h' with ⟨h1, h2⟩ | ⟨h1, h2, h3, h4⟩
      · exact Or.inl ⟨by omega, h2⟩
      · exact Or.inr ⟨by omega, by omega, by simpa using h3, by omega⟩
  | a :: l, i + 2, v, j, w, h => by
    cases j with
    | zero => simp [rst2] at h; exact Or.inr ⟨by omega, by omega, by simpa using h, by omega⟩
    | succ j =>
      have h' : (rst2 l (i + 1) v)[j]? = some (some w) := by simpa [rst2] using h
      rcases rst2_get l (i + 1) v j w h' with ⟨h1, h2⟩ | ⟨h1, h2, h3, h4⟩
      · exact Or.inl ⟨by omega, h2⟩
      · exact Or.inr ⟨by omega, by omega, by simpa using h3, by rintro ⟨q1, q2⟩; exact h4 ⟨by omega, q2⟩⟩
theorem rl_st {lsM : Array Slot} {nL : Nat} {ls : List (Option Value)} {i : Nat} {v : Value} (h : lv_has lsM nL ((i, v) :: (rlF 0 ls).filter (fun q => !(q.1 == i) && !(q.1 + 1 == i && q.2.category == 2)))) : lv_has lsM nL (rlF 0 (rst ls i v)) := by
  refine ⟨h.1, h.2.1, fun q hq => h.2.2 q ?_⟩
  obtain ⟨k, h1, h2⟩ := (rlF_mem _ _ _).mp hq
  rcases rst_get ls i v k q.2 h2 with ⟨h3, h4⟩ | ⟨h3, h4, h5⟩
  · exact List.mem_cons.mpr (Or.inl (Prod.ext (by omega) h4))
  · refine List.mem_cons.mpr (Or.inr (List.mem_filter.mpr ⟨(rlF_mem _ _ _).mpr ⟨k, h1, h4⟩, ?_⟩))
    have e1 : q.1 = k := by omega
    have h6 : ¬ (k + 1 = i ∧ q.2.category = 2) := h5
    by_cases hc : q.2.category = 2 <;> simp_all
theorem rl_st2 {lsM : Array Slot} {nL : Nat} {ls : List (Option Value)} {i : Nat} {v : Value} (h : lv_has lsM nL ((i, v) :: (rlF 0 ls).filter (fun q => !(q.1 == i) && (!(q.1 == i + 1) && !(q.1 + 1 == i && q.2.category == 2))))) : lv_has lsM nL (rlF 0 (rst2 ls i v)) := by
  refine ⟨h.1, h.2.1, fun q hq => h.2.2 q ?_⟩
  obtain ⟨k, h1, h2⟩ := (rlF_mem _ _ _).mp hq
  rcases rst2_get ls i v k q.2 h2 with ⟨h3, h4⟩ | ⟨h3, h3', h4, h5⟩
  · exact List.mem_cons.mpr (Or.inl (Prod.ext (by omega) h4))
  · refine List.mem_cons.mpr (Or.inr (List.mem_filter.mpr ⟨(rlF_mem _ _ _).mpr ⟨k, h1, h4⟩, ?_⟩))
    have e1 : q.1 = k := by omega
    have h6 : ¬ (k + 1 = i ∧ q.2.category = 2) := h5
    by_cases hc : q.2.category = 2 <;> simp_all
theorem rl_at {lsM : Array Slot} {nL : Nat} {ls : List (Option Value)} (h : lv_has lsM nL (rlF 0 ls)) {i : Nat} {v : Value} (hi : ls[i]? = some (some v)) : lsM[i]? = some (.val v) :=
  h.2.2 (i, v) ((rlF_mem _ _ _).mpr ⟨i, by omega, hi⟩)
theorem rent_mem : ∀ (vs : List Value) (n i : Nat) (q : Nat × Value), q ∈ rlF i (rent n vs) → q ∈ lv_args i vs
  | [], n, i, q, h => by
    obtain ⟨k, h1, h2⟩ := (rlF_mem _ _ _).mp h
    simp [rent, List.getElem?_replicate] at h2
  | v :: vs, n, i, q, h => by
    have ih := fun n i => rent_mem vs n i q
    cases v <;> simp only [rent, rlF, lv_args, List.mem_cons, Value.category, if_true] at h ⊢ <;> first
      | exact h.imp_right (fun h => ih _ _ h)
      | (refine h.imp_right (fun h => ?_); rw [if_neg (by decide)]; exact ih _ _ h)
theorem rl_entry (vs : List Value) {n : Nat} (h : (lg_sl vs).length ≤ n) : lv_has ((lg_sl vs ++ List.replicate (n - (lg_sl vs).length) Slot.unset).toArray) n (rlF 0 (rent n vs)) := by
  have h0 := lv_entry vs h
  exact ⟨h0.1, h0.2.1, fun q hq => h0.2.2 q (rent_mem vs n 0 q hq)⟩
