/-! THE CLASS, in the state's numbers: persons, laws, sheets; who sees and hears whom; mights -/
theorem Tn.ok.m12 {T : Tn} (o : T.ok) : T.m ≤ 12 := o.2.1.1
theorem Tn.ok.kd3 {T : Tn} (o : T.ok) {x : Nat} (hx : x < T.m) : T.kd x < 3 := (o.2.1.2.1 x hx).1
theorem Tn.ok.sen {T : Tn} (o : T.ok) {x : Nat} (hx : x < T.m) : T.se x < T.n := (o.2.1.2.1 x hx).2.1
theorem Tn.ok.sl10 {T : Tn} (o : T.ok) {x : Nat} (hx : x < T.m) : T.sl x < 10 := (o.2.1.2.1 x hx).2.2.1
theorem Tn.ok.ki10 {T : Tn} (o : T.ok) {x : Nat} (hx : x < T.m) : T.ki x < 10 := (o.2.1.2.1 x hx).2.2.2
theorem Tn.ok.sei {T : Tn} (o : T.ok) {x y : Nat} (hx : x < T.m) (hy : y < T.m) (e : T.se x = T.se y) : x = y := o.2.1.2.2 x y hx hy e
theorem Tn.ok.nl6 {T : Tn} (o : T.ok) : T.nl ≤ 6 := o.2.2.1.1
theorem Tn.ok.nu10 {T : Tn} (o : T.ok) {z w : Nat} (hz : z < T.nl) (hw : w < 7) : T.nu z w < 10 := (o.2.2.1.2 z hz).1 w hw
theorem Tn.ok.nu5 {T : Tn} (o : T.ok) {z : Nat} (hz : z < T.nl) : 1 ≤ T.nu z 5 := (o.2.2.1.2 z hz).2.1
theorem Tn.ok.nu6 {T : Tn} (o : T.ok) {z : Nat} (hz : z < T.nl) : T.nu z 5 ≤ T.nu z 6 := (o.2.2.1.2 z hz).2.2
theorem Tn.ok.ny24 {T : Tn} (o : T.ok) : T.ny ≤ 24 := o.2.2.2.1.1
theorem Tn.ok.ym {T : Tn} (o : T.ok) {q : Nat} (hq : q < T.ny) : T.ym q < 600 := (o.2.2.2.1.2.1 q hq).1
theorem Tn.ok.yw {T : Tn} (o : T.ok) {q : Nat} (hq : q < T.ny) : T.yw q < T.m := (o.2.2.2.1.2.1 q hq).2
theorem Tn.ok.ymm {T : Tn} (o : T.ok) {p q : Nat} (hp : p < q) (hq : q < T.ny) : T.ym p ≤ T.ym q := o.2.2.2.1.2.2 p q hp hq
theorem Tn.ok.sz60 {T : Tn} (o : T.ok) {q : Nat} (hq : q < 4) : T.sz q ≤ 60 := o.2.2.2.2 q hq
theorem Tn.ok.n32 {T : Tn} (o : T.ok) : T.n ≤ 32 := okC_n o.1
theorem Tn.ok.fc {T : Tn} (o : T.ok) (c : Nat) : T.face c < 4 := o.1.2.2.1 c
theorem if_cg {P Q : Prop} [Decidable P] [Decidable Q] {α : Type} {a b c d : α} (e : P ↔ Q) (h1 : a = c) (h2 : b = d) : (if P then a else b) = if Q then c else d := by
  subst h1; subst h2
  by_cases q : Q
  · rw [if_pos q, if_pos (e.mpr q)]
  · rw [if_neg q, if_neg (fun z => q (e.mp z))]
section CNAT
variable {l : Launch} {G : rG} {h : rH} {T : Tn}
theorem rV_of {v v' : Option Value} {F : Nat} {μ : rMth} {mc ms : Nat} {as : List Value} (e : v = v') (k : rM l G F μ mc ms as h (rV h v)) : rM l G F μ mc ms as h (rV h v') := e ▸ k
theorem c_person (q : cAt G h T) (o : T.ok) {x : Nat} (hx : x < T.m) : rM l G 0 mX11_personAt 0 0 [.ref (gN G + 0), .int (nI x)] h (rV h (some (.ref (gN G + T.pa x)))) := by
  obtain ⟨p, h1, h2⟩ := q.2.2.2.2.1
  have hm := o.m12
  refine rV_of ?_ (k_X11_personAt q.1 h1 (nI x))
  rw [if_pos ⟨nI_pos' (by omega), nI_lt hx (by omega), nI_lt (b := 12) (by omega) (by decide)⟩, nI_clamp (by omega), (h2 x hx).1]
  rfl
theorem c_personN (q : cAt G h T) {c : Int32} (hc : ¬ (0 ≤ c ∧ c < nI T.m)) : rM l G 0 mX11_personAt 0 0 [.ref (gN G + 0), .int c] h (rV h (some .null)) := by
  obtain ⟨p, h1, h2⟩ := q.2.2.2.2.1
  refine rV_of ?_ (k_X11_personAt q.1 h1 c)
  rw [if_neg (fun z => hc ⟨z.1, z.2.1⟩)]
  rfl
theorem c_law (q : cAt G h T) (o : T.ok) {z : Nat} (hz : z < T.nl) : rM l G 0 mX11_lawAt 0 0 [.ref (gN G + 0), .int (nI z)] h (rV h (some (.ref (gN G + T.la z)))) := by
  obtain ⟨p, h1, h2⟩ := q.2.2.2.2.2.1
  have hm := o.nl6
  refine rV_of ?_ (k_X11_lawAt q.1 h1 (nI z))
  rw [if_pos ⟨nI_pos' (by omega), nI_lt hz (by omega), nI_lt (b := 6) (by omega) (by decide)⟩, nI_clamp (by omega), (h2 z hz).1]
  rfl
theorem c_lawN (q : cAt G h T) {c : Int32} (hc : ¬ (0 ≤ c ∧ c < nI T.nl)) : rM l G 0 mX11_lawAt 0 0 [.ref (gN G + 0), .int c] h (rV h (some .null)) := by
  obtain ⟨p, h1, h2⟩ := q.2.2.2.2.2.1
  refine rV_of ?_ (k_X11_lawAt q.1 h1 c)
  rw [if_neg (fun z => hc ⟨z.1, z.2.1⟩)]
  rfl
theorem c_sheet (q : cAt G h T) {z : Nat} (hz : z < 4) : rM l G 0 mX11_sheetAt 0 0 [.ref (gN G + 0), .int (nI z)] h (rV h (some (.ref (gN G + (30 + 2 * z))))) := by
  obtain ⟨⟨p, h1, h2⟩, -⟩ := q.2.2.2.2.2.2.2
  refine rV_of ?_ (k_X11_sheetAt q.1 h1 (nI z))
  rw [if_pos ⟨nI_pos' (by omega), nI_lt (b := 4) hz (by decide)⟩, nI_clamp (by omega), h2 z hz]
  rfl
theorem c_sheetN (q : cAt G h T) {c : Int32} (hc : ¬ (0 ≤ c ∧ c < 4)) : rM l G 0 mX11_sheetAt 0 0 [.ref (gN G + 0), .int c] h (rV h (some .null)) := by
  obtain ⟨⟨p, h1, h2⟩, -⟩ := q.2.2.2.2.2.2.2
  refine rV_of ?_ (k_X11_sheetAt q.1 h1 c)
  rw [if_neg hc]
  rfl
theorem c_at (q : cAt G h T) {x : Nat} (hx : x < T.m) : h[T.pa x]? = some (pc (ciK (T.kd x)) (nI x) (nI (T.sl x)) (nI (T.ki x)) (nI (T.se x))) := by
  obtain ⟨p, h1, h2⟩ := q.2.2.2.2.1
  exact (h2 x hx).2.2
theorem c_lat (q : cAt G h T) {z : Nat} (hz : z < T.nl) : ∃ cb f, lawAtC G h (T.la z) cb f ∧ ∀ w, w < 7 → f w = nI (T.nu z w) := by
  obtain ⟨p, h1, h2⟩ := q.2.2.2.2.2.1
  obtain ⟨-, -, cb, f, -, e, g⟩ := h2 z hz
  exact ⟨cb, f, e, g⟩
theorem pa_inj (q : cAt G h T) (o : T.ok) {x y : Nat} (hx : x < T.m) (hy : y < T.m) : T.pa x = T.pa y ↔ x = y := by
  refine ⟨fun e => ?_, fun e => by rw [e]⟩
  have a := c_at q hx
  have b := c_at q hy
  have hm := o.m12
  rw [e, b] at a
  simp only [pc, Option.some.injEq, Sum.inr.injEq, Prod.mk.injEq, List.cons.injEq, Value.int.injEq] at a
  exact ((nI_eq (by omega) (by omega)).mp a.2.1).symm
theorem seenM_see (o : T.ok) {c : Nat} (hc : c < T.n) : seenM T.nb T.bl T.mir T.face c = fun x => if seeB T.1 c x then 1 else 0 := by
  have e := lineM_see o.1 hc
  unfold seenM
  rw [show lineM T.nb T.bl T.mir (T.face c) c = _ from e]
  rfl
theorem sees_see (o : T.ok) {x y : Nat} (hx : x < T.m) : T.sees x y ↔ (x ≠ y ∧ seeB T.1 (T.se x) (T.se y) = true) := by
  have hs := (o.sen hx)
  show (x ≠ y ∧ ¬ seenM T.nb T.bl T.mir T.face (T.se x) (T.se y) = 0) ↔ _
  rw [seenM_see o hs]
  by_cases e : seeB T.1 (T.se x) (T.se y) = true <;> simp [e]
theorem hear_D (o : T.ok) {c d : Nat} (hc : c < T.n) : hearM T.nb c d = hearD T.wi T.lo c d := by
  show ((((false || decide (T.nb c 0 = some d)) || decide (T.nb c 1 = some d)) || decide (T.nb c 2 = some d)) || decide (T.nb c 3 = some d)) = _
  have e := fun w hw => o.1.2.2.2.2.2 c w hc hw
  rw [show T.nb c 0 = besN T.wi T.lo c 0 from e 0 (by decide), show T.nb c 1 = besN T.wi T.lo c 1 from e 1 (by decide), show T.nb c 2 = besN T.wi T.lo c 2 from e 2 (by decide), show T.nb c 3 = besN T.wi T.lo c 3 from e 3 (by decide)]
  simp only [hearD, Bool.false_or]
theorem gap_hear (o : T.ok) {c d : Nat} (hc : c < T.n) (hd : d < T.n) : 0 ≤ gapW (nI T.wi) (nI T.n) (nI c) (nI d) ↔ hearM T.nb c d = true := by
  have hn := o.n32
  rw [show gapW (nI T.wi) (nI T.n) (nI c) (nI d) = _ from gap_D T.wi o.1.1 T.lo o.1.2.1 c hc d hd, hear_D o hc]
  have hg : gpN T.wi c d < 64 := by
    have h1 : c < 32 := Nat.lt_of_lt_of_le hc hn
    have h2 : d < 32 := Nat.lt_of_lt_of_le hd hn
    unfold gpN
    split <;> omega
  by_cases e : hearD T.wi T.lo c d = true
  · rw [if_pos e]
    exact ⟨fun _ => e, fun _ => nI_pos' (by omega)⟩
  · rw [if_neg e]
    exact ⟨fun z => absurd z (by decide), fun z => absurd z e⟩
theorem sees_on (q : cAt G h T) (o : T.ok) {L : Nat → Int32} (hL : ∀ c, c < T.n → L c = lineW (nI T.wi) (nI T.n) (bI T.mir) T.B (nI (T.face c)) 32 0 (nI c)) {x y : Nat} (hx : x < T.m) (hy : y < T.m) : (T.pa x ≠ T.pa y ∧ onL L (nI (T.se x)) (nI (T.se y))) ↔ T.sees x y := by
  have hn := o.n32
  have hs : T.se x < T.n := (o.2.1.2.1 x hx).2.1
  have ht : T.se y < T.n := (o.sen hy)
  have hs2 : T.se x < 32 := Nat.lt_of_lt_of_le hs hn
  have ht2 : T.se y < 32 := Nat.lt_of_lt_of_le ht hn
  rw [sees_see o hx, onL_iff hs2 ht2, hL _ hs, show bt _ _ = _ from lineW_see o.1 hs ht2, Ne, pa_inj q o hx hy]
theorem c_sees (q : cAt G h T) (o : T.ok) {x y : Nat} (hx : x < T.m) (hy : y < T.m) : rM l G 2 mX11_sees 0 0 [.ref (gN G + 0), .ref (gN G + T.pa x), .ref (gN G + T.pa y)] h (rV h (some (.int (if T.sees x y then 1 else 0)))) := by
  obtain ⟨f0, s, L, hc, -, h1, hL⟩ := q.2.2.2.1
  refine rV_of ?_ (k_X11_sees q.1 hc (c_at q hx) (c_at q hy) (ciK_P _) (ciK_P _))
  congr 2
  exact if_cg (sees_on q o hL hx hy) rfl rfl
theorem c_hears (q : cAt G h T) (o : T.ok) {x y : Nat} (hx : x < T.m) (hy : y < T.m) : rM l G 2 mX11_hears 0 0 [.ref (gN G + 0), .ref (gN G + T.pa x), .ref (gN G + T.pa y)] h (rV h (some (.int (if hearM T.nb (T.se x) (T.se y) = true then 1 else 0)))) := by
  obtain ⟨f0, s, L, hc, -, h1, hL⟩ := q.2.2.2.1
  refine rV_of ?_ (k_X11_hears q.1 hc (c_at q hx) (c_at q hy) (ciK_P _) (ciK_P _))
  congr 2
  exact if_cg (gap_hear o (o.sen hx) (o.sen hy)) rfl rfl
theorem tkI_N {k s y : Nat} {b : Bool} (hk : k < 3) (h : s * y < 2 ^ 31) : takenI (ciK k) b (nI s) (nI y) = nI (takenN k b s y) := by
  rcases (show k = 0 ∨ k = 1 ∨ k = 2 by omega) with e | e | e
  · subst e; rfl
  · subst e
    show nI s * nI y / 9 = _
    rw [tk_mul h]
    simp [takenN]
  · subst e
    cases b
    · rfl
    · show nI s * nI y / 9 = _
      rw [tk_mul h]
      simp [takenN]
theorem mul_lt {a b A B : Nat} (ha : a < A) (hb : b < B) : a * b < A * B := Nat.mul_lt_mul_of_lt_of_le ha (Nat.le_of_lt hb) (by omega)
theorem tkm_N {k i j s : Nat} {f : Nat → Int32} {u v : Nat} (hk : k < 3) (hi : i < 10) (hj : j < 10) (hs : s < 10) (hf3 : f 3 = nI u) (hf4 : f 4 = nI v) (hu : u < 10) (hv : v < 10) : tkmI (ciK k) f (nI i) (nI j) (nI s) = nI (takenN k (decide (i = j)) (if i = j then s * u else s) v) := by
  have e := nI_eq (a := i) (b := j) (by omega) (by omega)
  have d : decide (nI i = nI j) = decide (i = j) := decide_eq_decide.mpr e
  have m1 := mul_lt hs hu
  unfold tkmI
  rw [d, hf3, hf4]
  by_cases q : i = j
  · rw [if_pos (e.mpr q), if_pos q, pk_mul, tkI_N hk (by have := mul_lt m1 hv; omega)]
  · rw [if_neg (fun z => q (e.mp z)), if_neg q, tkI_N hk (by have := mul_lt hs hv; omega)]
theorem c_takenMight (q : cAt G h T) (o : T.ok) {z x y s : Nat} (hz : z < T.nl) (hx : x < T.m) (hy : y < T.m) (hs : s < 10) : rM l G 3 mX11_takenMight 0 0 [.ref (gN G + T.la z), .ref (gN G + T.pa x), .ref (gN G + T.pa y), .int (nI s)] h (rV h (some (.int (nI (takenN (T.kd x) (decide (T.ki x = T.ki y)) (if T.ki x = T.ki y then s * T.nu z 3 else s) (T.nu z 4)))))) := by
  obtain ⟨cb, f, hl, hf⟩ := c_lat q hz
  have hu := fun w (hw : w < 7) => o.nu10 hz hw
  refine rV_of ?_ (k_X11_takenMight hl (c_at q hx) (c_at q hy) (ciK_P _) (ciK_P _) _)
  rw [tkm_N (o.kd3 hx) (o.ki10 hx) (o.ki10 hy) hs (hf 3 (by decide)) (hf 4 (by decide)) (hu 3 (by decide)) (hu 4 (by decide))]
theorem c_unseen (q : cAt G h T) (o : T.ok) {z x y : Nat} (hz : z < T.nl) (hx : x < T.m) (hy : y < T.m) : rM l G 3 mX11_unseenStrength 0 0 [.ref (gN G + 0), .ref (gN G + T.la z), .ref (gN G + T.pa x), .ref (gN G + T.pa y)] h (rV h (some (.int (nI (itsN T.nu z false (hearM T.nb (T.se x) (T.se y))))))) := by
  obtain ⟨f0, s, L, hc, -, h1, hL⟩ := q.2.2.2.1
  obtain ⟨cb, f, hl, hf⟩ := c_lat q hz
  refine rV_of ?_ (k_X11_unseenStrength q.1 hc hl (c_at q hx) (c_at q hy) (ciK_P _) (ciK_P _))
  rw [hf 2 (by decide)]
  have g := gap_hear o (o.sen hx) (o.sen hy)
  congr 2
  rw [if_cg g rfl rfl]
  unfold itsN
  cases hearM T.nb (T.se x) (T.se y) <;> rfl
theorem c_catch (q : cAt G h T) (o : T.ok) {z x y : Nat} (hz : z < T.nl) (hx : x < T.m) (hy : y < T.m) : rM l G 4 mX11_catchMight 0 0 [.ref (gN G + 0), .ref (gN G + T.la z), .ref (gN G + T.pa x), .ref (gN G + T.pa y)] h (rV h (some (.int (nI (T.mi z x y))))) := by
  obtain ⟨f0, s, L, hc, -, h1, hL⟩ := q.2.2.2.1
  obtain ⟨cb, f, hl, hf⟩ := c_lat q hz
  have hu := fun w (hw : w < 7) => o.nu10 hz hw
  refine rV_of ?_ (k_X11_catchMight q.1 hc hl (c_at q hx) (c_at q hy) (ciK_P _) (ciK_P _))
  have g := gap_hear o (o.sen hx) (o.sen hy)
  rw [hf 1 (by decide), hf 2 (by decide), if_cg (sees_on q o hL hx hy) rfl (if_cg g rfl rfl)]
  have e : (if T.sees x y then nI (T.nu z 1) else if hearM T.nb (T.se x) (T.se y) = true then nI (T.nu z 2) else 0) = nI (itsN T.nu z (decide (T.sees x y)) (hearM T.nb (T.se x) (T.se y))) := by
    unfold itsN
    by_cases e1 : T.sees x y
    · rw [if_pos e1, if_pos (decide_eq_true e1)]
    · rw [if_neg e1, if_neg (fun z => e1 (of_decide_eq_true z))]
      by_cases e2 : hearM T.nb (T.se x) (T.se y) = true
      · rw [if_pos e2, if_pos e2]
      · rw [if_neg e2, if_neg e2]; rfl
  rw [e, tkm_N (o.kd3 hx) (o.ki10 hx) (o.ki10 hy) (by
    unfold itsN
    repeat' split
    all_goals first | exact hu 1 (by decide) | exact hu 2 (by decide) | decide) (hf 3 (by decide)) (hf 4 (by decide)) (hu 3 (by decide)) (hu 4 (by decide))]
  rfl
theorem c_film (q : cAt G h T) (o : T.ok) {z x y : Nat} (hz : z < T.nl) (hx : x < T.m) (hy : y < T.m) : rM l G 4 mX11_filmMight 0 0 [.ref (gN G + T.la z), .ref (gN G + T.pa x), .ref (gN G + T.pa y)] h (rV h (some (.int (nI (T.fi z x y))))) := by
  obtain ⟨cb, f, hl, hf⟩ := c_lat q hz
  have hu := fun w (hw : w < 7) => o.nu10 hz hw
  refine rV_of ?_ (k_X11_filmMight hl (c_at q hx) (c_at q hy) (ciK_P _) (ciK_P _))
  rw [hf 1 (by decide), tkm_N (o.kd3 hx) (o.ki10 hx) (o.ki10 hy) (hu 1 (by decide)) (hf 3 (by decide)) (hf 4 (by decide)) (hu 3 (by decide)) (hu 4 (by decide))]
  rfl
theorem c_own (q : cAt G h T) (o : T.ok) {z x : Nat} (hz : z < T.nl) (hx : x < T.m) : rM l G 2 mX11_ownMight 0 0 [.ref (gN G + 0), .ref (gN G + T.la z), .ref (gN G + T.pa x)] h (rV h (some (.int (nI (T.own z x))))) := by
  obtain ⟨cb, f, hl, hf⟩ := c_lat q hz
  have hu := fun w (hw : w < 7) => o.nu10 hz hw
  have hs := (o.sl10 hx)
  refine rV_of ?_ (k_X11_ownMight hl (c_at q hx) q.1 (ciK_P _))
  have e : (9 : Int32) - nI (T.sl x) + 1 = nI (10 - T.sl x) := by
    rw [show (9 : Int32) = nI 9 from rfl, pk_sub (by omega), nI_1]
    congr 1
    omega
  have m1 := mul_lt (hu 0 (by decide)) (show 10 - T.sl x < 11 by omega)
  have t := tkI_N (k := T.kd x) (b := true) (s := T.nu z 0 * (10 - T.sl x)) (y := T.nu z 4) (o.kd3 hx) (by have := mul_lt m1 (hu 4 (by decide)); omega)
  unfold ownI
  rw [e, hf 0 (by decide), hf 4 (by decide), pk_mul]
  congr 2
  refine Eq.trans ?_ t
  unfold takenI
  simp
end CNAT
