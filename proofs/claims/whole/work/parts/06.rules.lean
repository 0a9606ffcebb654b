def rK (G : rG) (U : State) : Prop :=
  va_K (gD G) vwCl (rT G) U ∧ (∀ w ∈ lw_tbl, rBadW w = true → va_Nw w U) ∧ gN G ≤ U.heap.size ∧ va_X (gS G 0) (gL G) (gX G) U U.heap ∧ gS G 0 < gN G ∧ va_Z RX6 "LEAST" "[I" (.ref (gS G 1)) (rFr G) U U.heap ∧ va_T .int (gS G 1) 7 (fun j => .int (rLeast j)) (rFr G) U U.heap ∧ va_Z RX6 "UNTOLD" "[I" (.ref (gS G 2)) (rFr G) U U.heap ∧ va_T .int (gS G 2) 7 (fun j => .int (rUntold j)) (rFr G) U U.heap
theorem rK.moved {G : rG} {s U : State} (h : rK G s) (hW : s.WarmedH U.vm) (hz : s.heap.size ≤ U.heap.size) (hq : ∀ q : Nat, q < s.heap.size → ¬ rFr G q → U.heap[q]? = s.heap[q]?) : rK G U := by
  obtain ⟨h1, h2, h3, h4, h5, h6, h7, h8, h9⟩ := h
  exact ⟨h1.moved hW.alike, fun w hw hb => rBad_warm hb hW (h2 w hw hb), Nat.le_trans h3 hz,
    (h4.moved hW.alike).kept (hq _ (Nat.lt_of_lt_of_le h5 h3) (Nat.not_le.mpr h5)), h5,
    (h6.moved hW.alike).kept hq, (h7.moved hW.alike).kept hq, (h8.moved hW.alike).kept hq, (h9.moved hW.alike).kept hq⟩
def rGood : List Cond := lw_tbl.filter goodWord
def rMw (μ : rMth) : List Cond := .code μ.1 μ.2.1 μ.2.2.1 μ.2.2.2 :: rGood
def rRm (F mc ms : Nat) : Room := { frames := F, cells := mc, slots := ms, locals := 41 * F }
def rPre (G : rG) (as : List Value) (h : rH) : Array Value → State → Prop := fun v U => v = as.toArray ∧ rK G U ∧ rE G h U.heap
def rPost (G : rG) (Q : rH → Option Value → Prop) : Array Value → State → Outcome → State → Prop := fun _ st oc t => (∃ (h' : rH) (v : Option Value), oc = .returned v ∧ Q h' v ∧ rE G h' t.heap) ∧ va_F (rFr G) st t
def rM (l : Launch) (G : rG) (F : Nat) (μ : rMth) (mc ms : Nat) (as : List Value) (h : rH) (Q : rH → Option Value → Prop) : Prop := Met l μ.1 (rMw μ) (rRm F mc ms) (rPre G as h) (rPost G Q) mc ms (rFr G)
abbrev rZt : Type := List Frame → Array Value → State → State → Prop
def rZ (G : rG) (Q : rH → Option Value → Prop) (mc ms : Nat) : rZt := fun below args s => MQ below (rPost G Q) args s mc ms (rFr G)
def rW (l : Launch) (G : rG) (R : Room) (μ : rMth) (Z : rZt) (k n pc : Nat) (ls : List (Option Value)) (st : List Value) (h : rH) : Prop :=
  ∀ (p : Program) (e : Env) (s : State) (m : MethodId) (args : Array Value) (below : List Frame) (meth : Method) (c : Code) (H : Heap) (locs : List Loc) (lsM : Array Slot),
    p.tables.exec = Jvm.exec → c.code = μ.2.1 → c.maxLocals = μ.2.2.1 → meth.sig.returnType = μ.2.2.2 → meth.locks = false → meth.name = μ.1.name → s.vm.findClass μ.1.cls = some m.cls →
    (∀ w ∈ rTbl, w.before args s = true) → rK G s → va_S (rFr G) s.heap H locs → rE G h H → lv_has lsM μ.2.2.1 (rlF 0 ls) →
    W p l e R s m args below meth c H locs k n (Z below args s) (F0 m pc lsM st)
theorem rM_blind (G : rG) (as : List Value) (h : rH) : FrameBlind (rPre G as h) := by
  intro a U g mk hp
  obtain ⟨h1, h2, h3⟩ := hp
  exact ⟨h1, h2.moved (U := U.calling g mk a) (State.WarmedH.refl U) (Nat.le_refl _) (fun _ _ _ => rfl), h3⟩
theorem rHts {args : Array Value} {s : State} (hg : ∀ w ∈ rGood, w.before args s = true) (hb : ∀ w ∈ lw_tbl, rBadW w = true → va_Nw w s) : ∀ w ∈ rTbl, w.before args s = true := by
  intro w hw
  obtain ⟨hw, h⟩ := List.mem_filter.mp hw
  cases hgw : goodWord w with
  | true => exact hg w (List.mem_filter.mpr ⟨hw, hgw⟩)
  | false =>
    rw [hgw, Bool.false_or] at h
    exact rBad_use h (hb w hw h)
theorem rM_start {l : Launch} {G : rG} {F : Nat} {μ : rMth} {mc ms : Nat} {as : List Value} {h : rH} {Q : rH → Option Value → Prop} (hy : plainName μ.1.cls = true) (hlen : (lg_sl as).length ≤ μ.2.2.1)
    (kk : rW l G (rRm F mc ms) μ (rZ G Q mc ms) 0 0 0 (rent μ.2.2.1 as) [] h) : rM l G F μ mc ms as h Q := by
  refine Met.ofW (cc := μ.2.1) (maxL := μ.2.2.1) (ret := μ.2.2.2) hy rfl ?_
  intro p e s m args below meth c s₁ B hml hv
  obtain ⟨rfl, hK, hE⟩ := hv
  rw [lg_entry_eq]
  have hw := atoms_spec (ws := rMw μ) B.pre
  exact kk p e s m _ below meth c s.heap [] _ B.exec B.bytes hml B.returns B.notSynchronized (name_of_methodNamed B.named B.method).1 (findClass_of_methodNamed B.named) (rHts (fun w h => hw w (List.mem_cons_of_mem _ h)) hK.2.1) hK va_S.rf hE (rl_entry as hlen)
theorem rM_good {w : Cond} (h : w ∈ rGood) : w ∈ rTbl ∧ goodWord w = true := by
  obtain ⟨h1, h2⟩ := List.mem_filter.mp h
  exact ⟨List.mem_filter.mpr ⟨h1, by rw [h2]; rfl⟩, h2⟩
theorem rM_words {μ : rMth} (h : Cond.code μ.1 μ.2.1 μ.2.2.1 μ.2.2.2 ∈ rTbl) : GoodIn rTbl (rMw μ) := by
  intro w hw
  rcases List.mem_cons.mp hw with rfl | hw
  · exact ⟨h, good_of_word rfl⟩
  · exact ⟨(rM_good hw).1, good_of_word (rM_good hw).2⟩
theorem rW_after {p : Program} {l : Launch} {e : Env} {G : rG} {R : Room} {s : State} {m : MethodId} {args : Array Value} {below : List Frame} {meth : Method} {c : Code} {H : Heap} {locs : List Loc} {k n mc ms pc : Nat} {Z : State → Prop} {lsM : Array Slot} {st0 rest : List Value} {Q : rH → Option Value → Prop} {as : Array Value}
    (hr : va_Run p l e R s m args below meth c H locs k n mc ms (F0 m pc lsM st0) rest (rPost G Q as) (rFr G)) (hS : va_S (rFr G) s.heap H locs)
    (kk : ∀ (h' : rH) (v : Option Value) (H1 : Heap) (locs1 : List Loc), Q h' v → rE G h' H1 → va_S (rFr G) s.heap H1 locs1 → W p l e R s m args below meth c H1 locs1 (k + mc) (n + ms) Z (F0 m (pc + 3) lsM (v.toList ++ rest))) : W p l e R s m args below meth c H locs k n Z (F0 m pc lsM st0) := by
  intro T hT X
  obtain ⟨v, st₀, t, T', L, h0, X', hL, e1, e2, ⟨⟨h', v', hv, hq, hE⟩, hz, hk⟩, st⟩ := hr T hT X
  cases hv
  rw [h0] at hz hk
  obtain ⟨t2, a1, b1⟩ := kk h' v T'.heap (locs ++ L) hq (by rw [e1]; exact hE)
    ⟨Nat.le_trans hS.1 (by rw [e1]; exact hz), fun q h1 h2 => by rw [e1, hk q (Nat.lt_of_lt_of_le h1 hS.1) h2]; exact hS.2.1 q h1 h2, fun q hq => by
      rcases List.mem_append.mp hq with h | h
      · exact hS.2.2 q h
      · exact hL q h⟩ T' rfl X'
  exact ⟨t2, st t2 a1, b1⟩
/-- what stands of a state that a call begins in -/
theorem rPre_call {G : rG} {h : rH} {as : List Value} {s U : State} {H : Heap} {locs : List Loc} (hK : rK G s) (hS : va_S (rFr G) s.heap H locs) (hE : rE G h H) (hU : U.heap = H) (hW : s.WarmedH U.vm) : rPre G as h as.toArray U :=
  ⟨rfl, hK.moved hW (by rw [hU]; exact hS.1) (fun q h1 h2 => by rw [hU]; exact hS.2.1 q h1 h2), by rw [hU]; exact hE⟩
section RULES
variable {l : Launch} {G : rG} {R : Room} {μ : rMth} {Z : rZt} {k n pc : Nat} {ls : List (Option Value)} {st : List Value} {h : rH}
theorem a_iconst {i : Int} (v : Int32) (q : Nat) (d : decode μ.2.1 pc = .ok (.iconst i, 1)) (hq : pc + 1 = q) (hv : Int32.ofInt i = v) (kk : rW l G R μ Z k n q ls (.int v :: st) h) : rW l G R μ Z k n pc ls st h := by
  subst hq
  intro p e s m args below meth c H locs lsM hx hb hm hr hlk hnm hown hts hK hS hE hl
  exact lv_iconst hx hb d hv (kk p e s m args below meth c H locs lsM hx hb hm hr hlk hnm hown hts hK hS hE hl)
theorem a_bipush {i : Int} (v : Int32) (q : Nat) (d : decode μ.2.1 pc = .ok (.bipush i, 2)) (hq : pc + 2 = q) (hv : (Int8.ofInt i).toInt32 = v) (kk : rW l G R μ Z k n q ls (.int v :: st) h) : rW l G R μ Z k n pc ls st h := by
  subst hq
  intro p e s m args below meth c H locs lsM hx hb hm hr hlk hnm hown hts hK hS hE hl
  exact lv_bipush hx hb d hv (kk p e s m args below meth c H locs lsM hx hb hm hr hlk hnm hown hts hK hS hE hl)
theorem a_sipush {i : Int} (v : Int32) (q : Nat) (d : decode μ.2.1 pc = .ok (.sipush i, 3)) (hq : pc + 3 = q) (hv : (Int16.ofInt i).toInt32 = v) (kk : rW l G R μ Z k n q ls (.int v :: st) h) : rW l G R μ Z k n pc ls st h := by
  subst hq
  intro p e s m args below meth c H locs lsM hx hb hm hr hlk hnm hown hts hK hS hE hl
  exact lv_sipush hx hb d hv (kk p e s m args below meth c H locs lsM hx hb hm hr hlk hnm hown hts hK hS hE hl)
theorem a_lconst {i : Fin 2} (v : Int64) (q : Nat) (d : decode μ.2.1 pc = .ok (.lconst i, 1)) (hq : pc + 1 = q) (hv : Int64.ofNat i = v) (kk : rW l G R μ Z k n q ls (.long v :: st) h) : rW l G R μ Z k n pc ls st h := by
  subst hq
  intro p e s m args below meth c H locs lsM hx hb hm hr hlk hnm hown hts hK hS hE hl
  exact lv_lconst hx hb d hv (kk p e s m args below meth c H locs lsM hx hb hm hr hlk hnm hown hts hK hS hE hl)
theorem a_null  (q : Nat) (d : decode μ.2.1 pc = .ok (.aconst_null, 1)) (hq : pc + 1 = q)  (kk : rW l G R μ Z k n q ls (.null :: st) h) : rW l G R μ Z k n pc ls st h := by
  subst hq
  intro p e s m args below meth c H locs lsM hx hb hm hr hlk hnm hown hts hK hS hE hl
  exact lv_null hx hb d  (kk p e s m args below meth c H locs lsM hx hb hm hr hlk hnm hown hts hK hS hE hl)
theorem a_ldc {idx : Nat} (v : Int32) (q : Nat) (d : decode μ.2.1 pc = .ok (.ldc idx, 2)) (hq : pc + 2 = q) (x : Cond.constant μ.1.cls idx v ∈ rTbl) (kk : rW l G R μ Z k n q ls (.int v :: st) h) : rW l G R μ Z k n pc ls st h := by
  subst hq
  intro p e s m args below meth c H locs lsM hx hb hm hr hlk hnm hown hts hK hS hE hl
  exact lv_ldc hx hb hown (hts _ x) d (kk p e s m args below meth c H locs lsM hx hb hm hr hlk hnm hown hts hK hS hE hl)
theorem a_ldcw {idx : Nat} (v : Int32) (q : Nat) (d : decode μ.2.1 pc = .ok (.ldc_w idx, 3)) (hq : pc + 3 = q) (x : Cond.constant μ.1.cls idx v ∈ rTbl) (kk : rW l G R μ Z k n q ls (.int v :: st) h) : rW l G R μ Z k n pc ls st h := by
  subst hq
  intro p e s m args below meth c H locs lsM hx hb hm hr hlk hnm hown hts hK hS hE hl
  exact lv_ldcw hx hb hown (hts _ x) d (kk p e s m args below meth c H locs lsM hx hb hm hr hlk hnm hown hts hK hS hE hl)
theorem a_ldc2 {idx : Nat} (v : Int64) (q : Nat) (d : decode μ.2.1 pc = .ok (.ldc2_w idx, 3)) (hq : pc + 3 = q) (x : Cond.constantLong μ.1.cls idx v ∈ rTbl) (kk : rW l G R μ Z k n q ls (.long v :: st) h) : rW l G R μ Z k n pc ls st h := by
  subst hq
  intro p e s m args below meth c H locs lsM hx hb hm hr hlk hnm hown hts hK hS hE hl
  exact lv_ldc2 hx hb hown (hts _ x) d (kk p e s m args below meth c H locs lsM hx hb hm hr hlk hnm hown hts hK hS hE hl)
theorem a_iload_n {j : Fin 4} {v : Int32} (q : Nat) (d : decode μ.2.1 pc = .ok (.iload_n j, 1)) (hq : pc + 1 = q) (hv : ls[(j : Nat)]? = some (some (.int v))) (kk : rW l G R μ Z k n q ls (.int v :: st) h) : rW l G R μ Z k n pc ls st h := by
  subst hq
  intro p e s m args below meth c H locs lsM hx hb hm hr hlk hnm hown hts hK hS hE hl
  exact lv_iload_n hx hb d rfl (rl_at hl hv) (kk p e s m args below meth c H locs lsM hx hb hm hr hlk hnm hown hts hK hS hE hl)
theorem a_iload {i : Nat} {v : Int32} (q : Nat) (d : decode μ.2.1 pc = .ok (.iload i, 2)) (hq : pc + 2 = q) (hv : ls[i]? = some (some (.int v))) (kk : rW l G R μ Z k n q ls (.int v :: st) h) : rW l G R μ Z k n pc ls st h := by
  subst hq
  intro p e s m args below meth c H locs lsM hx hb hm hr hlk hnm hown hts hK hS hE hl
  exact lv_iload hx hb d (rl_at hl hv) (kk p e s m args below meth c H locs lsM hx hb hm hr hlk hnm hown hts hK hS hE hl)
theorem a_lload_n {j : Fin 4} {v : Int64} (q : Nat) (d : decode μ.2.1 pc = .ok (.lload_n j, 1)) (hq : pc + 1 = q) (hv : ls[(j : Nat)]? = some (some (.long v))) (kk : rW l G R μ Z k n q ls (.long v :: st) h) : rW l G R μ Z k n pc ls st h := by
  subst hq
  intro p e s m args below meth c H locs lsM hx hb hm hr hlk hnm hown hts hK hS hE hl
  exact lv_lload_n hx hb d rfl (rl_at hl hv) (kk p e s m args below meth c H locs lsM hx hb hm hr hlk hnm hown hts hK hS hE hl)
theorem a_lload {i : Nat} {v : Int64} (q : Nat) (d : decode μ.2.1 pc = .ok (.lload i, 2)) (hq : pc + 2 = q) (hv : ls[i]? = some (some (.long v))) (kk : rW l G R μ Z k n q ls (.long v :: st) h) : rW l G R μ Z k n pc ls st h := by
  subst hq
  intro p e s m args below meth c H locs lsM hx hb hm hr hlk hnm hown hts hK hS hE hl
  exact lv_lload hx hb d (rl_at hl hv) (kk p e s m args below meth c H locs lsM hx hb hm hr hlk hnm hown hts hK hS hE hl)
theorem a_aload_n {j : Fin 4} {v : Nat} (q : Nat) (d : decode μ.2.1 pc = .ok (.aload_n j, 1)) (hq : pc + 1 = q) (hv : ls[(j : Nat)]? = some (some (.ref v))) (kk : rW l G R μ Z k n q ls (.ref v :: st) h) : rW l G R μ Z k n pc ls st h := by
  subst hq
  intro p e s m args below meth c H locs lsM hx hb hm hr hlk hnm hown hts hK hS hE hl
  exact lv_aload_n hx hb d rfl (rl_at hl hv) (kk p e s m args below meth c H locs lsM hx hb hm hr hlk hnm hown hts hK hS hE hl)
theorem a_aload {i : Nat} {v : Nat} (q : Nat) (d : decode μ.2.1 pc = .ok (.aload i, 2)) (hq : pc + 2 = q) (hv : ls[i]? = some (some (.ref v))) (kk : rW l G R μ Z k n q ls (.ref v :: st) h) : rW l G R μ Z k n pc ls st h := by
  subst hq
  intro p e s m args below meth c H locs lsM hx hb hm hr hlk hnm hown hts hK hS hE hl
  exact lv_aload hx hb d (rl_at hl hv) (kk p e s m args below meth c H locs lsM hx hb hm hr hlk hnm hown hts hK hS hE hl)
theorem a_aloadN_n {j : Fin 4} (q : Nat) (d : decode μ.2.1 pc = .ok (.aload_n j, 1)) (hq : pc + 1 = q) (hv : ls[(j : Nat)]? = some (some .null)) (kk : rW l G R μ Z k n q ls (.null :: st) h) : rW l G R μ Z k n pc ls st h := by
  subst hq
  intro p e s m args below meth c H locs lsM hx hb hm hr hlk hnm hown hts hK hS hE hl
  exact lv_aload_nN hx hb d rfl (rl_at hl hv) (kk p e s m args below meth c H locs lsM hx hb hm hr hlk hnm hown hts hK hS hE hl)
theorem a_aloadN {i : Nat} (q : Nat) (d : decode μ.2.1 pc = .ok (.aload i, 2)) (hq : pc + 2 = q) (hv : ls[i]? = some (some .null)) (kk : rW l G R μ Z k n q ls (.null :: st) h) : rW l G R μ Z k n pc ls st h := by
  subst hq
  intro p e s m args below meth c H locs lsM hx hb hm hr hlk hnm hown hts hK hS hE hl
  exact lv_aloadN hx hb d (rl_at hl hv) (kk p e s m args below meth c H locs lsM hx hb hm hr hlk hnm hown hts hK hS hE hl)
theorem a_istore_n {j : Fin 4} {v : Int32} (q : Nat) (d : decode μ.2.1 pc = .ok (.istore_n j, 1)) (hq : pc + 1 = q) (hn : (j : Nat) < μ.2.2.1) (kk : rW l G R μ Z k n q (rst ls (j : Nat) (.int v)) st h) : rW l G R μ Z k n pc ls (.int v :: st) h := by
  subst hq
  intro p e s m args below meth c H locs lsM hx hb hm hr hlk hnm hown hts hK hS hE hl
  exact lv_istore_n hx hb d rfl hl hn rfl (fun lsM hl => (kk p e s m args below meth c H locs lsM hx hb hm hr hlk hnm hown hts hK hS hE (rl_st hl)))
theorem a_istore {i : Nat} {v : Int32} (q : Nat) (d : decode μ.2.1 pc = .ok (.istore i, 2)) (hq : pc + 2 = q) (hn : i < μ.2.2.1) (kk : rW l G R μ Z k n q (rst ls i (.int v)) st h) : rW l G R μ Z k n pc ls (.int v :: st) h := by
  subst hq
  intro p e s m args below meth c H locs lsM hx hb hm hr hlk hnm hown hts hK hS hE hl
  exact lv_istore hx hb d hl hn rfl (fun lsM hl => (kk p e s m args below meth c H locs lsM hx hb hm hr hlk hnm hown hts hK hS hE (rl_st hl)))
theorem a_lstore_n {j : Fin 4} {v : Int64} (q : Nat) (d : decode μ.2.1 pc = .ok (.lstore_n j, 1)) (hq : pc + 1 = q) (hn : (j : Nat) + 1 < μ.2.2.1) (kk : rW l G R μ Z k n q (rst2 ls (j : Nat) (.long v)) st h) : rW l G R μ Z k n pc ls (.long v :: st) h := by
  subst hq
  intro p e s m args below meth c H locs lsM hx hb hm hr hlk hnm hown hts hK hS hE hl
  exact lv_lstore_n hx hb d rfl hl hn rfl (fun lsM hl => (kk p e s m args below meth c H locs lsM hx hb hm hr hlk hnm hown hts hK hS hE (rl_st2 hl)))
theorem a_lstore {i : Nat} {v : Int64} (q : Nat) (d : decode μ.2.1 pc = .ok (.lstore i, 2)) (hq : pc + 2 = q) (hn : i + 1 < μ.2.2.1) (kk : rW l G R μ Z k n q (rst2 ls i (.long v)) st h) : rW l G R μ Z k n pc ls (.long v :: st) h := by
  subst hq
  intro p e s m args below meth c H locs lsM hx hb hm hr hlk hnm hown hts hK hS hE hl
  exact lv_lstore hx hb d hl hn rfl (fun lsM hl => (kk p e s m args below meth c H locs lsM hx hb hm hr hlk hnm hown hts hK hS hE (rl_st2 hl)))
theorem a_astore_n {j : Fin 4} {v : Nat} (q : Nat) (d : decode μ.2.1 pc = .ok (.astore_n j, 1)) (hq : pc + 1 = q) (hn : (j : Nat) < μ.2.2.1) (kk : rW l G R μ Z k n q (rst ls (j : Nat) (.ref v)) st h) : rW l G R μ Z k n pc ls (.ref v :: st) h := by
  subst hq
  intro p e s m args below meth c H locs lsM hx hb hm hr hlk hnm hown hts hK hS hE hl
  exact lv_astore_n hx hb d rfl hl hn rfl (fun lsM hl => (kk p e s m args below meth c H locs lsM hx hb hm hr hlk hnm hown hts hK hS hE (rl_st hl)))
theorem a_astore {i : Nat} {v : Nat} (q : Nat) (d : decode μ.2.1 pc = .ok (.astore i, 2)) (hq : pc + 2 = q) (hn : i < μ.2.2.1) (kk : rW l G R μ Z k n q (rst ls i (.ref v)) st h) : rW l G R μ Z k n pc ls (.ref v :: st) h := by
  subst hq
  intro p e s m args below meth c H locs lsM hx hb hm hr hlk hnm hown hts hK hS hE hl
  exact lv_astore hx hb d hl hn rfl (fun lsM hl => (kk p e s m args below meth c H locs lsM hx hb hm hr hlk hnm hown hts hK hS hE (rl_st hl)))
theorem a_astoreN_n {j : Fin 4} (q : Nat) (d : decode μ.2.1 pc = .ok (.astore_n j, 1)) (hq : pc + 1 = q) (hn : (j : Nat) < μ.2.2.1) (kk : rW l G R μ Z k n q (rst ls (j : Nat) .null) st h) : rW l G R μ Z k n pc ls (.null :: st) h := by
  subst hq
  intro p e s m args below meth c H locs lsM hx hb hm hr hlk hnm hown hts hK hS hE hl
  exact lv_astore_nN hx hb d rfl hl hn rfl (fun lsM hl => (kk p e s m args below meth c H locs lsM hx hb hm hr hlk hnm hown hts hK hS hE (rl_st hl)))
theorem a_astoreN {i : Nat} (q : Nat) (d : decode μ.2.1 pc = .ok (.astore i, 2)) (hq : pc + 2 = q) (hn : i < μ.2.2.1) (kk : rW l G R μ Z k n q (rst ls i .null) st h) : rW l G R μ Z k n pc ls (.null :: st) h := by
  subst hq
  intro p e s m args below meth c H locs lsM hx hb hm hr hlk hnm hown hts hK hS hE hl
  exact lv_astoreN hx hb d hl hn rfl (fun lsM hl => (kk p e s m args below meth c H locs lsM hx hb hm hr hlk hnm hown hts hK hS hE (rl_st hl)))
theorem a_iadd {x y : Int32} (q : Nat) (d : decode μ.2.1 pc = .ok (.iadd, 1)) (hq : pc + 1 = q)  (kk : rW l G R μ Z k n q ls (.int (x + y) :: st) h) : rW l G R μ Z k n pc ls (.int y :: .int x :: st) h := by
  subst hq
  intro p e s m args below meth c H locs lsM hx hb hm hr hlk hnm hown hts hK hS hE hl
  exact lv_iadd hx hb d  (kk p e s m args below meth c H locs lsM hx hb hm hr hlk hnm hown hts hK hS hE hl)
theorem a_isub {x y : Int32} (q : Nat) (d : decode μ.2.1 pc = .ok (.isub, 1)) (hq : pc + 1 = q)  (kk : rW l G R μ Z k n q ls (.int (x - y) :: st) h) : rW l G R μ Z k n pc ls (.int y :: .int x :: st) h := by
  subst hq
  intro p e s m args below meth c H locs lsM hx hb hm hr hlk hnm hown hts hK hS hE hl
  exact lv_isub hx hb d  (kk p e s m args below meth c H locs lsM hx hb hm hr hlk hnm hown hts hK hS hE hl)
theorem a_imul {x y : Int32} (q : Nat) (d : decode μ.2.1 pc = .ok (.imul, 1)) (hq : pc + 1 = q)  (kk : rW l G R μ Z k n q ls (.int (x * y) :: st) h) : rW l G R μ Z k n pc ls (.int y :: .int x :: st) h := by
  subst hq
  intro p e s m args below meth c H locs lsM hx hb hm hr hlk hnm hown hts hK hS hE hl
  exact lv_imul hx hb d  (kk p e s m args below meth c H locs lsM hx hb hm hr hlk hnm hown hts hK hS hE hl)
theorem a_iand {x y : Int32} (q : Nat) (d : decode μ.2.1 pc = .ok (.iand, 1)) (hq : pc + 1 = q)  (kk : rW l G R μ Z k n q ls (.int (x &&& y) :: st) h) : rW l G R μ Z k n pc ls (.int y :: .int x :: st) h := by
  subst hq
  intro p e s m args below meth c H locs lsM hx hb hm hr hlk hnm hown hts hK hS hE hl
  exact lv_iand hx hb d  (kk p e s m args below meth c H locs lsM hx hb hm hr hlk hnm hown hts hK hS hE hl)
theorem a_ior {x y : Int32} (q : Nat) (d : decode μ.2.1 pc = .ok (.ior, 1)) (hq : pc + 1 = q)  (kk : rW l G R μ Z k n q ls (.int (x ||| y) :: st) h) : rW l G R μ Z k n pc ls (.int y :: .int x :: st) h := by
  subst hq
  intro p e s m args below meth c H locs lsM hx hb hm hr hlk hnm hown hts hK hS hE hl
  exact lv_ior hx hb d  (kk p e s m args below meth c H locs lsM hx hb hm hr hlk hnm hown hts hK hS hE hl)
theorem a_ishl {x y : Int32} (q : Nat) (d : decode μ.2.1 pc = .ok (.ishl, 1)) (hq : pc + 1 = q)  (kk : rW l G R μ Z k n q ls (.int (x <<< (y &&& 31)) :: st) h) : rW l G R μ Z k n pc ls (.int y :: .int x :: st) h := by
  subst hq
  intro p e s m args below meth c H locs lsM hx hb hm hr hlk hnm hown hts hK hS hE hl
  exact lv_ishl hx hb d  (kk p e s m args below meth c H locs lsM hx hb hm hr hlk hnm hown hts hK hS hE hl)
theorem a_ishr {x y : Int32} (q : Nat) (d : decode μ.2.1 pc = .ok (.ishr, 1)) (hq : pc + 1 = q)  (kk : rW l G R μ Z k n q ls (.int (x >>> (y &&& 31)) :: st) h) : rW l G R μ Z k n pc ls (.int y :: .int x :: st) h := by
  subst hq
  intro p e s m args below meth c H locs lsM hx hb hm hr hlk hnm hown hts hK hS hE hl
  exact lv_ishr hx hb d  (kk p e s m args below meth c H locs lsM hx hb hm hr hlk hnm hown hts hK hS hE hl)
theorem a_ladd {x y : Int64} (q : Nat) (d : decode μ.2.1 pc = .ok (.ladd, 1)) (hq : pc + 1 = q)  (kk : rW l G R μ Z k n q ls (.long (x + y) :: st) h) : rW l G R μ Z k n pc ls (.long y :: .long x :: st) h := by
  subst hq
  intro p e s m args below meth c H locs lsM hx hb hm hr hlk hnm hown hts hK hS hE hl
  exact lv_ladd hx hb d  (kk p e s m args below meth c H locs lsM hx hb hm hr hlk hnm hown hts hK hS hE hl)
theorem a_lsub {x y : Int64} (q : Nat) (d : decode μ.2.1 pc = .ok (.lsub, 1)) (hq : pc + 1 = q)  (kk : rW l G R μ Z k n q ls (.long (x - y) :: st) h) : rW l G R μ Z k n pc ls (.long y :: .long x :: st) h := by
  subst hq
  intro p e s m args below meth c H locs lsM hx hb hm hr hlk hnm hown hts hK hS hE hl
  exact lv_lsub hx hb d  (kk p e s m args below meth c H locs lsM hx hb hm hr hlk hnm hown hts hK hS hE hl)
theorem a_lmul {x y : Int64} (q : Nat) (d : decode μ.2.1 pc = .ok (.lmul, 1)) (hq : pc + 1 = q)  (kk : rW l G R μ Z k n q ls (.long (x * y) :: st) h) : rW l G R μ Z k n pc ls (.long y :: .long x :: st) h := by
  subst hq
  intro p e s m args below meth c H locs lsM hx hb hm hr hlk hnm hown hts hK hS hE hl
  exact lv_lmul hx hb d  (kk p e s m args below meth c H locs lsM hx hb hm hr hlk hnm hown hts hK hS hE hl)
theorem a_idiv {x y : Int32} (q : Nat) (d : decode μ.2.1 pc = .ok (.idiv, 1)) (hq : pc + 1 = q) (hne : ¬ y = 0) (kk : rW l G R μ Z k n q ls (.int (x / y) :: st) h) : rW l G R μ Z k n pc ls (.int y :: .int x :: st) h := by
  subst hq
  intro p e s m args below meth c H locs lsM hx hb hm hr hlk hnm hown hts hK hS hE hl
  exact lv_idiv hx hb d hne (kk p e s m args below meth c H locs lsM hx hb hm hr hlk hnm hown hts hK hS hE hl)
theorem a_irem {x y : Int32} (q : Nat) (d : decode μ.2.1 pc = .ok (.irem, 1)) (hq : pc + 1 = q) (hne : ¬ y = 0) (kk : rW l G R μ Z k n q ls (.int (x - x / y * y) :: st) h) : rW l G R μ Z k n pc ls (.int y :: .int x :: st) h := by
  subst hq
  intro p e s m args below meth c H locs lsM hx hb hm hr hlk hnm hown hts hK hS hE hl
  exact lv_irem hx hb d hne (kk p e s m args below meth c H locs lsM hx hb hm hr hlk hnm hown hts hK hS hE hl)
theorem a_ldiv {x y : Int64} (q : Nat) (d : decode μ.2.1 pc = .ok (.ldiv, 1)) (hq : pc + 1 = q) (hne : ¬ y = 0) (kk : rW l G R μ Z k n q ls (.long (x / y) :: st) h) : rW l G R μ Z k n pc ls (.long y :: .long x :: st) h := by
  subst hq
  intro p e s m args below meth c H locs lsM hx hb hm hr hlk hnm hown hts hK hS hE hl
  exact lv_ldiv hx hb d hne (kk p e s m args below meth c H locs lsM hx hb hm hr hlk hnm hown hts hK hS hE hl)
theorem a_lrem {x y : Int64} (q : Nat) (d : decode μ.2.1 pc = .ok (.lrem, 1)) (hq : pc + 1 = q) (hne : ¬ y = 0) (kk : rW l G R μ Z k n q ls (.long (x - x / y * y) :: st) h) : rW l G R μ Z k n pc ls (.long y :: .long x :: st) h := by
  subst hq
  intro p e s m args below meth c H locs lsM hx hb hm hr hlk hnm hown hts hK hS hE hl
  exact lv_lrem hx hb d hne (kk p e s m args below meth c H locs lsM hx hb hm hr hlk hnm hown hts hK hS hE hl)
theorem a_ineg {x : Int32} (q : Nat) (d : decode μ.2.1 pc = .ok (.ineg, 1)) (hq : pc + 1 = q)  (kk : rW l G R μ Z k n q ls (.int (-x) :: st) h) : rW l G R μ Z k n pc ls (.int x :: st) h := by
  subst hq
  intro p e s m args below meth c H locs lsM hx hb hm hr hlk hnm hown hts hK hS hE hl
  exact lv_ineg hx hb d  (kk p e s m args below meth c H locs lsM hx hb hm hr hlk hnm hown hts hK hS hE hl)
theorem a_iushr {x y : Int32} (q : Nat) (d : decode μ.2.1 pc = .ok (.iushr, 1)) (hq : pc + 1 = q)  (kk : rW l G R μ Z k n q ls (.int ((x.toUInt32 >>> (y.toUInt32 &&& Int32.toUInt32 31)).toInt32) :: st) h) : rW l G R μ Z k n pc ls (.int y :: .int x :: st) h := by
  subst hq
  intro p e s m args below meth c H locs lsM hx hb hm hr hlk hnm hown hts hK hS hE hl
  exact lv_iushr hx hb d rfl (kk p e s m args below meth c H locs lsM hx hb hm hr hlk hnm hown hts hK hS hE hl)
theorem a_i2l {x : Int32} (q : Nat) (d : decode μ.2.1 pc = .ok (.i2l, 1)) (hq : pc + 1 = q)  (kk : rW l G R μ Z k n q ls (.long x.toInt64 :: st) h) : rW l G R μ Z k n pc ls (.int x :: st) h := by
  subst hq
  intro p e s m args below meth c H locs lsM hx hb hm hr hlk hnm hown hts hK hS hE hl
  exact lv_i2l hx hb d rfl (kk p e s m args below meth c H locs lsM hx hb hm hr hlk hnm hown hts hK hS hE hl)
theorem a_l2i {x : Int64} (q : Nat) (d : decode μ.2.1 pc = .ok (.l2i, 1)) (hq : pc + 1 = q)  (kk : rW l G R μ Z k n q ls (.int x.toInt32 :: st) h) : rW l G R μ Z k n pc ls (.long x :: st) h := by
  subst hq
  intro p e s m args below meth c H locs lsM hx hb hm hr hlk hnm hown hts hK hS hE hl
  exact lv_l2i hx hb d rfl (kk p e s m args below meth c H locs lsM hx hb hm hr hlk hnm hown hts hK hS hE hl)
theorem a_i2b {x : Int32} (q : Nat) (d : decode μ.2.1 pc = .ok (.i2b, 1)) (hq : pc + 1 = q)  (kk : rW l G R μ Z k n q ls (.int x.toInt8.toInt32 :: st) h) : rW l G R μ Z k n pc ls (.int x :: st) h := by
  subst hq
  intro p e s m args below meth c H locs lsM hx hb hm hr hlk hnm hown hts hK hS hE hl
  exact lv_i2b hx hb d rfl (kk p e s m args below meth c H locs lsM hx hb hm hr hlk hnm hown hts hK hS hE hl)
theorem a_i2s {x : Int32} (q : Nat) (d : decode μ.2.1 pc = .ok (.i2s, 1)) (hq : pc + 1 = q)  (kk : rW l G R μ Z k n q ls (.int x.toInt16.toInt32 :: st) h) : rW l G R μ Z k n pc ls (.int x :: st) h := by
  subst hq
  intro p e s m args below meth c H locs lsM hx hb hm hr hlk hnm hown hts hK hS hE hl
  exact lv_i2s hx hb d rfl (kk p e s m args below meth c H locs lsM hx hb hm hr hlk hnm hown hts hK hS hE hl)
theorem a_lcmp {x y : Int64} (q : Nat) (d : decode μ.2.1 pc = .ok (.lcmp, 1)) (hq : pc + 1 = q)  (kk : rW l G R μ Z k n q ls (.int (lg_cmp x y) :: st) h) : rW l G R μ Z k n pc ls (.long y :: .long x :: st) h := by
  subst hq
  intro p e s m args below meth c H locs lsM hx hb hm hr hlk hnm hown hts hK hS hE hl
  exact W.lcmp hx hb d  (kk p e s m args below meth c H locs lsM hx hb hm hr hlk hnm hown hts hK hS hE hl)
theorem a_dup {v : Value} (q : Nat) (d : decode μ.2.1 pc = .ok (.dup, 1)) (hq : pc + 1 = q) (hv : v.category = 1) (kk : rW l G R μ Z k n q ls (v :: v :: st) h) : rW l G R μ Z k n pc ls (v :: st) h := by
  subst hq
  intro p e s m args below meth c H locs lsM hx hb hm hr hlk hnm hown hts hK hS hE hl
  exact lv_dup hx hb d hv (kk p e s m args below meth c H locs lsM hx hb hm hr hlk hnm hown hts hK hS hE hl)
theorem a_pop {v : Value} (q : Nat) (d : decode μ.2.1 pc = .ok (.pop, 1)) (hq : pc + 1 = q) (hv : v.category = 1) (kk : rW l G R μ Z k n q ls st h) : rW l G R μ Z k n pc ls (v :: st) h := by
  subst hq
  intro p e s m args below meth c H locs lsM hx hb hm hr hlk hnm hown hts hK hS hE hl
  exact lv_pop hx hb d hv (kk p e s m args below meth c H locs lsM hx hb hm hr hlk hnm hown hts hK hS hE hl)
theorem a_dup2 {v w : Value} (q : Nat) (d : decode μ.2.1 pc = .ok (.dup2, 1)) (hq : pc + 1 = q) (hv : v.category = 1) (hw : w.category = 1) (kk : rW l G R μ Z k n q ls (v :: w :: v :: w :: st) h) : rW l G R μ Z k n pc ls (v :: w :: st) h := by
  subst hq
  intro p e s m args below meth c H locs lsM hx hb hm hr hlk hnm hown hts hK hS hE hl
  exact lv_dup2_11 hx hb d hv hw (kk p e s m args below meth c H locs lsM hx hb hm hr hlk hnm hown hts hK hS hE hl)
theorem a_iinc {i : Nat} {j : Int} {x : Int32} (y : Int32) (q : Nat) (d : decode μ.2.1 pc = .ok (.iinc i j, 3)) (hq : pc + 3 = q) (hv : ls[i]? = some (some (.int x))) (hn : i < μ.2.2.1) (hy : x + Int32.ofInt j = y) (kk : rW l G R μ Z k n q (rst ls i (.int y)) st h) : rW l G R μ Z k n pc ls st h := by
  subst hq
  intro p e s m args below meth c H locs lsM hx hb hm hr hlk hnm hown hts hK hS hE hl
  obtain ⟨q, hq⟩ := List.getElem?_of_mem ((rlF_mem ls 0 (i, .int x)).mpr ⟨i, by omega, hv⟩)
  exact lv_iinc hx hb d hl hq hy hn rfl (fun lsM hl => (kk p e s m args below meth c H locs lsM hx hb hm hr hlk hnm hown hts hK hS hE (rl_st hl)))
theorem a_if_eq {x : Int32} {off : Int} (tgt : Nat) (q : Nat) (d : decode μ.2.1 pc = .ok (.ifCond .eq off, 3)) (hq : pc + 3 = q) (ht : (pc : Int) + off = (tgt : Int)) (kt : x = 0 → rW l G R μ Z k n tgt ls st h) (kf : ¬ x = 0 → rW l G R μ Z k n q ls st h) : rW l G R μ Z k n pc ls (.int x :: st) h := by
  subst hq
  intro p e s m args below meth c H locs lsM hx hb hm hr hlk hnm hown hts hK hS hE hl
  exact lv_if_eq hx hb d ht (fun q => kt q p e s m args below meth c H locs lsM hx hb hm hr hlk hnm hown hts hK hS hE hl) (fun q => kf q p e s m args below meth c H locs lsM hx hb hm hr hlk hnm hown hts hK hS hE hl)
theorem a_icmp_eq {x y : Int32} {off : Int} (tgt : Nat) (q : Nat) (d : decode μ.2.1 pc = .ok (.if_icmp .eq off, 3)) (hq : pc + 3 = q) (ht : (pc : Int) + off = (tgt : Int)) (kt : x = y → rW l G R μ Z k n tgt ls st h) (kf : ¬ x = y → rW l G R μ Z k n q ls st h) : rW l G R μ Z k n pc ls (.int y :: .int x :: st) h := by
  subst hq
  intro p e s m args below meth c H locs lsM hx hb hm hr hlk hnm hown hts hK hS hE hl
  exact lv_icmp_eq hx hb d ht (fun q => kt q p e s m args below meth c H locs lsM hx hb hm hr hlk hnm hown hts hK hS hE hl) (fun q => kf q p e s m args below meth c H locs lsM hx hb hm hr hlk hnm hown hts hK hS hE hl)
theorem a_if_ne {x : Int32} {off : Int} (tgt : Nat) (q : Nat) (d : decode μ.2.1 pc = .ok (.ifCond .ne off, 3)) (hq : pc + 3 = q) (ht : (pc : Int) + off = (tgt : Int)) (kt : ¬ x = 0 → rW l G R μ Z k n tgt ls st h) (kf : x = 0 → rW l G R μ Z k n q ls st h) : rW l G R μ Z k n pc ls (.int x :: st) h := by
  subst hq
  intro p e s m args below meth c H locs lsM hx hb hm hr hlk hnm hown hts hK hS hE hl
  exact lv_if_ne hx hb d ht (fun q => kt q p e s m args below meth c H locs lsM hx hb hm hr hlk hnm hown hts hK hS hE hl) (fun q => kf q p e s m args below meth c H locs lsM hx hb hm hr hlk hnm hown hts hK hS hE hl)
theorem a_icmp_ne {x y : Int32} {off : Int} (tgt : Nat) (q : Nat) (d : decode μ.2.1 pc = .ok (.if_icmp .ne off, 3)) (hq : pc + 3 = q) (ht : (pc : Int) + off = (tgt : Int)) (kt : ¬ x = y → rW l G R μ Z k n tgt ls st h) (kf : x = y → rW l G R μ Z k n q ls st h) : rW l G R μ Z k n pc ls (.int y :: .int x :: st) h := by
  subst hq
  intro p e s m args below meth c H locs lsM hx hb hm hr hlk hnm hown hts hK hS hE hl
  exact lv_icmp_ne hx hb d ht (fun q => kt q p e s m args below meth c H locs lsM hx hb hm hr hlk hnm hown hts hK hS hE hl) (fun q => kf q p e s m args below meth c H locs lsM hx hb hm hr hlk hnm hown hts hK hS hE hl)
theorem a_if_lt {x : Int32} {off : Int} (tgt : Nat) (q : Nat) (d : decode μ.2.1 pc = .ok (.ifCond .lt off, 3)) (hq : pc + 3 = q) (ht : (pc : Int) + off = (tgt : Int)) (kt : x < 0 → rW l G R μ Z k n tgt ls st h) (kf : ¬ x < 0 → rW l G R μ Z k n q ls st h) : rW l G R μ Z k n pc ls (.int x :: st) h := by
  subst hq
  intro p e s m args below meth c H locs lsM hx hb hm hr hlk hnm hown hts hK hS hE hl
  exact lv_if_lt hx hb d ht (fun q => kt q p e s m args below meth c H locs lsM hx hb hm hr hlk hnm hown hts hK hS hE hl) (fun q => kf q p e s m args below meth c H locs lsM hx hb hm hr hlk hnm hown hts hK hS hE hl)
theorem a_icmp_lt {x y : Int32} {off : Int} (tgt : Nat) (q : Nat) (d : decode μ.2.1 pc = .ok (.if_icmp .lt off, 3)) (hq : pc + 3 = q) (ht : (pc : Int) + off = (tgt : Int)) (kt : x < y → rW l G R μ Z k n tgt ls st h) (kf : ¬ x < y → rW l G R μ Z k n q ls st h) : rW l G R μ Z k n pc ls (.int y :: .int x :: st) h := by
  subst hq
  intro p e s m args below meth c H locs lsM hx hb hm hr hlk hnm hown hts hK hS hE hl
  exact lv_icmp_lt hx hb d ht (fun q => kt q p e s m args below meth c H locs lsM hx hb hm hr hlk hnm hown hts hK hS hE hl) (fun q => kf q p e s m args below meth c H locs lsM hx hb hm hr hlk hnm hown hts hK hS hE hl)
theorem a_if_ge {x : Int32} {off : Int} (tgt : Nat) (q : Nat) (d : decode μ.2.1 pc = .ok (.ifCond .ge off, 3)) (hq : pc + 3 = q) (ht : (pc : Int) + off = (tgt : Int)) (kt : 0 ≤ x → rW l G R μ Z k n tgt ls st h) (kf : ¬ 0 ≤ x → rW l G R μ Z k n q ls st h) : rW l G R μ Z k n pc ls (.int x :: st) h := by
  subst hq
  intro p e s m args below meth c H locs lsM hx hb hm hr hlk hnm hown hts hK hS hE hl
  exact lv_if_ge hx hb d ht (fun q => kt q p e s m args below meth c H locs lsM hx hb hm hr hlk hnm hown hts hK hS hE hl) (fun q => kf q p e s m args below meth c H locs lsM hx hb hm hr hlk hnm hown hts hK hS hE hl)
theorem a_icmp_ge {x y : Int32} {off : Int} (tgt : Nat) (q : Nat) (d : decode μ.2.1 pc = .ok (.if_icmp .ge off, 3)) (hq : pc + 3 = q) (ht : (pc : Int) + off = (tgt : Int)) (kt : y ≤ x → rW l G R μ Z k n tgt ls st h) (kf : ¬ y ≤ x → rW l G R μ Z k n q ls st h) : rW l G R μ Z k n pc ls (.int y :: .int x :: st) h := by
  subst hq
  intro p e s m args below meth c H locs lsM hx hb hm hr hlk hnm hown hts hK hS hE hl
  exact lv_icmp_ge hx hb d ht (fun q => kt q p e s m args below meth c H locs lsM hx hb hm hr hlk hnm hown hts hK hS hE hl) (fun q => kf q p e s m args below meth c H locs lsM hx hb hm hr hlk hnm hown hts hK hS hE hl)
theorem a_if_gt {x : Int32} {off : Int} (tgt : Nat) (q : Nat) (d : decode μ.2.1 pc = .ok (.ifCond .gt off, 3)) (hq : pc + 3 = q) (ht : (pc : Int) + off = (tgt : Int)) (kt : 0 < x → rW l G R μ Z k n tgt ls st h) (kf : ¬ 0 < x → rW l G R μ Z k n q ls st h) : rW l G R μ Z k n pc ls (.int x :: st) h := by
  subst hq
  intro p e s m args below meth c H locs lsM hx hb hm hr hlk hnm hown hts hK hS hE hl
  exact lv_if_gt hx hb d ht (fun q => kt q p e s m args below meth c H locs lsM hx hb hm hr hlk hnm hown hts hK hS hE hl) (fun q => kf q p e s m args below meth c H locs lsM hx hb hm hr hlk hnm hown hts hK hS hE hl)
theorem a_icmp_gt {x y : Int32} {off : Int} (tgt : Nat) (q : Nat) (d : decode μ.2.1 pc = .ok (.if_icmp .gt off, 3)) (hq : pc + 3 = q) (ht : (pc : Int) + off = (tgt : Int)) (kt : y < x → rW l G R μ Z k n tgt ls st h) (kf : ¬ y < x → rW l G R μ Z k n q ls st h) : rW l G R μ Z k n pc ls (.int y :: .int x :: st) h := by
  subst hq
  intro p e s m args below meth c H locs lsM hx hb hm hr hlk hnm hown hts hK hS hE hl
  exact lv_icmp_gt hx hb d ht (fun q => kt q p e s m args below meth c H locs lsM hx hb hm hr hlk hnm hown hts hK hS hE hl) (fun q => kf q p e s m args below meth c H locs lsM hx hb hm hr hlk hnm hown hts hK hS hE hl)
theorem a_if_le {x : Int32} {off : Int} (tgt : Nat) (q : Nat) (d : decode μ.2.1 pc = .ok (.ifCond .le off, 3)) (hq : pc + 3 = q) (ht : (pc : Int) + off = (tgt : Int)) (kt : x ≤ 0 → rW l G R μ Z k n tgt ls st h) (kf : ¬ x ≤ 0 → rW l G R μ Z k n q ls st h) : rW l G R μ Z k n pc ls (.int x :: st) h := by
  subst hq
  intro p e s m args below meth c H locs lsM hx hb hm hr hlk hnm hown hts hK hS hE hl
  exact lv_if_le hx hb d ht (fun q => kt q p e s m args below meth c H locs lsM hx hb hm hr hlk hnm hown hts hK hS hE hl) (fun q => kf q p e s m args below meth c H locs lsM hx hb hm hr hlk hnm hown hts hK hS hE hl)
theorem a_icmp_le {x y : Int32} {off : Int} (tgt : Nat) (q : Nat) (d : decode μ.2.1 pc = .ok (.if_icmp .le off, 3)) (hq : pc + 3 = q) (ht : (pc : Int) + off = (tgt : Int)) (kt : x ≤ y → rW l G R μ Z k n tgt ls st h) (kf : ¬ x ≤ y → rW l G R μ Z k n q ls st h) : rW l G R μ Z k n pc ls (.int y :: .int x :: st) h := by
  subst hq
  intro p e s m args below meth c H locs lsM hx hb hm hr hlk hnm hown hts hK hS hE hl
  exact lv_icmp_le hx hb d ht (fun q => kt q p e s m args below meth c H locs lsM hx hb hm hr hlk hnm hown hts hK hS hE hl) (fun q => kf q p e s m args below meth c H locs lsM hx hb hm hr hlk hnm hown hts hK hS hE hl)
theorem a_goto {off : Int} (tgt : Nat) (d : decode μ.2.1 pc = .ok (.goto off, 3)) (ht : (pc : Int) + off = (tgt : Int)) (kk : rW l G R μ Z k n tgt ls st h) : rW l G R μ Z k n pc ls st h := by
  intro p e s m args below meth c H locs lsM hx hb hm hr hlk hnm hown hts hK hS hE hl
  exact lv_goto hx hb d ht (kk p e s m args below meth c H locs lsM hx hb hm hr hlk hnm hown hts hK hS hE hl)
theorem a_ifnonnull {a : Nat} {off : Int} (tgt : Nat) (d : decode μ.2.1 pc = .ok (.ifnonnull off, 3)) (ht : (pc : Int) + off = (tgt : Int)) (kk : rW l G R μ Z k n tgt ls st h) : rW l G R μ Z k n pc ls (.ref a :: st) h := by
  intro p e s m args below meth c H locs lsM hx hb hm hr hlk hnm hown hts hK hS hE hl
  exact lv_ifnonnull hx hb d ht (kk p e s m args below meth c H locs lsM hx hb hm hr hlk hnm hown hts hK hS hE hl)
theorem a_ifnull {a : Nat} {off : Int} (q : Nat) (d : decode μ.2.1 pc = .ok (.ifnull off, 3)) (hq : pc + 3 = q) (kk : rW l G R μ Z k n q ls st h) : rW l G R μ Z k n pc ls (.ref a :: st) h := by
  subst hq
  intro p e s m args below meth c H locs lsM hx hb hm hr hlk hnm hown hts hK hS hE hl
  exact lv_ifnull hx hb d (kk p e s m args below meth c H locs lsM hx hb hm hr hlk hnm hown hts hK hS hE hl)
theorem a_ifnullN {off : Int} (tgt : Nat) (d : decode μ.2.1 pc = .ok (.ifnull off, 3)) (ht : (pc : Int) + off = (tgt : Int)) (kk : rW l G R μ Z k n tgt ls st h) : rW l G R μ Z k n pc ls (.null :: st) h := by
  intro p e s m args below meth c H locs lsM hx hb hm hr hlk hnm hown hts hK hS hE hl
  exact lv_ifnullN hx hb d ht (kk p e s m args below meth c H locs lsM hx hb hm hr hlk hnm hown hts hK hS hE hl)
theorem a_ifnonnullN {off : Int} (q : Nat) (d : decode μ.2.1 pc = .ok (.ifnonnull off, 3)) (hq : pc + 3 = q) (kk : rW l G R μ Z k n q ls st h) : rW l G R μ Z k n pc ls (.null :: st) h := by
  subst hq
  intro p e s m args below meth c H locs lsM hx hb hm hr hlk hnm hown hts hK hS hE hl
  exact lv_ifnonnullN hx hb d (kk p e s m args below meth c H locs lsM hx hb hm hr hlk hnm hown hts hK hS hE hl)
theorem a_acmp_eq {a b : Nat} {off : Int} (tgt : Nat) (q : Nat) (d : decode μ.2.1 pc = .ok (.if_acmp .eq off, 3)) (hq : pc + 3 = q) (ht : (pc : Int) + off = (tgt : Int)) (kt : a = b → rW l G R μ Z k n tgt ls st h) (kf : ¬ a = b → rW l G R μ Z k n q ls st h) : rW l G R μ Z k n pc ls (.ref b :: .ref a :: st) h := by
  subst hq
  intro p e s m args below meth c H locs lsM hx hb hm hr hlk hnm hown hts hK hS hE hl
  exact lv_acmp_eq (rx := some a) (ry := some b) hx hb d ht (fun q => kt (Option.some.inj q) p e s m args below meth c H locs lsM hx hb hm hr hlk hnm hown hts hK hS hE hl) (fun q => kf (fun z => q (congrArg some z)) p e s m args below meth c H locs lsM hx hb hm hr hlk hnm hown hts hK hS hE hl)
theorem a_tableOut {dflt lo hi : Int} {offs : Array Int} {len : Nat} {x : Int32} (tgt : Nat) (d : decode μ.2.1 pc = .ok (.tableswitch dflt lo hi offs, len)) (hlo : x.toInt < lo ∨ hi < x.toInt) (ht : (pc : Int) + dflt = (tgt : Int)) (kk : rW l G R μ Z k n tgt ls st h) : rW l G R μ Z k n pc ls (.int x :: st) h := by
  intro p e s m args below meth c H locs lsM hx hb hm hr hlk hnm hown hts hK hS hE hl
  exact lv_tableOut hx hb d hlo ht (kk p e s m args below meth c H locs lsM hx hb hm hr hlk hnm hown hts hK hS hE hl)
theorem a_tableIn {dflt lo hi : Int} {offs : Array Int} {len : Nat} {x : Int32} {off : Int} (tgt : Nat) (d : decode μ.2.1 pc = .ok (.tableswitch dflt lo hi offs, len)) (h1 : ¬ x.toInt < lo) (h2 : ¬ hi < x.toInt) (ho : offs[(x.toInt - lo).toNat]? = some off) (ht : (pc : Int) + off = (tgt : Int)) (kk : rW l G R μ Z k n tgt ls st h) : rW l G R μ Z k n pc ls (.int x :: st) h := by
  intro p e s m args below meth c H locs lsM hx hb hm hr hlk hnm hown hts hK hS hE hl
  exact lv_tableIn hx hb d h1 h2 ho ht (kk p e s m args below meth c H locs lsM hx hb hm hr hlk hnm hown hts hK hS hE hl)
theorem a_lookup {dflt : Int} {ps : Array (Int × Int)} {len : Nat} {x : Int32} {off : Int} (tgt : Nat) (d : decode μ.2.1 pc = .ok (.lookupswitch dflt ps, len)) (hp : (ps.toList.zip (ps.toList.drop 1)).all (fun (a, next) => a.1 < next.1) = true) (ho : Op.lookupswitch.offset ps.toList dflt x.toInt = off) (ht : (pc : Int) + off = (tgt : Int)) (kk : rW l G R μ Z k n tgt ls st h) : rW l G R μ Z k n pc ls (.int x :: st) h := by
  intro p e s m args below meth c H locs lsM hx hb hm hr hlk hnm hown hts hK hS hE hl
  exact lv_lookup hx hb d hp ho ht (kk p e s m args below meth c H locs lsM hx hb hm hr hlk hnm hown hts hK hS hE hl)
theorem a_get {own C : String} {T : u_T} {N idx ci j a : Nat} {fs : List Value} {v : Value} (x : rFld own idx ci j C T N) (ho : μ.1.cls = own) (q : Nat) (d : decode μ.2.1 pc = .ok (.getfield idx, 3)) (hq : pc + 3 = q) (hc : h[a]? = some (.inr (ci, fs))) (hv : fs[j]? = some v) (kk : rW l G R μ Z k n q ls (v :: st) h) : rW l G R μ Z k n pc ls (.ref (gN G + a) :: st) h := by
  subst hq
  intro p e s m args below meth c H locs lsM hx hb hm hr hlk hnm hown hts hK hS hE hl
  subst ho
  obtain ⟨x1, x2, x3, x4⟩ := x
  have hc2 := rws_get (G := G) hc
  rcases x4 with x4 | ⟨host, x4⟩
  · exact va_get hx hb hts x3 hown hK.1 hE.1 a hc2 x1 j x2 (hts _ x4) (fun _ q => q) hv d (kk p e s m args below meth c H locs lsM hx hb hm hr hlk hnm hown hts hK hS hE hl)
  · exact va_getN hx hb hts x3 hown hK.1 hE.1 a hc2 x1 j x2 (hts _ x4) (fun _ q => q) hv d (kk p e s m args below meth c H locs lsM hx hb hm hr hlk hnm hown hts hK hS hE hl)
theorem a_put {own C : String} {T : u_T} {N idx ci j a : Nat} {fs : List Value} {v : Value} {ty : Nat → FieldType} (x : rFld own idx ci j C T N) (y : rCls ci C T N ty) (ho : μ.1.cls = own) (q : Nat) (d : decode μ.2.1 pc = .ok (.putfield idx, 3)) (hq : pc + 3 = q) (hc : h[a]? = some (.inr (ci, fs))) (hj : j < fs.length) (hfin : (T j).2.2.2 = false) (hn : narrow (ty j) v = v) (hf : fits (ty j) v = true) (kk : rW l G R μ Z k n q ls st (h.set a (.inr (ci, fs.set j v)))) : rW l G R μ Z k n pc ls (v :: .ref (gN G + a) :: st) h := by
  subst hq
  intro p e s m args below meth c H locs lsM hx hb hm hr hlk hnm hown hts hK hS hE hl
  subst ho
  obtain ⟨x1, x2, x3, x4⟩ := x
  obtain ⟨-, -, y3, y4⟩ := y
  have hl0 : j < fs.length := hj
  have hap := va_apart (own := μ.1.cls) hts x3 ty y3 y4 hK.1 x1
  have he0 := rws_get (G := G) hc
  obtain ⟨r, h1, cell, q1, q2, q3, q4⟩ := hE.1 a _ he0
  have hr0 : r = (C, T, N) := Option.some.inj (h1.symm.trans x1)
  subst hr0
  obtain ⟨hSl, hfc, kC, hkC, hkind⟩ := hK.1.1 ci _ x1
  obtain ⟨cf, kf, fi, f, hi, hsl⟩ := hSl j x2
  have hlay := hts _ (x3 _ (u_in_lay x2))
  unfold u_lay at hlay
  rw [if_neg (by rw [hfin]; decide)] at hlay
  have hst := (u_facts hfc hkC (u_lays hts x3 x2) hi).1
  have h6 := u_store hfc hkC hkind hlay hi (y3 j x2) hn hf
  rcases x4 with x4 | ⟨host, x4⟩
  · refine W.putK hx hb (f := f) ⟨hown, hts _ x4, ⟨_, _, _, hi⟩, hst⟩ (by rw [q2]; exact h6) q1 q3 (by rw [hsl]; exact k2_hasslot (q4 j x2)) rfl rfl d fun H1 e1 e2 e3 => ?_
    rw [hsl] at e1 ⊢
    exact kk p e s m args below meth c H1 _ lsM hx hb hm hr hlk hnm hown hts hK (hS.put e2 e3 (Nat.le_add_right _ _)) (rE_set hE hc ⟨_, x1, t_OB.to (V := updV (vp_V fs) j v) ⟨_, e1, q2, q3, t_set q4 hap x2 v⟩ (fun q _ => vp_updV_set hl0 v q)⟩ e2 e3) hl
  · refine va_WputK hx hb (f := f) hown (hts _ x4) hi hst (by rw [q2]; exact h6) q1 q3 (by rw [hsl]; exact k2_hasslot (q4 j x2)) rfl rfl d fun H1 e1 e2 e3 => ?_
    rw [hsl] at e1 ⊢
    exact kk p e s m args below meth c H1 _ lsM hx hb hm hr hlk hnm hown hts hK (hS.put e2 e3 (Nat.le_add_right _ _)) (rE_set hE hc ⟨_, x1, t_OB.to (V := updV (vp_V fs) j v) ⟨_, e1, q2, q3, t_set q4 hap x2 v⟩ (fun q _ => vp_updV_set hl0 v q)⟩ e2 e3) hl
theorem a_putF {own C : String} {T : u_T} {N idx ci j a : Nat} {fs : List Value} {v : Value} {ty : Nat → FieldType} (x : rFld own idx ci j C T N) (y : rCls ci C T N ty) (ho : μ.1.cls = own) (q : Nat) (d : decode μ.2.1 pc = .ok (.putfield idx, 3)) (hq : pc + 3 = q) (hc : h[a]? = some (.inr (ci, fs))) (hj : j < fs.length) (hfin : (T j).2.2.2 = true) (hin2 : μ.1.name = "<init>") (hdecl : (T j).1 = own) (x5 : Cond.fieldLink own idx (T j).1 (T j).2.1 (T j).2.2.1 ∈ rTbl) (hn : narrow (ty j) v = v) (hf : fits (ty j) v = true) (kk : rW l G R μ Z k n q ls st (h.set a (.inr (ci, fs.set j v)))) : rW l G R μ Z k n pc ls (v :: .ref (gN G + a) :: st) h := by
  subst hq
  intro p e s m args below meth c H locs lsM hx hb hm hr hlk hnm hown hts hK hS hE hl
  subst ho
  obtain ⟨x1, x2, x3, x4⟩ := x
  obtain ⟨-, -, y3, y4⟩ := y
  have hl0 : j < fs.length := hj
  have hap := va_apart (own := μ.1.cls) hts x3 ty y3 y4 hK.1 x1
  have he0 := rws_get (G := G) hc
  obtain ⟨r, h1, cell, q1, q2, q3, q4⟩ := hE.1 a _ he0
  have hr0 : r = (C, T, N) := Option.some.inj (h1.symm.trans x1)
  subst hr0
  obtain ⟨hSl, hfc, kC, hkC, hkind⟩ := hK.1.1 ci _ x1
  obtain ⟨cf, kf, fi, f, hi, hsl⟩ := hSl j x2
  have hlay := hts _ (x3 _ (u_in_lay x2))
  unfold u_lay at hlay
  rw [if_pos hfin] at hlay
  have hst := (u_facts hfc hkC (u_lays hts x3 x2) hi).1
  have hcf : m.cls = cf := by
    obtain ⟨_, _, c2, _, _, _, -, -, hf2, -, -, -, hown2, -⟩ := Cond.laysFinal_spec hlay
    have e1 : c2 = cf := by have := hi.symm.trans hf2; simp at this; exact this.1.symm
    rw [hdecl] at hown2
    rw [← e1]; exact Option.some.inj (hown.symm.trans hown2)
  have h6 := u_fits hfc hkC hkind (Or.inr hlay) hi (y3 j x2) hn hf
  refine W.putFinK hx hb hown (hts _ x5) hi hst hcf (hnm.trans hin2) (by rw [q2]; exact h6) q1 q3 (by rw [hsl]; exact k2_hasslot (q4 j x2)) rfl rfl d fun H1 e1 e2 e3 => ?_
  rw [hsl] at e1 ⊢
  exact kk p e s m args below meth c H1 _ lsM hx hb hm hr hlk hnm hown hts hK (hS.put e2 e3 (Nat.le_add_right _ _)) (rE_set hE hc ⟨_, x1, t_OB.to (V := updV (vp_V fs) j v) ⟨_, e1, q2, q3, t_set q4 hap x2 v⟩ (fun q _ => vp_updV_set hl0 v q)⟩ e2 e3) hl
theorem a_iaload {a N : Nat} {f : Nat → Int32} {i : Int32} (q : Nat) (d : decode μ.2.1 pc = .ok (.iaload, 1)) (hq : pc + 1 = q) (hc : h[a]? = some (.inl (gA G 0, N, .inl f))) (hin : vp_in i N) (kk : rW l G R μ Z k n q ls (.int (f i.toNatClampNeg) :: st) h) : rW l G R μ Z k n pc ls (.int i :: .ref (gN G + a) :: st) h := by
  subst hq
  intro p e s m args below meth c H locs lsM hx hb hm hr hlk hnm hown hts hK hS hE hl
  exact va_iald hx hb hK.1 hE.1 a 0 (rws_get (G := G) hc) rfl hin d (kk p e s m args below meth c H locs lsM hx hb hm hr hlk hnm hown hts hK hS hE hl)
theorem a_baload {a N : Nat} {f : Nat → Int32} {i : Int32} (q : Nat) (d : decode μ.2.1 pc = .ok (.baload, 1)) (hq : pc + 1 = q) (hc : h[a]? = some (.inl (gA G 1, N, .inl f))) (hin : vp_in i N) (kk : rW l G R μ Z k n q ls (.int (f i.toNatClampNeg) :: st) h) : rW l G R μ Z k n pc ls (.int i :: .ref (gN G + a) :: st) h := by
  subst hq
  intro p e s m args below meth c H locs lsM hx hb hm hr hlk hnm hown hts hK hS hE hl
  exact va_zald hx hb hK.1 hE.1 a 1 (rws_get (G := G) hc) rfl hin d (kk p e s m args below meth c H locs lsM hx hb hm hr hlk hnm hown hts hK hS hE hl)
theorem a_iaload_s {L : Nat} {i : Int32} (q : Nat) (d : decode μ.2.1 pc = .ok (.iaload, 1)) (hq : pc + 1 = q) (hL : gL G = L) (hin : vp_in i L) (kk : rW l G R μ Z k n q ls (.int (gX G i.toNatClampNeg) :: st) h) : rW l G R μ Z k n pc ls (.int i :: .ref (gS G 0) :: st) h := by
  subst hq
  intro p e s m args below meth c H locs lsM hx hb hm hr hlk hnm hown hts hK hS hE hl
  subst hL
  exact va_sld hx hb hK.2.2.2.1 (Nat.lt_of_lt_of_le hK.2.2.2.2.1 hK.2.2.1) (Nat.not_le.mpr hK.2.2.2.2.1) hS hin d (kk p e s m args below meth c H locs lsM hx hb hm hr hlk hnm hown hts hK hS hE hl)
theorem a_alen_s (q : Nat) (d : decode μ.2.1 pc = .ok (.arraylength, 1)) (hq : pc + 1 = q) (kk : rW l G R μ Z k n q ls (.int (Int32.ofNat (gL G)) :: st) h) : rW l G R μ Z k n pc ls (.ref (gS G 0) :: st) h := by
  subst hq
  intro p e s m args below meth c H locs lsM hx hb hm hr hlk hnm hown hts hK hS hE hl
  exact va_slen hx hb hK.2.2.2.1 (Nat.lt_of_lt_of_le hK.2.2.2.2.1 hK.2.2.1) (Nat.not_le.mpr hK.2.2.2.2.1) hS d (kk p e s m args below meth c H locs lsM hx hb hm hr hlk hnm hown hts hK hS hE hl)
theorem a_iastore {a N : Nat} {f : Nat → Int32} {i x : Int32} (q : Nat) (d : decode μ.2.1 pc = .ok (.iastore, 1)) (hq : pc + 1 = q) (hc : h[a]? = some (.inl (gA G 0, N, .inl f))) (hin : vp_in i N) (kk : rW l G R μ Z k n q ls st (h.set a (.inl (gA G 0, N, .inl (upd f i.toNatClampNeg x))))) : rW l G R μ Z k n pc ls (.int x :: .int i :: .ref (gN G + a) :: st) h := by
  subst hq
  intro p e s m args below meth c H locs lsM hx hb hm hr hlk hnm hown hts hK hS hE hl
  refine W.iast hx hb (hE.1 a _ (rws_get (G := G) hc)) ((hK.1.2 0 _ rfl).1 N (fun j => .int (f j))) (fun q => by cases q) (by show ¬ (i < 0 ∨ (arrV _ _ _).slots.size ≤ _); rw [arrV_size]; exact hin) rfl rfl d fun H1 e1 z oq => ?_
  refine kk p e s m args below meth c H1 _ lsM hx hb hm hr hlk hnm hown hts hK (hS.put z oq (Nat.le_add_right _ _)) (rE_set hE hc ?_ z oq) hl
  show H1[gN G + a]? = some (vp_cell _ _)
  rw [e1]
  rw [vp_cell_i, vp_cell_i, arrV_store]
  congr 2
  funext q
  by_cases hq : q = i.toNatClampNeg
  · subst hq
    simp [updV, upd]
    try rfl
  · simp [updV, upd, hq]
theorem a_bastore {a N : Nat} {f : Nat → Int32} {i x : Int32} (q : Nat) (d : decode μ.2.1 pc = .ok (.bastore, 1)) (hq : pc + 1 = q) (hc : h[a]? = some (.inl (gA G 1, N, .inl f))) (hin : vp_in i N) (kk : rW l G R μ Z k n q ls st (h.set a (.inl (gA G 1, N, .inl (upd f i.toNatClampNeg (vp_nar .boolean x)))))) : rW l G R μ Z k n pc ls (.int x :: .int i :: .ref (gN G + a) :: st) h := by
  subst hq
  intro p e s m args below meth c H locs lsM hx hb hm hr hlk hnm hown hts hK hS hE hl
  refine W.zast hx hb (hE.1 a _ (rws_get (G := G) hc)) ((hK.1.2 1 _ rfl).1 N (fun j => .int (f j))) (fun q => by cases q) (by show ¬ (i < 0 ∨ (arrV _ _ _).slots.size ≤ _); rw [arrV_size]; exact hin) rfl rfl d fun H1 e1 z oq => ?_
  refine kk p e s m args below meth c H1 _ lsM hx hb hm hr hlk hnm hown hts hK (hS.put z oq (Nat.le_add_right _ _)) (rE_set hE hc ?_ z oq) hl
  show H1[gN G + a]? = some (vp_cell _ _)
  rw [e1]
  rw [vp_cell_i, vp_cell_i, arrV_store]
  congr 2
  funext q
  by_cases hq : q = i.toNatClampNeg
  · subst hq
    simp [updV, upd, vp_nar]
    try rfl
  · simp [updV, upd, hq]
theorem a_alen_0 {a N : Nat} {f : Nat → Int32} (q : Nat) (d : decode μ.2.1 pc = .ok (.arraylength, 1)) (hq : pc + 1 = q) (hc : h[a]? = some (.inl (gA G 0, N, .inl f))) (kk : rW l G R μ Z k n q ls (.int (Int32.ofNat N) :: st) h) : rW l G R μ Z k n pc ls (.ref (gN G + a) :: st) h := by
  subst hq
  intro p e s m args below meth c H locs lsM hx hb hm hr hlk hnm hown hts hK hS hE hl
  exact va_alen hx hb hK.1 hE.1 a 0 (rws_get (G := G) hc) rfl rfl d (kk p e s m args below meth c H locs lsM hx hb hm hr hlk hnm hown hts hK hS hE hl)
theorem a_alen_1 {a N : Nat} {f : Nat → Int32} (q : Nat) (d : decode μ.2.1 pc = .ok (.arraylength, 1)) (hq : pc + 1 = q) (hc : h[a]? = some (.inl (gA G 1, N, .inl f))) (kk : rW l G R μ Z k n q ls (.int (Int32.ofNat N) :: st) h) : rW l G R μ Z k n pc ls (.ref (gN G + a) :: st) h := by
  subst hq
  intro p e s m args below meth c H locs lsM hx hb hm hr hlk hnm hown hts hK hS hE hl
  exact va_alen hx hb hK.1 hE.1 a 1 (rws_get (G := G) hc) rfl rfl d (kk p e s m args below meth c H locs lsM hx hb hm hr hlk hnm hown hts hK hS hE hl)
theorem a_alen_2 {a N : Nat} {f : Nat → Option Nat} (q : Nat) (d : decode μ.2.1 pc = .ok (.arraylength, 1)) (hq : pc + 1 = q) (hc : h[a]? = some (.inl (gA G 2, N, .inr (.inr (.inr (.inr f)))))) (kk : rW l G R μ Z k n q ls (.int (Int32.ofNat N) :: st) h) : rW l G R μ Z k n pc ls (.ref (gN G + a) :: st) h := by
  subst hq
  intro p e s m args below meth c H locs lsM hx hb hm hr hlk hnm hown hts hK hS hE hl
  exact va_alen hx hb hK.1 hE.1 a 2 (rws_get (G := G) hc) rfl rfl d (kk p e s m args below meth c H locs lsM hx hb hm hr hlk hnm hown hts hK hS hE hl)
theorem a_aaload_2 {a N : Nat} {f : Nat → Option Nat} {i : Int32} (q : Nat) (d : decode μ.2.1 pc = .ok (.aaload, 1)) (hq : pc + 1 = q) (hc : h[a]? = some (.inl (gA G 2, N, .inr (.inr (.inr (.inr f)))))) (hin : vp_in i N) (kk : rW l G R μ Z k n q ls (va_rf (f i.toNatClampNeg) :: st) h) : rW l G R μ Z k n pc ls (.int i :: .ref (gN G + a) :: st) h := by
  subst hq
  intro p e s m args below meth c H locs lsM hx hb hm hr hlk hnm hown hts hK hS hE hl
  exact va_aldq hx hb hK.1 hE.1 a 2 (rws_get (G := G) hc) rfl hin d (kk p e s m args below meth c H locs lsM hx hb hm hr hlk hnm hown hts hK hS hE hl)
theorem a_alen_3 {a N : Nat} {f : Nat → Option Nat} (q : Nat) (d : decode μ.2.1 pc = .ok (.arraylength, 1)) (hq : pc + 1 = q) (hc : h[a]? = some (.inl (gA G 3, N, .inr (.inr (.inr (.inr f)))))) (kk : rW l G R μ Z k n q ls (.int (Int32.ofNat N) :: st) h) : rW l G R μ Z k n pc ls (.ref (gN G + a) :: st) h := by
  subst hq
  intro p e s m args below meth c H locs lsM hx hb hm hr hlk hnm hown hts hK hS hE hl
  exact va_alen hx hb hK.1 hE.1 a 3 (rws_get (G := G) hc) rfl rfl d (kk p e s m args below meth c H locs lsM hx hb hm hr hlk hnm hown hts hK hS hE hl)
theorem a_aaload_3 {a N : Nat} {f : Nat → Option Nat} {i : Int32} (q : Nat) (d : decode μ.2.1 pc = .ok (.aaload, 1)) (hq : pc + 1 = q) (hc : h[a]? = some (.inl (gA G 3, N, .inr (.inr (.inr (.inr f)))))) (hin : vp_in i N) (kk : rW l G R μ Z k n q ls (va_rf (f i.toNatClampNeg) :: st) h) : rW l G R μ Z k n pc ls (.int i :: .ref (gN G + a) :: st) h := by
  subst hq
  intro p e s m args below meth c H locs lsM hx hb hm hr hlk hnm hown hts hK hS hE hl
  exact va_aldq hx hb hK.1 hE.1 a 3 (rws_get (G := G) hc) rfl hin d (kk p e s m args below meth c H locs lsM hx hb hm hr hlk hnm hown hts hK hS hE hl)
theorem a_alen_4 {a N : Nat} {f : Nat → Option Nat} (q : Nat) (d : decode μ.2.1 pc = .ok (.arraylength, 1)) (hq : pc + 1 = q) (hc : h[a]? = some (.inl (gA G 4, N, .inr (.inr (.inr (.inr f)))))) (kk : rW l G R μ Z k n q ls (.int (Int32.ofNat N) :: st) h) : rW l G R μ Z k n pc ls (.ref (gN G + a) :: st) h := by
  subst hq
  intro p e s m args below meth c H locs lsM hx hb hm hr hlk hnm hown hts hK hS hE hl
  exact va_alen hx hb hK.1 hE.1 a 4 (rws_get (G := G) hc) rfl rfl d (kk p e s m args below meth c H locs lsM hx hb hm hr hlk hnm hown hts hK hS hE hl)
theorem a_aaload_4 {a N : Nat} {f : Nat → Option Nat} {i : Int32} (q : Nat) (d : decode μ.2.1 pc = .ok (.aaload, 1)) (hq : pc + 1 = q) (hc : h[a]? = some (.inl (gA G 4, N, .inr (.inr (.inr (.inr f)))))) (hin : vp_in i N) (kk : rW l G R μ Z k n q ls (va_rf (f i.toNatClampNeg) :: st) h) : rW l G R μ Z k n pc ls (.int i :: .ref (gN G + a) :: st) h := by
  subst hq
  intro p e s m args below meth c H locs lsM hx hb hm hr hlk hnm hown hts hK hS hE hl
  exact va_aldq hx hb hK.1 hE.1 a 4 (rws_get (G := G) hc) rfl hin d (kk p e s m args below meth c H locs lsM hx hb hm hr hlk hnm hown hts hK hS hE hl)
end RULES
section ENDS
variable {l : Launch} {G : rG} {F mc ms : Nat} {μ : rMth} {Q : rH → Option Value → Prop} {k n pc : Nat} {ls : List (Option Value)} {st : List Value} {h : rH}
theorem a_ireturn {v : Int32} {ty : FieldType} (d : decode μ.2.1 pc = .ok (.ireturn, 1)) (ht : μ.2.2.2 = some ty) (hv : narrow ty (.int v) = .int v) (hk : k ≤ mc) (hn : n ≤ ms) (hq : Q h (some (.int v))) : rW l G (rRm F mc ms) μ (rZ G Q mc ms) k n pc ls [.int v] h := by
  intro p e s m args below meth c H locs lsM hx hb hm hr hlk hnm hown hts hK hS hE hl
  exact W.widen hk hn (W.zret hx hb (hr.trans ht) hv (fun t ht hW => ⟨⟨h, some (.int v), rfl, hq, by rw [ht]; exact hE⟩, hS.F ht⟩) hS.2.2 d hlk)
theorem a_lreturn {v : Int64} (d : decode μ.2.1 pc = .ok (.lreturn, 1)) (ht : μ.2.2.2 = some .long) (hk : k ≤ mc) (hn : n ≤ ms) (hq : Q h (some (.long v))) : rW l G (rRm F mc ms) μ (rZ G Q mc ms) k n pc ls [.long v] h := by
  intro p e s m args below meth c H locs lsM hx hb hm hr hlk hnm hown hts hK hS hE hl
  exact W.widen hk hn (W.lret hx hb (hr.trans ht) (fun t ht hW => ⟨⟨h, some (.long v), rfl, hq, by rw [ht]; exact hE⟩, hS.F ht⟩) hS.2.2 d hlk)
theorem a_return (d : decode μ.2.1 pc = .ok (.return_, 1)) (ht : μ.2.2.2 = none) (hk : k ≤ mc) (hn : n ≤ ms) (hq : Q h none) : rW l G (rRm F mc ms) μ (rZ G Q mc ms) k n pc ls [] h := by
  intro p e s m args below meth c H locs lsM hx hb hm hr hlk hnm hown hts hK hS hE hl
  exact W.widen hk hn (W.vret hx hb (hr.trans ht) (fun t ht hW => ⟨⟨h, none, rfl, hq, by rw [ht]; exact hE⟩, hS.F ht⟩) hS.2.2 d hlk)
theorem a_areturn {v : Value} {C : String} (d : decode μ.2.1 pc = .ok (.areturn, 1)) (ht : μ.2.2.2 = some (.object C)) (hv : v = .null ∨ ∃ a, v = .ref a) (hk : k ≤ mc) (hn : n ≤ ms) (hq : Q h (some v)) : rW l G (rRm F mc ms) μ (rZ G Q mc ms) k n pc ls [v] h := by
  intro p e s m args below meth c H locs lsM hx hb hm hr hlk hnm hown hts hK hS hE hl
  exact W.widen hk hn (W.aret hx hb (hr.trans ht) (Or.inl ⟨_, rfl⟩) hv (fun t ht hW => ⟨⟨h, some v, rfl, hq, by rw [ht]; exact hE⟩, hS.F ht⟩) hS.2.2 d hlk)
end ENDS
