/-! CALLS: what a method's row and a call's row of the tables ask -/
theorem rLen {o : Option MethodDescriptor} {n : Nat} (h : o.map (fun d => d.parameters.length) = some n) : ∀ sig, o = some sig → n = sig.parameters.length := by
  intro sig hs
  rw [hs] at h
  exact (Option.some.inj h).symm
abbrev rRoomOk (R : Room) (F' : Nat) (μ' : rMth) : Prop := F' + 1 ≤ R.frames ∧ 8 + (μ'.2.2.1 + 11) + 41 * F' ≤ R.locals
theorem rMi : Cond.initialized "java/lang/Math" ∈ rTbl := by decide +kernel
theorem rMs_max : Cond.static Lib.Math.max.name ∈ rTbl := by decide +kernel
theorem rMc_max : Cond.code Lib.Math.max.name Lib.Math.max.code 2 (some .int) ∈ rTbl := by decide +kernel
theorem rMs_min : Cond.static Lib.Math.min.name ∈ rTbl := by decide +kernel
theorem rMc_min : Cond.code Lib.Math.min.name Lib.Math.min.code 2 (some .int) ∈ rTbl := by decide +kernel
theorem rMs_abs : Cond.static Lib.Math.abs.name ∈ rTbl := by decide +kernel
theorem rMc_abs : Cond.code Lib.Math.abs.name Lib.Math.abs.code 1 (some .int) ∈ rTbl := by decide +kernel
section CALLS
variable {l : Launch} {G : rG} {R : Room} {μ μ' : rMth} {Z : rZt} {k n pc : Nat} {ls : List (Option Value)} {st : List Value} {h : rH}
variable {own : String} {idx n' F' mc' ms' a ci : Nat} {C : String} {T : u_T} {N : Nat} {fs As rest : List Value} {Q' : rH → Option Value → Prop}
theorem a_callV (ok : rOk μ' n') (lk : rLnk own idx μ'.1) (is : rInst C μ'.1) (ho : μ.1.cls = own) (q : Nat) (d : decode μ.2.1 pc = .ok (.invokevirtual idx, 3)) (hq : pc + 3 = q) (hM : rM l G F' μ' mc' ms' (.ref (gN G + a) :: As) h Q') (hc : h[a]? = some (.inr (ci, fs))) (hcl : vwCl[ci]? = some (C, T, N)) (hst : st = As.reverse ++ .ref (gN G + a) :: rest) (hn : As.length = n') (hR : rRoomOk R F' μ') (hcat : (rest.map fun v => v.category).sum ≤ 8) (hroom : k + mc' ≤ R.cells ∧ n + ms' ≤ R.slots) (kk : ∀ (h' : rH) (v : Option Value), Q' h' v → rW l G R μ Z (k + mc') (n + ms') q ls (v.toList ++ rest) h') : rW l G R μ Z k n pc ls st h := by
  subst hq
  subst ho
  subst hst
  intro p e s m args below meth c H locs lsM hx hb hm hr hlk hnm hown hts hK hS hE hl
  have hp : PreV s H C (gN G + a) (rPre G (.ref (gN G + a) :: As) h) As := ⟨rM_blind G _ h, va_recv hK.1 hE.1 hcl (rws_get hc), fun U hU hW => rPre_call hK hS hE hU hW⟩
  rcases lk with lk | ⟨host, lk⟩
  · exact rW_after (va_runV (own := μ.1.cls) (C := C) (n := n') ⟨hx, hb, hm, hown, hts⟩ hM ⟨⟨rfl, rfl, hR.1, hR.2, pay_in hts (rM_words ok.1), List.mem_cons_self, hts _ ok.1, hts _ ok.2.1, ok.2.2.1, rLen ok.2.2.2.1, hts _ lk⟩, hts _ is.1, hts _ is.2⟩ hp rfl hn hl.1 rfl (lv_room hcat) d hroom) hS (fun h' v H1 locs1 hq hE1 hS1 => kk h' v hq p e s m args below meth c H1 locs1 lsM hx hb hm hr hlk hnm hown hts hK hS1 hE1 hl)
  · exact rW_after (va_runVN (own := μ.1.cls) (C := C) (n := n') (host := host) ⟨hx, hb, hm, hown, hts⟩ hM ⟨⟨⟨rfl, rfl, hR.1, hR.2, pay_in hts (rM_words ok.1), List.mem_cons_self⟩, hts _ ok.1, hts _ ok.2.1, ok.2.2.1, rLen ok.2.2.2.1, hts _ lk⟩, hts _ is.1, hts _ is.2⟩ hp rfl hn hl.1 rfl (lv_room hcat) d hroom) hS (fun h' v H1 locs1 hq hE1 hS1 => kk h' v hq p e s m args below meth c H1 locs1 lsM hx hb hm hr hlk hnm hown hts hK hS1 hE1 hl)
theorem a_callS (ok : rOk μ' n') (lk : rLnk own idx μ'.1) (is : Cond.static μ'.1 ∈ rTbl) (ho : μ.1.cls = own) (q : Nat) (d : decode μ.2.1 pc = .ok (.invokestatic idx, 3)) (hq : pc + 3 = q) (hM : rM l G F' μ' mc' ms' As h Q') (hst : st = As.reverse ++ rest) (hn : As.length = n') (hR : rRoomOk R F' μ') (hcat : (rest.map fun v => v.category).sum ≤ 8) (hroom : k + mc' ≤ R.cells ∧ n + ms' ≤ R.slots) (kk : ∀ (h' : rH) (v : Option Value), Q' h' v → rW l G R μ Z (k + mc') (n + ms') q ls (v.toList ++ rest) h') : rW l G R μ Z k n pc ls st h := by
  subst hq
  subst ho
  subst hst
  intro p e s m args below meth c H locs lsM hx hb hm hr hlk hnm hown hts hK hS hE hl
  have hp : PreS s H (rPre G As h) As := ⟨rM_blind G _ h, fun U hU hW => rPre_call hK hS hE hU hW⟩
  rcases lk with lk | ⟨host, lk⟩
  · exact rW_after (va_runS (own := μ.1.cls) (n := n') ⟨hx, hb, hm, hown, hts⟩ hM ⟨⟨rfl, rfl, hR.1, hR.2, pay_in hts (rM_words ok.1), List.mem_cons_self, hts _ ok.1, hts _ ok.2.1, ok.2.2.1, rLen ok.2.2.2.1, hts _ lk⟩, hts _ is⟩ hp rfl hn hl.1 rfl (lv_room hcat) d hroom) hS (fun h' v H1 locs1 hq hE1 hS1 => kk h' v hq p e s m args below meth c H1 locs1 lsM hx hb hm hr hlk hnm hown hts hK hS1 hE1 hl)
  · exact rW_after (va_runSN (own := μ.1.cls) (n := n') (host := host) ⟨hx, hb, hm, hown, hts⟩ hM ⟨⟨⟨rfl, rfl, hR.1, hR.2, pay_in hts (rM_words ok.1), List.mem_cons_self⟩, hts _ ok.1, hts _ ok.2.1, ok.2.2.1, rLen ok.2.2.2.1, hts _ lk⟩, hts _ is, trivial⟩ hp rfl hn hl.1 rfl (lv_room hcat) d hroom) hS (fun h' v H1 locs1 hq hE1 hS1 => kk h' v hq p e s m args below meth c H1 locs1 lsM hx hb hm hr hlk hnm hown hts hK hS1 hE1 hl)
theorem a_callI (ok : rOk μ' n') (lk : rLnk own idx μ'.1) (is : Cond.instanceMethod μ'.1 ∈ rTbl) (hin : μ'.1.name = "<init>") (hret : μ'.2.2.2 = none) (ho : μ.1.cls = own) (q : Nat) (d : decode μ.2.1 pc = .ok (.invokespecial idx, 3)) (hq : pc + 3 = q) (hM : rM l G F' μ' mc' ms' (.ref (gN G + a) :: As) h Q') (hst : st = As.reverse ++ .ref (gN G + a) :: rest) (hn : As.length = n') (hR : rRoomOk R F' μ') (hcat : (rest.map fun v => v.category).sum ≤ 8) (hroom : k + mc' ≤ R.cells ∧ n + ms' ≤ R.slots) (kk : ∀ (h' : rH) (v : Option Value), Q' h' v → rW l G R μ Z (k + mc') (n + ms') q ls (v.toList ++ rest) h') : rW l G R μ Z k n pc ls st h := by
  subst hq
  subst ho
  subst hst
  obtain ⟨y, cc, mL, rt⟩ := μ'
  have hret : rt = none := hret
  subst hret
  intro p e s m args below meth c H locs lsM hx hb hm hr hlk hnm hown hts hK hS hE hl
  have hp : PreS s H (rPre G (.ref (gN G + a) :: As) h) (.ref (gN G + a) :: As) := ⟨rM_blind G _ h, fun U hU hW => rPre_call hK hS hE hU hW⟩
  rcases lk with lk | ⟨host, lk⟩
  · exact rW_after (va_runI (own := μ.1.cls) (n := n') ⟨hx, hb, hm, hown, hts⟩ hM ⟨⟨rfl, rfl, hR.1, hR.2, pay_in hts (rM_words ok.1), List.mem_cons_self, hts _ ok.1, hts _ ok.2.1, ok.2.2.1, rLen ok.2.2.2.1, hts _ lk⟩, hin, hts _ is⟩ hp rfl hn hl.1 rfl (lv_room hcat) d hroom) hS (fun h' v H1 locs1 hq hE1 hS1 => kk h' v hq p e s m args below meth c H1 locs1 lsM hx hb hm hr hlk hnm hown hts hK hS1 hE1 hl)
  · exact rW_after (va_runIN (own := μ.1.cls) (n := n') (host := host) ⟨hx, hb, hm, hown, hts⟩ hM ⟨⟨⟨rfl, rfl, hR.1, hR.2, pay_in hts (rM_words ok.1), List.mem_cons_self⟩, hts _ ok.1, hts _ ok.2.1, ok.2.2.1, rLen ok.2.2.2.1, hts _ lk⟩, hin, hts _ is⟩ hp rfl hn hl.1 rfl (lv_room hcat) d hroom) hS (fun h' v H1 locs1 hq hE1 hS1 => kk h' v hq p e s m args below meth c H1 locs1 lsM hx hb hm hr hlk hnm hown hts hK hS1 hE1 hl)
theorem a_callU {owner : String} {x : MethodName} (ok : rOk μ' n') (cu : rCU own idx C owner x μ' n') (ho : μ.1.cls = own) (q : Nat) (d : decode μ.2.1 pc = .ok (.invokevirtual idx, 3)) (hq : pc + 3 = q) (hM : rM l G F' μ' mc' ms' (.ref (gN G + a) :: As) h Q') (hc : h[a]? = some (.inr (ci, fs))) (hcl : vwCl[ci]? = some (C, T, N)) (hst : st = As.reverse ++ .ref (gN G + a) :: rest) (hn : As.length = n') (hR : rRoomOk R F' μ') (hcat : (rest.map fun v => v.category).sum ≤ 8) (hroom : k + mc' ≤ R.cells ∧ n + ms' ≤ R.slots) (kk : ∀ (h' : rH) (v : Option Value), Q' h' v → rW l G R μ Z (k + mc') (n + ms') q ls (v.toList ++ rest) h') : rW l G R μ Z k n pc ls st h := by
  subst hq
  subst ho
  subst hst
  intro p e s m args below meth c H locs lsM hx hb hm hr hlk hnm hown hts hK hS hE hl
  have hp : PreV s H C (gN G + a) (rPre G (.ref (gN G + a) :: As) h) As := ⟨rM_blind G _ h, va_recv hK.1 hE.1 hcl (rws_get hc), fun U hU hW => rPre_call hK hS hE hU hW⟩
  obtain ⟨c1, c2, c3, c4, c5, c6, c7⟩ := cu
  have hdec : va_Decl s ⟨owner, x.name, x.desc⟩ := by
    rcases c3 with ⟨b0, m0, r0, c3, c3i⟩ | c3
    · exact va_Decl.of (hts _ c3i) (hts _ c3)
    · exact va_Decl.abs (va_Nw.of rfl (hts _ c3))
  exact rW_after (va_runU (own := μ.1.cls) (C := C) (owner := owner) (x := x) (n := n') ⟨hx, hb, hm, hown, hts⟩ hM ⟨⟨rfl, rfl, hR.1, hR.2, pay_in hts (rM_words ok.1), List.mem_cons_self⟩, hts _ ok.1, hts _ ok.2.1, c6, rLen c7, hts _ c1, hts _ c2, hdec, hts _ c4, hts _ c5⟩ hp rfl hn hl.1 rfl (lv_room hcat) d hroom) hS (fun h' v H1 locs1 hq hE1 hS1 => kk h' v hq p e s m args below meth c H1 locs1 lsM hx hb hm hr hlk hnm hown hts hK hS1 hE1 hl)
theorem a_callSU (ok : rOk μ' n') (lk : Cond.methodLink own idx μ'.1 ∈ rTbl) (sm : Cond.sameMethod μ'.1.cls μ'.1.cls μ'.1.name μ'.1.desc ∈ rTbl) (sc : Cond.superclass own μ'.1.cls ∈ rTbl) (is : Cond.instanceMethod μ'.1 ∈ rTbl) (hni : μ'.1.name ≠ "<init>") (ho : μ.1.cls = own) (q : Nat) (d : decode μ.2.1 pc = .ok (.invokespecial idx, 3)) (hq : pc + 3 = q) (hM : rM l G F' μ' mc' ms' (.ref (gN G + a) :: As) h Q') (hc : h[a]? = some (.inr (ci, fs))) (hcl : vwCl[ci]? = some (C, T, N)) (hst : st = As.reverse ++ .ref (gN G + a) :: rest) (hn : As.length = n') (hR : rRoomOk R F' μ') (hcat : (rest.map fun v => v.category).sum ≤ 8) (hroom : k + mc' ≤ R.cells ∧ n + ms' ≤ R.slots) (kk : ∀ (h' : rH) (v : Option Value), Q' h' v → rW l G R μ Z (k + mc') (n + ms') q ls (v.toList ++ rest) h') : rW l G R μ Z k n pc ls st h := by
  subst hq
  subst ho
  subst hst
  intro p e s m args below meth c H locs lsM hx hb hm hr hlk hnm hown hts hK hS hE hl
  have hp : PreV s H C (gN G + a) (rPre G (.ref (gN G + a) :: As) h) As := ⟨rM_blind G _ h, va_recv hK.1 hE.1 hcl (rws_get hc), fun U hU hW => rPre_call hK hS hE hU hW⟩
  exact rW_after (va_runSU (own := μ.1.cls) (C := C) (n := n') (hK.1.1 ci _ hcl).2 ⟨hx, hb, hm, hown, hts⟩ hM ⟨⟨rfl, rfl, hR.1, hR.2, pay_in hts (rM_words ok.1), List.mem_cons_self⟩, hts _ lk, hts _ sm, hts _ sc, hts _ is, hts _ ok.2.1, hts _ ok.1, hni, rLen ok.2.2.2.1⟩ hp rfl hn hl.1 rfl (lv_room hcat) d hroom) hS (fun h' v H1 locs1 hq hE1 hS1 => kk h' v hq p e s m args below meth c H1 locs1 lsM hx hb hm hr hlk hnm hown hts hK hS1 hE1 hl)
theorem a_objInit (lk : Cond.methodLink own idx Lib.objectInit ∈ rTbl) (is : Cond.instanceMethod Lib.objectInit ∈ rTbl) (ic : Cond.code Lib.objectInit ⟨#[0xb1]⟩ 1 none ∈ rTbl) (ho : μ.1.cls = own) (q : Nat) (d : decode μ.2.1 pc = .ok (.invokespecial idx, 3)) (hq : pc + 3 = q) (hf : 1 ≤ R.frames) (hlo : (st.map fun v => v.category).sum + 12 ≤ R.locals) (kk : rW l G R μ Z k n q ls st h) : rW l G R μ Z k n pc ls (.ref (gN G + a) :: st) h := by
  subst hq
  subst ho
  intro p e s m args below meth c H locs lsM hx hb hm hr hlk hnm hown hts hK hS hE hl
  exact W.objInit hx hb hown (hts _ lk) (hts _ is) (hts _ ic) rfl (hl.1.trans hm.symm) rfl d hf (by show 2 * 0 + _ + 12 ≤ _; omega) (kk p e s m args below meth c H locs lsM hx hb hm hr hlk hnm hown hts hK hS hE hl)
theorem a_new {ty : Nat → FieldType} (y : rCls ci C T N ty) (lk : Cond.classLink own idx C ∈ rTbl) (is : Cond.instantiable C N ∈ rTbl) (ini : Cond.initialized C ∈ rTbl) (ho : μ.1.cls = own) (q : Nat) (d : decode μ.2.1 pc = .ok (.new idx, 3)) (hq : pc + 3 = q) (hfs : ∀ j, j < N → defaultValue (ty j) = vp_V fs j) (hroom : k + 1 ≤ R.cells ∧ n + N ≤ R.slots) (kk : rW l G R μ Z (k + 1) (n + N) q ls (.ref (gN G + h.length) :: st) (h ++ [.inr (ci, fs)])) : rW l G R μ Z k n pc ls st h := by
  subst hq
  subst ho
  obtain ⟨y1, y2, y3, y4⟩ := y
  intro p e s m args below meth c H locs lsM hx hb hm hr hlk hnm hown hts hK hS hE hl
  have hKn := hK.1.1 ci _ y1
  refine W.newcK hx hb hown (hts _ lk) (hts _ is) (hts _ ini) rfl d hroom.1 hroom.2 hKn.2.1 rfl fun H1 kC hkC e1 z1 o1 => ?_
  have hz := hE.2
  rw [hz]
  exact kk p e s m args below meth c H1 locs lsM hx hb hm hr hlk hnm hown hts hK ⟨Nat.le_trans hS.1 (by omega), fun x h1 h2 => (o1 x (Nat.lt_of_lt_of_le h1 hS.1)).trans (hS.2.1 x h1 h2), hS.2.2⟩ (rE_push hE ⟨_, y1, (u_born ty hts y2 hKn hkC e1 y3).to hfs⟩ z1 o1) hl
theorem a_newarr_int {i : Int32} (w : Cond.arrayClass .int ∈ rTbl) (q : Nat) (d : decode μ.2.1 pc = .ok (.newarray .int, 2)) (hq : pc + 2 = q) (hi : ¬ i < 0) (hN : i.toNatClampNeg = N) (hb2 : N ≤ 100000) (hroom : k + 1 ≤ R.cells ∧ n + N ≤ R.slots) (kk : rW l G R μ Z (k + 1) (n + N) q ls (.ref (gN G + h.length) :: st) (h ++ [.inl (gA G 0, N, .inl (fun _ => 0))])) : rW l G R μ Z k n pc ls (.int i :: st) h := by
  subst hq
  intro p e s m args below meth c H locs lsM hx hb hm hr hlk hnm hown hts hK hS hE hl
  refine va_newaK (atype := .int) hx hb (hts _ w) rfl d rfl hi hN (by show N * 4 ≤ _; omega) hroom.1 hroom.2 rfl fun H1 cA e1 z1 o1 hAr hNm => ?_
  have hcA : cA = gA G 0 := Option.some.inj (hNm.symm.trans (hK.1.2 0 _ rfl).2)
  subst hcA
  have hz := hE.2
  rw [hz]
  exact kk p e s m args below meth c H1 locs lsM hx hb hm hr hlk hnm hown hts hK ⟨Nat.le_trans hS.1 (by omega), fun x h1 h2 => (o1 x (Nat.lt_of_lt_of_le h1 hS.1)).trans (hS.2.1 x h1 h2), hS.2.2⟩ (rE_push hE e1 z1 o1) hl
theorem a_newarr_bool {i : Int32} (w : Cond.arrayClass .boolean ∈ rTbl) (q : Nat) (d : decode μ.2.1 pc = .ok (.newarray .boolean, 2)) (hq : pc + 2 = q) (hi : ¬ i < 0) (hN : i.toNatClampNeg = N) (hb2 : N ≤ 100000) (hroom : k + 1 ≤ R.cells ∧ n + N ≤ R.slots) (kk : rW l G R μ Z (k + 1) (n + N) q ls (.ref (gN G + h.length) :: st) (h ++ [.inl (gA G 1, N, .inl (fun _ => 0))])) : rW l G R μ Z k n pc ls (.int i :: st) h := by
  subst hq
  intro p e s m args below meth c H locs lsM hx hb hm hr hlk hnm hown hts hK hS hE hl
  refine va_newaK (atype := .boolean) hx hb (hts _ w) rfl d rfl hi hN (by show N * 1 ≤ _; omega) hroom.1 hroom.2 rfl fun H1 cA e1 z1 o1 hAr hNm => ?_
  have hcA : cA = gA G 1 := Option.some.inj (hNm.symm.trans (hK.1.2 1 _ rfl).2)
  subst hcA
  have hz := hE.2
  rw [hz]
  exact kk p e s m args below meth c H1 locs lsM hx hb hm hr hlk hnm hown hts hK ⟨Nat.le_trans hS.1 (by omega), fun x h1 h2 => (o1 x (Nat.lt_of_lt_of_le h1 hS.1)).trans (hS.2.1 x h1 h2), hS.2.2⟩ (rE_push hE e1 z1 o1) hl
theorem a_newref_2 {i : Int32} (lk : Cond.classLink own idx RX8 ∈ rTbl) (w : Cond.arrayOver (.object RX8) ∈ rTbl) (ho : μ.1.cls = own) (q : Nat) (d : decode μ.2.1 pc = .ok (.anewarray idx, 3)) (hq : pc + 3 = q) (hi : ¬ i < 0) (hN : i.toNatClampNeg = N) (hb2 : N ≤ 100000) (hroom : k + 1 ≤ R.cells ∧ n + N ≤ R.slots) (kk : rW l G R μ Z (k + 1) (n + N) q ls (.ref (gN G + h.length) :: st) (h ++ [.inl (gA G 2, N, .inr (.inr (.inr (.inr (fun _ => none)))))])) : rW l G R μ Z k n pc ls (.int i :: st) h := by
  subst hq
  subst ho
  subst hN
  intro p e s m args below meth c H locs lsM hx hb hm hr hlk hnm hown hts hK hS hE hl
  refine W.anew hx hb hown (hts _ lk) (hts _ w) rfl d rfl hi (by omega) hroom.1 hroom.2 fun cA kA comp f1 f2 f3 f4 => ?_
  generalize hH1 : H.push ({ cls := cA, slots := Array.replicate i.toNatClampNeg .null, vm := .none } : Cell) = H1
  have z1 : H1.size = H.size + 1 := by rw [← hH1, Array.size_push]
  have e1 : H1[H.size]? = some (arrV cA i.toNatClampNeg (fun _ => .null)) := by rw [← hH1, Array.getElem?_push_size, ← arrV_new]
  have o1 : ∀ q : Nat, q < H.size → H1[q]? = H[q]? := fun q hq => by rw [← hH1, Array.getElem?_push, if_neg (Nat.ne_of_lt hq)]
  obtain ⟨kA2, comp2, g1, g2, g3, g4⟩ := (hK.1.2 2 _ rfl).2
  have hcA : cA = gA G 2 := Option.some.inj (f1.symm.trans g4)
  subst hcA
  have hz := hE.2
  rw [hz]
  exact kk p e s m args below meth c H1 locs lsM hx hb hm hr hlk hnm hown hts hK ⟨Nat.le_trans hS.1 (by omega), fun x h1 h2 => (o1 x (Nat.lt_of_lt_of_le h1 hS.1)).trans (hS.2.1 x h1 h2), hS.2.2⟩ (rE_push hE e1 z1 o1) hl
theorem a_aastore_2 {b : Nat} {f : Nat → Option Nat} {i : Int32} (hci : vwCl[ci]? = some (C, T, N)) {N1 : Nat} (hca : C = RX8 ∨ Cond.castable C RX8 ∈ rTbl) (q : Nat) (d : decode μ.2.1 pc = .ok (.aastore, 1)) (hq : pc + 1 = q) (hc : h[a]? = some (.inl (gA G 2, N1, .inr (.inr (.inr (.inr f)))))) (hv : h[b]? = some (.inr (ci, fs))) (hin : vp_in i N1) (kk : rW l G R μ Z k n q ls st (h.set a (.inl (gA G 2, N1, .inr (.inr (.inr (.inr (va_up f i.toNatClampNeg (some (gN G + b)))))))))) : rW l G R μ Z k n pc ls (.ref (gN G + b) :: .int i :: .ref (gN G + a) :: st) h := by
  subst hq
  intro p e s m args below meth c H locs lsM hx hb hm hr hlk hnm hown hts hK hS hE hl
  have hlt : i.toNatClampNeg < N1 := Nat.not_le.mp fun q => hin (Or.inr q)
  have h0 : ¬ i < 0 := fun q => hin (Or.inl q)
  obtain ⟨r1, hr1, cellV, g1, g2, g3, -⟩ := hE.1 b _ (rws_get hv)
  have hcls := (hK.1.1 ci _ hci).2
  have hclE := (hK.1.1 8 _ rfl).2
  obtain ⟨kA, comp, k1, k2, k3, -⟩ := (hK.1.2 2 _ rfl).2
  have hcomp : comp = (gD G).1 8 := Option.some.inj (k3.symm.trans hclE.1)
  subst hcomp
  obtain ⟨kC, hkC, -⟩ := hcls.2
  obtain ⟨kE, hkE, -⟩ := hclE.2
  have hasg : s.vm.assignable ((gD G).1 ci) ((gD G).1 8) = true := by
    rcases hca with hca | hca
    · have e0 : s.vm.findClass C = some ((gD G).1 8) := by rw [hca]; exact hclE.1
      have e : (gD G).1 ci = (gD G).1 8 := Option.some.inj (hcls.1.symm.trans e0)
      rw [e]; exact va_assign hclE
    · exact vb_asgC (va_Nw.of rfl (hts _ hca)) _ _ hclE.1 hcls.1
  refine W.aast hx hb (hE.1 a _ (rws_get hc)) (fun q h => by cases h) (fun h => by cases h) k1 k2 rfl hkE ⟨h0, by show _ < (arrV _ _ _).slots.size; rw [arrV_size]; exact hlt⟩ g1 (fun q h => by rw [g3] at h; cases h) (by rw [g2]; exact hkC) (by rw [g2]; exact hasg) rfl rfl d fun H1 e1 z oq => ?_
  refine kk p e s m args below meth c H1 _ lsM hx hb hm hr hlk hnm hown hts hK (hS.put z oq (Nat.le_add_right _ _)) (rE_set hE hc ?_ z oq) hl
  show H1[gN G + a]? = some (vp_cell _ _)
  rw [e1]
  rw [vp_cell_q, vp_cell_q, arrV_store]
  congr 2
  funext q
  by_cases hq : q = i.toNatClampNeg
  · subst hq
    simp [updV, va_up, va_rf]
  · simp [updV, va_up, hq]
theorem a_newref_3 {i : Int32} (lk : Cond.classLink own idx RX7 ∈ rTbl) (w : Cond.arrayOver (.object RX7) ∈ rTbl) (ho : μ.1.cls = own) (q : Nat) (d : decode μ.2.1 pc = .ok (.anewarray idx, 3)) (hq : pc + 3 = q) (hi : ¬ i < 0) (hN : i.toNatClampNeg = N) (hb2 : N ≤ 100000) (hroom : k + 1 ≤ R.cells ∧ n + N ≤ R.slots) (kk : rW l G R μ Z (k + 1) (n + N) q ls (.ref (gN G + h.length) :: st) (h ++ [.inl (gA G 3, N, .inr (.inr (.inr (.inr (fun _ => none)))))])) : rW l G R μ Z k n pc ls (.int i :: st) h := by
  subst hq
  subst ho
  subst hN
  intro p e s m args below meth c H locs lsM hx hb hm hr hlk hnm hown hts hK hS hE hl
  refine W.anew hx hb hown (hts _ lk) (hts _ w) rfl d rfl hi (by omega) hroom.1 hroom.2 fun cA kA comp f1 f2 f3 f4 => ?_
  generalize hH1 : H.push ({ cls := cA, slots := Array.replicate i.toNatClampNeg .null, vm := .none } : Cell) = H1
  have z1 : H1.size = H.size + 1 := by rw [← hH1, Array.size_push]
  have e1 : H1[H.size]? = some (arrV cA i.toNatClampNeg (fun _ => .null)) := by rw [← hH1, Array.getElem?_push_size, ← arrV_new]
  have o1 : ∀ q : Nat, q < H.size → H1[q]? = H[q]? := fun q hq => by rw [← hH1, Array.getElem?_push, if_neg (Nat.ne_of_lt hq)]
  obtain ⟨kA2, comp2, g1, g2, g3, g4⟩ := (hK.1.2 3 _ rfl).2
  have hcA : cA = gA G 3 := Option.some.inj (f1.symm.trans g4)
  subst hcA
  have hz := hE.2
  rw [hz]
  exact kk p e s m args below meth c H1 locs lsM hx hb hm hr hlk hnm hown hts hK ⟨Nat.le_trans hS.1 (by omega), fun x h1 h2 => (o1 x (Nat.lt_of_lt_of_le h1 hS.1)).trans (hS.2.1 x h1 h2), hS.2.2⟩ (rE_push hE e1 z1 o1) hl
theorem a_aastore_3 {b : Nat} {f : Nat → Option Nat} {i : Int32} (hci : vwCl[ci]? = some (C, T, N)) {N1 : Nat} (hca : C = RX7 ∨ Cond.castable C RX7 ∈ rTbl) (q : Nat) (d : decode μ.2.1 pc = .ok (.aastore, 1)) (hq : pc + 1 = q) (hc : h[a]? = some (.inl (gA G 3, N1, .inr (.inr (.inr (.inr f)))))) (hv : h[b]? = some (.inr (ci, fs))) (hin : vp_in i N1) (kk : rW l G R μ Z k n q ls st (h.set a (.inl (gA G 3, N1, .inr (.inr (.inr (.inr (va_up f i.toNatClampNeg (some (gN G + b)))))))))) : rW l G R μ Z k n pc ls (.ref (gN G + b) :: .int i :: .ref (gN G + a) :: st) h := by
  subst hq
  intro p e s m args below meth c H locs lsM hx hb hm hr hlk hnm hown hts hK hS hE hl
  have hlt : i.toNatClampNeg < N1 := Nat.not_le.mp fun q => hin (Or.inr q)
  have h0 : ¬ i < 0 := fun q => hin (Or.inl q)
  obtain ⟨r1, hr1, cellV, g1, g2, g3, -⟩ := hE.1 b _ (rws_get hv)
  have hcls := (hK.1.1 ci _ hci).2
  have hclE := (hK.1.1 7 _ rfl).2
  obtain ⟨kA, comp, k1, k2, k3, -⟩ := (hK.1.2 3 _ rfl).2
  have hcomp : comp = (gD G).1 7 := Option.some.inj (k3.symm.trans hclE.1)
  subst hcomp
  obtain ⟨kC, hkC, -⟩ := hcls.2
  obtain ⟨kE, hkE, -⟩ := hclE.2
  have hasg : s.vm.assignable ((gD G).1 ci) ((gD G).1 7) = true := by
    rcases hca with hca | hca
    · have e0 : s.vm.findClass C = some ((gD G).1 7) := by rw [hca]; exact hclE.1
      have e : (gD G).1 ci = (gD G).1 7 := Option.some.inj (hcls.1.symm.trans e0)
      rw [e]; exact va_assign hclE
    · exact vb_asgC (va_Nw.of rfl (hts _ hca)) _ _ hclE.1 hcls.1
  refine W.aast hx hb (hE.1 a _ (rws_get hc)) (fun q h => by cases h) (fun h => by cases h) k1 k2 rfl hkE ⟨h0, by show _ < (arrV _ _ _).slots.size; rw [arrV_size]; exact hlt⟩ g1 (fun q h => by rw [g3] at h; cases h) (by rw [g2]; exact hkC) (by rw [g2]; exact hasg) rfl rfl d fun H1 e1 z oq => ?_
  refine kk p e s m args below meth c H1 _ lsM hx hb hm hr hlk hnm hown hts hK (hS.put z oq (Nat.le_add_right _ _)) (rE_set hE hc ?_ z oq) hl
  show H1[gN G + a]? = some (vp_cell _ _)
  rw [e1]
  rw [vp_cell_q, vp_cell_q, arrV_store]
  congr 2
  funext q
  by_cases hq : q = i.toNatClampNeg
  · subst hq
    simp [updV, va_up, va_rf]
  · simp [updV, va_up, hq]
theorem a_newref_4 {i : Int32} (lk : Cond.classLink own idx RX5 ∈ rTbl) (w : Cond.arrayOver (.object RX5) ∈ rTbl) (ho : μ.1.cls = own) (q : Nat) (d : decode μ.2.1 pc = .ok (.anewarray idx, 3)) (hq : pc + 3 = q) (hi : ¬ i < 0) (hN : i.toNatClampNeg = N) (hb2 : N ≤ 100000) (hroom : k + 1 ≤ R.cells ∧ n + N ≤ R.slots) (kk : rW l G R μ Z (k + 1) (n + N) q ls (.ref (gN G + h.length) :: st) (h ++ [.inl (gA G 4, N, .inr (.inr (.inr (.inr (fun _ => none)))))])) : rW l G R μ Z k n pc ls (.int i :: st) h := by
  subst hq
  subst ho
  subst hN
  intro p e s m args below meth c H locs lsM hx hb hm hr hlk hnm hown hts hK hS hE hl
  refine W.anew hx hb hown (hts _ lk) (hts _ w) rfl d rfl hi (by omega) hroom.1 hroom.2 fun cA kA comp f1 f2 f3 f4 => ?_
  generalize hH1 : H.push ({ cls := cA, slots := Array.replicate i.toNatClampNeg .null, vm := .none } : Cell) = H1
  have z1 : H1.size = H.size + 1 := by rw [← hH1, Array.size_push]
  have e1 : H1[H.size]? = some (arrV cA i.toNatClampNeg (fun _ => .null)) := by rw [← hH1, Array.getElem?_push_size, ← arrV_new]
  have o1 : ∀ q : Nat, q < H.size → H1[q]? = H[q]? := fun q hq => by rw [← hH1, Array.getElem?_push, if_neg (Nat.ne_of_lt hq)]
  obtain ⟨kA2, comp2, g1, g2, g3, g4⟩ := (hK.1.2 4 _ rfl).2
  have hcA : cA = gA G 4 := Option.some.inj (f1.symm.trans g4)
  subst hcA
  have hz := hE.2
  rw [hz]
  exact kk p e s m args below meth c H1 locs lsM hx hb hm hr hlk hnm hown hts hK ⟨Nat.le_trans hS.1 (by omega), fun x h1 h2 => (o1 x (Nat.lt_of_lt_of_le h1 hS.1)).trans (hS.2.1 x h1 h2), hS.2.2⟩ (rE_push hE e1 z1 o1) hl
theorem a_aastore_4 {b : Nat} {f : Nat → Option Nat} {i : Int32} (hci : vwCl[ci]? = some (C, T, N)) {N1 : Nat} (hca : C = RX5 ∨ Cond.castable C RX5 ∈ rTbl) (q : Nat) (d : decode μ.2.1 pc = .ok (.aastore, 1)) (hq : pc + 1 = q) (hc : h[a]? = some (.inl (gA G 4, N1, .inr (.inr (.inr (.inr f)))))) (hv : h[b]? = some (.inr (ci, fs))) (hin : vp_in i N1) (kk : rW l G R μ Z k n q ls st (h.set a (.inl (gA G 4, N1, .inr (.inr (.inr (.inr (va_up f i.toNatClampNeg (some (gN G + b)))))))))) : rW l G R μ Z k n pc ls (.ref (gN G + b) :: .int i :: .ref (gN G + a) :: st) h := by
  subst hq
  intro p e s m args below meth c H locs lsM hx hb hm hr hlk hnm hown hts hK hS hE hl
  have hlt : i.toNatClampNeg < N1 := Nat.not_le.mp fun q => hin (Or.inr q)
  have h0 : ¬ i < 0 := fun q => hin (Or.inl q)
  obtain ⟨r1, hr1, cellV, g1, g2, g3, -⟩ := hE.1 b _ (rws_get hv)
  have hcls := (hK.1.1 ci _ hci).2
  have hclE := (hK.1.1 5 _ rfl).2
  obtain ⟨kA, comp, k1, k2, k3, -⟩ := (hK.1.2 4 _ rfl).2
  have hcomp : comp = (gD G).1 5 := Option.some.inj (k3.symm.trans hclE.1)
  subst hcomp
  obtain ⟨kC, hkC, -⟩ := hcls.2
  obtain ⟨kE, hkE, -⟩ := hclE.2
  have hasg : s.vm.assignable ((gD G).1 ci) ((gD G).1 5) = true := by
    rcases hca with hca | hca
    · have e0 : s.vm.findClass C = some ((gD G).1 5) := by rw [hca]; exact hclE.1
      have e : (gD G).1 ci = (gD G).1 5 := Option.some.inj (hcls.1.symm.trans e0)
      rw [e]; exact va_assign hclE
    · exact vb_asgC (va_Nw.of rfl (hts _ hca)) _ _ hclE.1 hcls.1
  refine W.aast hx hb (hE.1 a _ (rws_get hc)) (fun q h => by cases h) (fun h => by cases h) k1 k2 rfl hkE ⟨h0, by show _ < (arrV _ _ _).slots.size; rw [arrV_size]; exact hlt⟩ g1 (fun q h => by rw [g3] at h; cases h) (by rw [g2]; exact hkC) (by rw [g2]; exact hasg) rfl rfl d fun H1 e1 z oq => ?_
  refine kk p e s m args below meth c H1 _ lsM hx hb hm hr hlk hnm hown hts hK (hS.put z oq (Nat.le_add_right _ _)) (rE_set hE hc ?_ z oq) hl
  show H1[gN G + a]? = some (vp_cell _ _)
  rw [e1]
  rw [vp_cell_q, vp_cell_q, arrV_store]
  congr 2
  funext q
  by_cases hq : q = i.toNatClampNeg
  · subst hq
    simp [updV, va_up, va_rf]
  · simp [updV, va_up, hq]
theorem a_mmax {x y : Int32} (lk : Cond.methodLink own idx Lib.Math.max.name ∈ rTbl) (ho : μ.1.cls = own) (q : Nat) (d : decode μ.2.1 pc = .ok (.invokestatic idx, 3)) (hq : pc + 3 = q) (hf : 1 ≤ R.frames) (hlo : (st.map fun v => v.category).sum + 13 ≤ R.locals) (hroom : k ≤ R.cells ∧ n ≤ R.slots) (kk : rW l G R μ Z k n q ls (.int (if x < y then y else x) :: st) h) : rW l G R μ Z k n pc ls (.int y :: .int x :: st) h := by
  subst hq
  subst ho
  intro p e s m args below meth c H locs lsM hx hb hm hr hlk hnm hown hts hK hS hE hl
  exact va_mmax hx hb (hm.trans hl.1.symm) hown (hts _ lk) (hts _ rMs_max) (hts _ rMi) (hts _ rMc_max) hf hlo hroom.1 hroom.2 d (kk p e s m args below meth c H locs lsM hx hb hm hr hlk hnm hown hts hK hS hE hl)
theorem a_mmin {x y : Int32} (lk : Cond.methodLink own idx Lib.Math.min.name ∈ rTbl) (ho : μ.1.cls = own) (q : Nat) (d : decode μ.2.1 pc = .ok (.invokestatic idx, 3)) (hq : pc + 3 = q) (hf : 1 ≤ R.frames) (hlo : (st.map fun v => v.category).sum + 13 ≤ R.locals) (hroom : k ≤ R.cells ∧ n ≤ R.slots) (kk : rW l G R μ Z k n q ls (.int (if y < x then y else x) :: st) h) : rW l G R μ Z k n pc ls (.int y :: .int x :: st) h := by
  subst hq
  subst ho
  intro p e s m args below meth c H locs lsM hx hb hm hr hlk hnm hown hts hK hS hE hl
  exact va_mmin hx hb (hm.trans hl.1.symm) hown (hts _ lk) (hts _ rMs_min) (hts _ rMi) (hts _ rMc_min) hf hlo hroom.1 hroom.2 d (kk p e s m args below meth c H locs lsM hx hb hm hr hlk hnm hown hts hK hS hE hl)
theorem a_mabs {x : Int32} (lk : Cond.methodLink own idx Lib.Math.abs.name ∈ rTbl) (ho : μ.1.cls = own) (q : Nat) (d : decode μ.2.1 pc = .ok (.invokestatic idx, 3)) (hq : pc + 3 = q) (hf : 1 ≤ R.frames) (hlo : (st.map fun v => v.category).sum + 13 ≤ R.locals) (hroom : k ≤ R.cells ∧ n ≤ R.slots) (kk : rW l G R μ Z k n q ls (.int (if 0 ≤ x then x else 0 - x) :: st) h) : rW l G R μ Z k n pc ls (.int x :: st) h := by
  subst hq
  subst ho
  intro p e s m args below meth c H locs lsM hx hb hm hr hlk hnm hown hts hK hS hE hl
  exact va_mabs hx hb (hm.trans hl.1.symm) hown (hts _ lk) (hts _ rMs_abs) (hts _ rMi) (hts _ rMc_abs) hf hlo hroom.1 hroom.2 d (kk p e s m args below meth c H locs lsM hx hb hm hr hlk hnm hown hts hK hS hE hl)
theorem a_gets_LEAST (lk : Cond.fieldLink own idx RX6 "LEAST" "[I" ∈ rTbl) (ho : μ.1.cls = own) (q : Nat) (d : decode μ.2.1 pc = .ok (.getstatic idx, 3)) (hq : pc + 3 = q) (kk : rW l G R μ Z k n q ls (.ref (gS G 1) :: st) h) : rW l G R μ Z k n pc ls st h := by
  subst hq
  subst ho
  intro p e s m args below meth c H locs lsM hx hb hm hr hlk hnm hown hts hK hS hE hl
  exact va_gets hx hb hK.2.2.2.2.2.1 hS hown (hts _ lk) (fun _ q => q) d (kk p e s m args below meth c H locs lsM hx hb hm hr hlk hnm hown hts hK hS hE hl)
theorem a_iaload_LEAST {i : Int32} (q : Nat) (d : decode μ.2.1 pc = .ok (.iaload, 1)) (hq : pc + 1 = q) (hin : vp_in i 7) (kk : rW l G R μ Z k n q ls (.int (rLeast i.toNatClampNeg) :: st) h) : rW l G R μ Z k n pc ls (.int i :: .ref (gS G 1) :: st) h := by
  subst hq
  intro p e s m args below meth c H locs lsM hx hb hm hr hlk hnm hown hts hK hS hE hl
  exact va_ti hx hb hK.2.2.2.2.2.2.1 hS hin rfl d (kk p e s m args below meth c H locs lsM hx hb hm hr hlk hnm hown hts hK hS hE hl)
theorem a_alen_LEAST (q : Nat) (d : decode μ.2.1 pc = .ok (.arraylength, 1)) (hq : pc + 1 = q) (kk : rW l G R μ Z k n q ls (.int 7 :: st) h) : rW l G R μ Z k n pc ls (.ref (gS G 1) :: st) h := by
  subst hq
  intro p e s m args below meth c H locs lsM hx hb hm hr hlk hnm hown hts hK hS hE hl
  exact va_tlen hx hb hK.2.2.2.2.2.2.1 hS rfl d (kk p e s m args below meth c H locs lsM hx hb hm hr hlk hnm hown hts hK hS hE hl)
theorem a_gets_UNTOLD (lk : Cond.fieldLink own idx RX6 "UNTOLD" "[I" ∈ rTbl) (ho : μ.1.cls = own) (q : Nat) (d : decode μ.2.1 pc = .ok (.getstatic idx, 3)) (hq : pc + 3 = q) (kk : rW l G R μ Z k n q ls (.ref (gS G 2) :: st) h) : rW l G R μ Z k n pc ls st h := by
  subst hq
  subst ho
  intro p e s m args below meth c H locs lsM hx hb hm hr hlk hnm hown hts hK hS hE hl
  exact va_gets hx hb hK.2.2.2.2.2.2.2.1 hS hown (hts _ lk) (fun _ q => q) d (kk p e s m args below meth c H locs lsM hx hb hm hr hlk hnm hown hts hK hS hE hl)
theorem a_iaload_UNTOLD {i : Int32} (q : Nat) (d : decode μ.2.1 pc = .ok (.iaload, 1)) (hq : pc + 1 = q) (hin : vp_in i 7) (kk : rW l G R μ Z k n q ls (.int (rUntold i.toNatClampNeg) :: st) h) : rW l G R μ Z k n pc ls (.int i :: .ref (gS G 2) :: st) h := by
  subst hq
  intro p e s m args below meth c H locs lsM hx hb hm hr hlk hnm hown hts hK hS hE hl
  exact va_ti hx hb hK.2.2.2.2.2.2.2.2 hS hin rfl d (kk p e s m args below meth c H locs lsM hx hb hm hr hlk hnm hown hts hK hS hE hl)
theorem a_alen_UNTOLD (q : Nat) (d : decode μ.2.1 pc = .ok (.arraylength, 1)) (hq : pc + 1 = q) (kk : rW l G R μ Z k n q ls (.int 7 :: st) h) : rW l G R μ Z k n pc ls (.ref (gS G 2) :: st) h := by
  subst hq
  intro p e s m args below meth c H locs lsM hx hb hm hr hlk hnm hown hts hK hS hE hl
  exact va_tlen hx hb hK.2.2.2.2.2.2.2.2 hS rfl d (kk p e s m args below meth c H locs lsM hx hb hm hr hlk hnm hown hts hK hS hE hl)
end CALLS
