/-! THE LAW from its start -/
section START
variable {l : Launch} {G : rG} {nm : String}
theorem k_all {s : State} {args : Array Value} (hT : ∀ w ∈ rTbl, w.before args s = true) : ∃ (dC : Nat → ClassId) (dI : Nat → Nat → Nat), ∀ (k : Nat) (q : vw_C), vwCl[k]? = some q → u_Kn s q.1 q.2.1 q.2.2 (dC k) (dI k) := by
  obtain ⟨c0, s0, K0⟩ := u_known (C := RX0) (T := TX0) (N := 10) (n := 10) hT inTX0 (hT _ ia_X0)
  obtain ⟨c1, s1, K1⟩ := u_known (C := RX1) (T := TX1) (N := 8) (n := 8) hT inTX1 (hT _ ia_X1)
  obtain ⟨c2, s2, K2⟩ := u_known (C := RX2) (T := TX2) (N := 6) (n := 6) hT inTX2 (hT _ ia_X2)
  obtain ⟨c3, s3, K3⟩ := u_known (C := RX3) (T := TX3) (N := 4) (n := 4) hT inTX3 (hT _ ia_X3)
  obtain ⟨c4, s4, K4⟩ := u_known (C := RX4) (T := TX4) (N := 4) (n := 4) hT inTX4 (hT _ ia_X4)
  obtain ⟨c5, s5, K5⟩ := u_known (C := RX5) (T := TX5) (N := 1) (n := 1) hT inTX5 (hT _ ia_X5)
  obtain ⟨c6, s6, K6⟩ := u_known (C := RX6) (T := TX6) (N := 5) (n := 5) hT inTX6 (hT _ ia_X6)
  obtain ⟨c7, s7, K7⟩ := u_known (C := RX7) (T := TX7) (N := 4) (n := 4) hT inTX7 (hT _ ia_X7)
  obtain ⟨c8, s8, K8⟩ := u_known (C := RX8) (T := TX8) (N := 4) (n := 4) hT inTX8 (hT _ ia_X8)
  obtain ⟨c9, s9, K9⟩ := u_known (C := RX10) (T := TX10) (N := 3) (n := 3) hT inTX10 (hT _ ia_X10)
  obtain ⟨c10, s10, K10⟩ := u_known (C := RX11) (T := TX11) (N := 17) (n := 17) hT inTX11 (hT _ ia_X11)
  obtain ⟨c11, s11, K11⟩ := u_known (C := RX12) (T := TX12) (N := 40) (n := 40) hT inTX12 (hT _ ia_X12)
  refine ⟨fun k => match k with | 0 => c0 | 1 => c1 | 2 => c2 | 3 => c3 | 4 => c4 | 5 => c5 | 6 => c6 | 7 => c7 | 8 => c8 | 9 => c9 | 10 => c10 | _ => c11, fun k => match k with | 0 => s0 | 1 => s1 | 2 => s2 | 3 => s3 | 4 => s4 | 5 => s5 | 6 => s6 | 7 => s7 | 8 => s8 | 9 => s9 | 10 => s10 | _ => s11, ?_⟩
  intro k q hq
  match k, hq with
  | 0, hq => cases hq; exact K0
  | 1, hq => cases hq; exact K1
  | 2, hq => cases hq; exact K2
  | 3, hq => cases hq; exact K3
  | 4, hq => cases hq; exact K4
  | 5, hq => cases hq; exact K5
  | 6, hq => cases hq; exact K6
  | 7, hq => cases hq; exact K7
  | 8, hq => cases hq; exact K8
  | 9, hq => cases hq; exact K9
  | 10, hq => cases hq; exact K10
  | 11, hq => cases hq; exact K11
  | k + 12, hq => simp [vwCl] at hq
theorem arr_int {s : State} {args : Array Value} (h : (Cond.arrayClass .int).before args s = true) : ∃ cA, ArrOfT s cA .int ∧ va_RA s cA .int := by
  obtain ⟨c, k, comp, h1, h2, h3⟩ := Cond.arrayClass_spec h
  exact ⟨c, fun n z => ⟨fun k h => (by cases h), k, h2, comp, h3⟩, h1⟩
theorem arr_bool {s : State} {args : Array Value} (h : (Cond.arrayClass .boolean).before args s = true) : ∃ cA, ArrOfT s cA .boolean ∧ va_RA s cA .boolean := by
  obtain ⟨c, k, comp, h1, h2, h3⟩ := Cond.arrayClass_spec h
  exact ⟨c, fun n z => ⟨fun k h => (by cases h), k, h2, comp, h3⟩, h1⟩
theorem arr_obj {s : State} {args : Array Value} {C : String} (h : (Cond.arrayOver (.object C)).before args s = true) : ∃ cA, ArrOfT s cA (.object C) ∧ va_RA s cA (.object C) := by
  obtain ⟨comp, c, k, h1, h2, h3, h4, h5⟩ := Cond.arrayOver_spec h
  exact ⟨c, fun n z => ⟨fun k h => (by cases h), k, h3, comp, h4⟩, k, comp, h3, h4, h1, h5⟩
theorem rBad_of {w : Cond} (h : rBadW w = true) {args : Array Value} {s : State} (hz : w.before args s = true) : va_Nw w s := by
  unfold rBadW at h
  split at h
  all_goals first | exact va_AO.of hz | exact va_Nw.of rfl hz | cases h
set_option maxRecDepth 100000 in
set_option maxHeartbeats 400000 in
theorem law_start (hL : gL G ≤ 3072) : rW l G room_1 (mLaw nm) (lZ G) 0 0 0 [some (.ref (gS G 0)), none, none, none] [] [] := by
  refine a_new (fs := [.null, .null, .null, .null, .null, .null, .null, .null, .null, .null, .null, .null, .null, .int 0, .int 0, .int 0, .int 0]) cl_X11 lc_L_7 ia_X11 ii_X11 rfl 3 dL_law_0 rfl (by decide) ⟨(Nat.le_of_ble_eq_true rfl), (Nat.le_of_ble_eq_true rfl)⟩ ?_
  refine rW_h (h' := [.inr (10, [.null, .null, .null, .null, .null, .null, .null, .null, .null, .null, .null, .null, .null, .int 0, .int 0, .int 0, .int 0])]) rfl ?_
  refine a_dup 4 dL_law_3 rfl rfl ?_
  refine a_callI ok_X11_init ln_L_9 is_X11_init rfl rfl rfl 7 dL_law_4 rfl (q_X11) rfl rfl ⟨(Nat.le_of_ble_eq_true rfl), (Nat.le_of_ble_eq_true rfl)⟩ (Nat.le_of_ble_eq_true rfl) ⟨(Nat.le_of_ble_eq_true rfl), (Nat.le_of_ble_eq_true rfl)⟩ ?_
  rintro _ _ ⟨rfl, rfl⟩
  refine a_astore_n 8 dL_law_7 rfl (Nat.le_of_ble_eq_true rfl) ?_
  refine a_new (fs := [.int 0, .int 0, .int 0, .int 0, .null, .null, .null, .int 0, .int 0, .int 0, .int 0, .int 0, .null, .null, .null, .int 0, .null, .null, .null, .null, .int 0, .null, .null, .int 0, .null, .null, .null, .int 0, .null, .null, .null, .int 0, .int 0, .long 0, .long 0, .null, .null, .null, .null, .int 0]) cl_X12 lc_L_10 ia_X12 ii_X12 rfl 11 dL_law_8 rfl (by decide) ⟨(Nat.le_of_ble_eq_true rfl), (Nat.le_of_ble_eq_true rfl)⟩ ?_
  refine a_dup 12 dL_law_11 rfl rfl ?_
  refine a_callI ok_X12_init ln_L_12 is_X12_init rfl rfl rfl 15 dL_law_12 rfl (q_X12) rfl rfl ⟨(Nat.le_of_ble_eq_true rfl), (Nat.le_of_ble_eq_true rfl)⟩ (Nat.le_of_ble_eq_true rfl) ⟨(Nat.le_of_ble_eq_true rfl), (Nat.le_of_ble_eq_true rfl)⟩ ?_
  rintro _ _ ⟨rfl, rfl⟩
  refine a_astore_n 16 dL_law_15 rfl (Nat.le_of_ble_eq_true rfl) ?_
  refine a_iconst (0) 17 dL_law_16 rfl (by decide) ?_
  refine a_istore_n 18 dL_law_17 rfl (Nat.le_of_ble_eq_true rfl) ?_
  exact law_loop hL 513 0 _ T0 _ (by omega) (by omega) rfl ⟨c0, m0, T0_ok, by rw [len61]; exact Nat.le_refl _⟩

set_option maxRecDepth 100000 in
set_option maxHeartbeats 400000 in
theorem whole_start {p : Program} {e : Env} {s : State} {m : MethodId} {below : List Frame} {meth : Method} {c : Code} (l : Launch) (hflags : l.flags = flags0) {b L : Nat} {xs : Nat → Int32} (hL : L ≤ 3072) (C0 : lw_At p s m meth c b L xs) : W p l e room_1 s m #[Value.ref b] below meth c s.heap [] 0 0 (lw_Z below #[Value.ref b] s) (entryFrame m ([Value.ref b] : List Value).toArray 4) := by
  obtain ⟨hx, hb, hr, hml, hown, hts, hX, hbl, hlocks, hgv⟩ := id C0
  have hw := flat_of_before _ hgv
  have hA : ∀ a : Nat, a < s.heap.size → ¬ s.heap.size ≤ a := fun a h => Nat.not_le.mpr h
  have hT : ∀ w ∈ rTbl, w.before #[Value.ref b] s = true := fun w hw => hts w (List.mem_filter.mp hw).1
  obtain ⟨dC, dI, hKc⟩ := k_all hT
  obtain ⟨a0, hA0⟩ := arr_int (hT _ wa_int)
  obtain ⟨a1, hA1⟩ := arr_bool (hT _ wa_bool)
  obtain ⟨a2, hA2⟩ := arr_obj (hT _ wo_X8)
  obtain ⟨a3, hA3⟩ := arr_obj (hT _ wo_X7)
  obtain ⟨a4, hA4⟩ := arr_obj (hT _ wo_X5)
  have hlen1 : (Term.length (.static RX6 "LEAST" "[I")).eval #[Value.ref b] s none [] s = some (.int (Int32.ofNat 7)) := va_eqt (hw (.eq (.length (.static RX6 "LEAST" "[I")) (.int (Int32.ofNat 7))) (by decide +kernel))
  have el1_0 := va_eqt (hw (.eq (.elem (.static RX6 "LEAST" "[I") (.int (Int32.ofNat 0))) (.int (rLeast 0))) (by decide +kernel))
  have el1_1 := va_eqt (hw (.eq (.elem (.static RX6 "LEAST" "[I") (.int (Int32.ofNat 1))) (.int (rLeast 1))) (by decide +kernel))
  have el1_2 := va_eqt (hw (.eq (.elem (.static RX6 "LEAST" "[I") (.int (Int32.ofNat 2))) (.int (rLeast 2))) (by decide +kernel))
  have el1_3 := va_eqt (hw (.eq (.elem (.static RX6 "LEAST" "[I") (.int (Int32.ofNat 3))) (.int (rLeast 3))) (by decide +kernel))
  have el1_4 := va_eqt (hw (.eq (.elem (.static RX6 "LEAST" "[I") (.int (Int32.ofNat 4))) (.int (rLeast 4))) (by decide +kernel))
  have el1_5 := va_eqt (hw (.eq (.elem (.static RX6 "LEAST" "[I") (.int (Int32.ofNat 5))) (.int (rLeast 5))) (by decide +kernel))
  have el1_6 := va_eqt (hw (.eq (.elem (.static RX6 "LEAST" "[I") (.int (Int32.ofNat 6))) (.int (rLeast 6))) (by decide +kernel))
  obtain ⟨t1, e1, hT1⟩ := va_Tof (tm := .static RX6 "LEAST" "[I") (ty := .int) (N := 7) (f := fun j => .int (rLeast j)) (A := fun q => s.heap.size ≤ q) (by decide) (hw (.arrayOf (.static RX6 "LEAST" "[I") .int) (by decide +kernel)) hlen1 (fun j hj => by rcases (show j = 0 ∨ j = 1 ∨ j = 2 ∨ j = 3 ∨ j = 4 ∨ j = 5 ∨ j = 6 by omega) with e | e | e | e | e | e | e <;> subst e <;> assumption) hA
  have hZ1 := va_Zref (A := fun q => s.heap.size ≤ q) (hts (.laysStatic RX6 "LEAST" "[I") (by decide +kernel)) (hT _ ii_X6) e1 hA
  have hlen2 : (Term.length (.static RX6 "UNTOLD" "[I")).eval #[Value.ref b] s none [] s = some (.int (Int32.ofNat 7)) := va_eqt (hw (.eq (.length (.static RX6 "UNTOLD" "[I")) (.int (Int32.ofNat 7))) (by decide +kernel))
  have el2_0 := va_eqt (hw (.eq (.elem (.static RX6 "UNTOLD" "[I") (.int (Int32.ofNat 0))) (.int (rUntold 0))) (by decide +kernel))
  have el2_1 := va_eqt (hw (.eq (.elem (.static RX6 "UNTOLD" "[I") (.int (Int32.ofNat 1))) (.int (rUntold 1))) (by decide +kernel))
  have el2_2 := va_eqt (hw (.eq (.elem (.static RX6 "UNTOLD" "[I") (.int (Int32.ofNat 2))) (.int (rUntold 2))) (by decide +kernel))
  have el2_3 := va_eqt (hw (.eq (.elem (.static RX6 "UNTOLD" "[I") (.int (Int32.ofNat 3))) (.int (rUntold 3))) (by decide +kernel))
  have el2_4 := va_eqt (hw (.eq (.elem (.static RX6 "UNTOLD" "[I") (.int (Int32.ofNat 4))) (.int (rUntold 4))) (by decide +kernel))
  have el2_5 := va_eqt (hw (.eq (.elem (.static RX6 "UNTOLD" "[I") (.int (Int32.ofNat 5))) (.int (rUntold 5))) (by decide +kernel))
  have el2_6 := va_eqt (hw (.eq (.elem (.static RX6 "UNTOLD" "[I") (.int (Int32.ofNat 6))) (.int (rUntold 6))) (by decide +kernel))
  obtain ⟨t2, e2, hT2⟩ := va_Tof (tm := .static RX6 "UNTOLD" "[I") (ty := .int) (N := 7) (f := fun j => .int (rUntold j)) (A := fun q => s.heap.size ≤ q) (by decide) (hw (.arrayOf (.static RX6 "UNTOLD" "[I") .int) (by decide +kernel)) hlen2 (fun j hj => by rcases (show j = 0 ∨ j = 1 ∨ j = 2 ∨ j = 3 ∨ j = 4 ∨ j = 5 ∨ j = 6 by omega) with e | e | e | e | e | e | e <;> subst e <;> assumption) hA
  have hZ2 := va_Zref (A := fun q => s.heap.size ≤ q) (hts (.laysStatic RX6 "UNTOLD" "[I") (by decide +kernel)) (hT _ ii_X6) e2 hA
  have hK : rK ((s.heap.size, (dC, dI), (fun k => match k with | 0 => a0 | 1 => a1 | 2 => a2 | 3 => a3 | _ => a4), (fun k => match k with | 0 => b | 1 => t1 | _ => t2), L, xs) : rG) s := by
    refine ⟨⟨hKc, fun k q hq => ?_⟩, fun w hw hbad => rBad_of hbad (hts w hw), Nat.le_refl _, hX, hbl, hZ1, hT1, hZ2, hT2⟩
    match k, hq with
    | 0, hq => cases hq; exact hA0
    | 1, hq => cases hq; exact hA1
    | 2, hq => cases hq; exact hA2
    | 3, hq => cases hq; exact hA3
    | 4, hq => cases hq; exact hA4
    | k + 5, hq => simp [rT] at hq
  have hE : rE ((s.heap.size, (dC, dI), (fun k => match k with | 0 => a0 | 1 => a1 | 2 => a2 | 3 => a3 | _ => a4), (fun k => match k with | 0 => b | 1 => t1 | _ => t2), L, xs) : rG) [] s.heap := ⟨fun k q h => by simp [rws] at h, rfl⟩
  have kk := law_start (l := l) (G := ((s.heap.size, (dC, dI), (fun k => match k with | 0 => a0 | 1 => a1 | 2 => a2 | 3 => a3 | _ => a4), (fun k => match k with | 0 => b | 1 => t1 | _ => t2), L, xs) : rG)) (nm := meth.name) hL
  rw [lg_entry_eq]
  have w := kk p e s m #[Value.ref b] below meth c s.heap [] _ hx hb hml hr hlocks rfl hown hT hK va_S.rf hE (rl_entry [.ref b] (n := 4) (Nat.le_of_ble_eq_true rfl))
  intro U hU X
  obtain ⟨t, y1, y2⟩ := w U hU X
  exact ⟨t, y1, y2 (Nat.le_refl _)⟩
end START
