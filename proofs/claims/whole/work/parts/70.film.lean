/-! THE CLASS: film -/
theorem film_eq {a : Int64} (e : a = lost64) : some (Value.long (-9223372036854775808)) = some (.long a) := by rw [e]; rfl
section CFILM2
variable {l : Launch} {G : rG} {h : rH} {T : Tn}
set_option maxRecDepth 100000 in
set_option maxHeartbeats 400000 in
theorem c_film2 (q : cAll G h T) (o : T.ok) (c d i j w : Int32) : rM l G 12 mX11_film 0 0 [.ref (gN G + 0), .int c, .int d, .int i, .int j, .int w] h (fun h' v => v = some (.long (aFilm T c d i j w)) ∧ cAll G h' T ∧ kp h h' cL) := by
  have hnl := o.nl6
  have hm := o.m12
  have hy := q.1.1
  rcases oT_cases (n := T.nl) (by omega) c with ⟨e1, hc⟩ | ⟨z, hc, rfl, e1⟩
  · skip
    rcases oT_cases (n := T.nl) (by omega) d with ⟨e2, hd⟩ | ⟨u, hd, rfl, e2⟩
    · skip
      rcases oT_cases (n := T.m) (by omega) i with ⟨e3, hi⟩ | ⟨y, hi, rfl, e3⟩
      · skip
        rcases oT_cases (n := T.m) (by omega) j with ⟨e4, hj⟩ | ⟨x, hj, rfl, e4⟩
        · skip
          refine rM_start (by decide) (Nat.le_of_ble_eq_true rfl) ?_
          refine a_aload_n 1 dX11_film_0 rfl rfl ?_
          refine a_iload_n 2 dX11_film_1 rfl rfl ?_
          refine a_callV ok_X11_lawAt ln_X11_180 in_X11_lawAt rfl 5 dX11_film_2 rfl (c_lawN q.1 hc) (by repeat (first | assumption | (refine rg_ne (by first | decide | omega) ?_) | apply rg_eq | refine rg_fr (by assumption) (by first | decide | (simp; omega)) ?_)) rfl rfl rfl ⟨(Nat.le_of_ble_eq_true rfl), (Nat.le_of_ble_eq_true rfl)⟩ (Nat.le_of_ble_eq_true rfl) ⟨(Nat.le_of_ble_eq_true rfl), (Nat.le_of_ble_eq_true rfl)⟩ ?_
          rintro _ _ ⟨rfl, rfl⟩
          refine a_astoreN 7 dX11_film_5 rfl (by decide) ?_
          refine a_aload_n 8 dX11_film_7 rfl rfl ?_
          refine a_iload_n 9 dX11_film_8 rfl rfl ?_
          refine a_callV ok_X11_lawAt ln_X11_180 in_X11_lawAt rfl 12 dX11_film_9 rfl (c_lawN q.1 hd) (by repeat (first | assumption | (refine rg_ne (by first | decide | omega) ?_) | apply rg_eq | refine rg_fr (by assumption) (by first | decide | (simp; omega)) ?_)) rfl rfl rfl ⟨(Nat.le_of_ble_eq_true rfl), (Nat.le_of_ble_eq_true rfl)⟩ (Nat.le_of_ble_eq_true rfl) ⟨(Nat.le_of_ble_eq_true rfl), (Nat.le_of_ble_eq_true rfl)⟩ ?_
          rintro _ _ ⟨rfl, rfl⟩
          refine a_astoreN 14 dX11_film_12 rfl (by decide) ?_
          refine a_aload_n 15 dX11_film_14 rfl rfl ?_
          refine a_iload_n 16 dX11_film_15 rfl rfl ?_
          refine a_callV ok_X11_personAt ln_X11_152 in_X11_personAt rfl 19 dX11_film_16 rfl (c_personN q.1 hi) (by repeat (first | assumption | (refine rg_ne (by first | decide | omega) ?_) | apply rg_eq | refine rg_fr (by assumption) (by first | decide | (simp; omega)) ?_)) rfl rfl rfl ⟨(Nat.le_of_ble_eq_true rfl), (Nat.le_of_ble_eq_true rfl)⟩ (Nat.le_of_ble_eq_true rfl) ⟨(Nat.le_of_ble_eq_true rfl), (Nat.le_of_ble_eq_true rfl)⟩ ?_
          rintro _ _ ⟨rfl, rfl⟩
          refine a_astoreN 21 dX11_film_19 rfl (by decide) ?_
          refine a_aload_n 22 dX11_film_21 rfl rfl ?_
          refine a_iload 24 dX11_film_22 rfl rfl ?_
          refine a_callV ok_X11_personAt ln_X11_152 in_X11_personAt rfl 27 dX11_film_24 rfl (c_personN q.1 hj) (by repeat (first | assumption | (refine rg_ne (by first | decide | omega) ?_) | apply rg_eq | refine rg_fr (by assumption) (by first | decide | (simp; omega)) ?_)) rfl rfl rfl ⟨(Nat.le_of_ble_eq_true rfl), (Nat.le_of_ble_eq_true rfl)⟩ (Nat.le_of_ble_eq_true rfl) ⟨(Nat.le_of_ble_eq_true rfl), (Nat.le_of_ble_eq_true rfl)⟩ ?_
          rintro _ _ ⟨rfl, rfl⟩
          refine a_astoreN 29 dX11_film_27 rfl (by decide) ?_
          refine a_aloadN 31 dX11_film_29 rfl rfl ?_
          refine a_ifnullN 49 dX11_film_31 (by decide) ?_
          refine a_ldc2 (-9223372036854775808) 52 dX11_film_49 rfl lk_X11_224 ?_
          exact a_lreturn dX11_film_52 rfl (Nat.le_of_ble_eq_true rfl) (Nat.le_of_ble_eq_true rfl) ⟨film_eq (film_no (Or.inl e1)), q, fun _ _ _ => rfl⟩
        · skip
          refine rM_start (by decide) (Nat.le_of_ble_eq_true rfl) ?_
          refine a_aload_n 1 dX11_film_0 rfl rfl ?_
          refine a_iload_n 2 dX11_film_1 rfl rfl ?_
          refine a_callV ok_X11_lawAt ln_X11_180 in_X11_lawAt rfl 5 dX11_film_2 rfl (c_lawN q.1 hc) (by repeat (first | assumption | (refine rg_ne (by first | decide | omega) ?_) | apply rg_eq | refine rg_fr (by assumption) (by first | decide | (simp; omega)) ?_)) rfl rfl rfl ⟨(Nat.le_of_ble_eq_true rfl), (Nat.le_of_ble_eq_true rfl)⟩ (Nat.le_of_ble_eq_true rfl) ⟨(Nat.le_of_ble_eq_true rfl), (Nat.le_of_ble_eq_true rfl)⟩ ?_
          rintro _ _ ⟨rfl, rfl⟩
          refine a_astoreN 7 dX11_film_5 rfl (by decide) ?_
          refine a_aload_n 8 dX11_film_7 rfl rfl ?_
          refine a_iload_n 9 dX11_film_8 rfl rfl ?_
          refine a_callV ok_X11_lawAt ln_X11_180 in_X11_lawAt rfl 12 dX11_film_9 rfl (c_lawN q.1 hd) (by repeat (first | assumption | (refine rg_ne (by first | decide | omega) ?_) | apply rg_eq | refine rg_fr (by assumption) (by first | decide | (simp; omega)) ?_)) rfl rfl rfl ⟨(Nat.le_of_ble_eq_true rfl), (Nat.le_of_ble_eq_true rfl)⟩ (Nat.le_of_ble_eq_true rfl) ⟨(Nat.le_of_ble_eq_true rfl), (Nat.le_of_ble_eq_true rfl)⟩ ?_
          rintro _ _ ⟨rfl, rfl⟩
          refine a_astoreN 14 dX11_film_12 rfl (by decide) ?_
          refine a_aload_n 15 dX11_film_14 rfl rfl ?_
          refine a_iload_n 16 dX11_film_15 rfl rfl ?_
          refine a_callV ok_X11_personAt ln_X11_152 in_X11_personAt rfl 19 dX11_film_16 rfl (c_personN q.1 hi) (by repeat (first | assumption | (refine rg_ne (by first | decide | omega) ?_) | apply rg_eq | refine rg_fr (by assumption) (by first | decide | (simp; omega)) ?_)) rfl rfl rfl ⟨(Nat.le_of_ble_eq_true rfl), (Nat.le_of_ble_eq_true rfl)⟩ (Nat.le_of_ble_eq_true rfl) ⟨(Nat.le_of_ble_eq_true rfl), (Nat.le_of_ble_eq_true rfl)⟩ ?_
          rintro _ _ ⟨rfl, rfl⟩
          refine a_astoreN 21 dX11_film_19 rfl (by decide) ?_
          refine a_aload_n 22 dX11_film_21 rfl rfl ?_
          refine a_iload 24 dX11_film_22 rfl rfl ?_
          refine a_callV ok_X11_personAt ln_X11_152 in_X11_personAt rfl 27 dX11_film_24 rfl (c_person q.1 o hj) (by repeat (first | assumption | (refine rg_ne (by first | decide | omega) ?_) | apply rg_eq | refine rg_fr (by assumption) (by first | decide | (simp; omega)) ?_)) rfl rfl rfl ⟨(Nat.le_of_ble_eq_true rfl), (Nat.le_of_ble_eq_true rfl)⟩ (Nat.le_of_ble_eq_true rfl) ⟨(Nat.le_of_ble_eq_true rfl), (Nat.le_of_ble_eq_true rfl)⟩ ?_
          rintro _ _ ⟨rfl, rfl⟩
          refine a_astore 29 dX11_film_27 rfl (by decide) ?_
          refine a_aloadN 31 dX11_film_29 rfl rfl ?_
          refine a_ifnullN 49 dX11_film_31 (by decide) ?_
          refine a_ldc2 (-9223372036854775808) 52 dX11_film_49 rfl lk_X11_224 ?_
          exact a_lreturn dX11_film_52 rfl (Nat.le_of_ble_eq_true rfl) (Nat.le_of_ble_eq_true rfl) ⟨film_eq (film_no (Or.inl e1)), q, fun _ _ _ => rfl⟩
      · skip
        rcases oT_cases (n := T.m) (by omega) j with ⟨e4, hj⟩ | ⟨x, hj, rfl, e4⟩
        · skip
          refine rM_start (by decide) (Nat.le_of_ble_eq_true rfl) ?_
          refine a_aload_n 1 dX11_film_0 rfl rfl ?_
          refine a_iload_n 2 dX11_film_1 rfl rfl ?_
          refine a_callV ok_X11_lawAt ln_X11_180 in_X11_lawAt rfl 5 dX11_film_2 rfl (c_lawN q.1 hc) (by repeat (first | assumption | (refine rg_ne (by first | decide | omega) ?_) | apply rg_eq | refine rg_fr (by assumption) (by first | decide | (simp; omega)) ?_)) rfl rfl rfl ⟨(Nat.le_of_ble_eq_true rfl), (Nat.le_of_ble_eq_true rfl)⟩ (Nat.le_of_ble_eq_true rfl) ⟨(Nat.le_of_ble_eq_true rfl), (Nat.le_of_ble_eq_true rfl)⟩ ?_
          rintro _ _ ⟨rfl, rfl⟩
          refine a_astoreN 7 dX11_film_5 rfl (by decide) ?_
          refine a_aload_n 8 dX11_film_7 rfl rfl ?_
          refine a_iload_n 9 dX11_film_8 rfl rfl ?_
          refine a_callV ok_X11_lawAt ln_X11_180 in_X11_lawAt rfl 12 dX11_film_9 rfl (c_lawN q.1 hd) (by repeat (first | assumption | (refine rg_ne (by first | decide | omega) ?_) | apply rg_eq | refine rg_fr (by assumption) (by first | decide | (simp; omega)) ?_)) rfl rfl rfl ⟨(Nat.le_of_ble_eq_true rfl), (Nat.le_of_ble_eq_true rfl)⟩ (Nat.le_of_ble_eq_true rfl) ⟨(Nat.le_of_ble_eq_true rfl), (Nat.le_of_ble_eq_true rfl)⟩ ?_
          rintro _ _ ⟨rfl, rfl⟩
          refine a_astoreN 14 dX11_film_12 rfl (by decide) ?_
          refine a_aload_n 15 dX11_film_14 rfl rfl ?_
          refine a_iload_n 16 dX11_film_15 rfl rfl ?_
          refine a_callV ok_X11_personAt ln_X11_152 in_X11_personAt rfl 19 dX11_film_16 rfl (c_person q.1 o hi) (by repeat (first | assumption | (refine rg_ne (by first | decide | omega) ?_) | apply rg_eq | refine rg_fr (by assumption) (by first | decide | (simp; omega)) ?_)) rfl rfl rfl ⟨(Nat.le_of_ble_eq_true rfl), (Nat.le_of_ble_eq_true rfl)⟩ (Nat.le_of_ble_eq_true rfl) ⟨(Nat.le_of_ble_eq_true rfl), (Nat.le_of_ble_eq_true rfl)⟩ ?_
          rintro _ _ ⟨rfl, rfl⟩
          refine a_astore 21 dX11_film_19 rfl (by decide) ?_
          refine a_aload_n 22 dX11_film_21 rfl rfl ?_
          refine a_iload 24 dX11_film_22 rfl rfl ?_
          refine a_callV ok_X11_personAt ln_X11_152 in_X11_personAt rfl 27 dX11_film_24 rfl (c_personN q.1 hj) (by repeat (first | assumption | (refine rg_ne (by first | decide | omega) ?_) | apply rg_eq | refine rg_fr (by assumption) (by first | decide | (simp; omega)) ?_)) rfl rfl rfl ⟨(Nat.le_of_ble_eq_true rfl), (Nat.le_of_ble_eq_true rfl)⟩ (Nat.le_of_ble_eq_true rfl) ⟨(Nat.le_of_ble_eq_true rfl), (Nat.le_of_ble_eq_true rfl)⟩ ?_
          rintro _ _ ⟨rfl, rfl⟩
          refine a_astoreN 29 dX11_film_27 rfl (by decide) ?_
          refine a_aloadN 31 dX11_film_29 rfl rfl ?_
          refine a_ifnullN 49 dX11_film_31 (by decide) ?_
          refine a_ldc2 (-9223372036854775808) 52 dX11_film_49 rfl lk_X11_224 ?_
          exact a_lreturn dX11_film_52 rfl (Nat.le_of_ble_eq_true rfl) (Nat.le_of_ble_eq_true rfl) ⟨film_eq (film_no (Or.inl e1)), q, fun _ _ _ => rfl⟩
        · skip
          refine rM_start (by decide) (Nat.le_of_ble_eq_true rfl) ?_
          refine a_aload_n 1 dX11_film_0 rfl rfl ?_
          refine a_iload_n 2 dX11_film_1 rfl rfl ?_
          refine a_callV ok_X11_lawAt ln_X11_180 in_X11_lawAt rfl 5 dX11_film_2 rfl (c_lawN q.1 hc) (by repeat (first | assumption | (refine rg_ne (by first | decide | omega) ?_) | apply rg_eq | refine rg_fr (by assumption) (by first | decide | (simp; omega)) ?_)) rfl rfl rfl ⟨(Nat.le_of_ble_eq_true rfl), (Nat.le_of_ble_eq_true rfl)⟩ (Nat.le_of_ble_eq_true rfl) ⟨(Nat.le_of_ble_eq_true rfl), (Nat.le_of_ble_eq_true rfl)⟩ ?_
          rintro _ _ ⟨rfl, rfl⟩
          refine a_astoreN 7 dX11_film_5 rfl (by decide) ?_
          refine a_aload_n 8 dX11_film_7 rfl rfl ?_
          refine a_iload_n 9 dX11_film_8 rfl rfl ?_
          refine a_callV ok_X11_lawAt ln_X11_180 in_X11_lawAt rfl 12 dX11_film_9 rfl (c_lawN q.1 hd) (by repeat (first | assumption | (refine rg_ne (by first | decide | omega) ?_) | apply rg_eq | refine rg_fr (by assumption) (by first | decide | (simp; omega)) ?_)) rfl rfl rfl ⟨(Nat.le_of_ble_eq_true rfl), (Nat.le_of_ble_eq_true rfl)⟩ (Nat.le_of_ble_eq_true rfl) ⟨(Nat.le_of_ble_eq_true rfl), (Nat.le_of_ble_eq_true rfl)⟩ ?_
          rintro _ _ ⟨rfl, rfl⟩
          refine a_astoreN 14 dX11_film_12 rfl (by decide) ?_
          refine a_aload_n 15 dX11_film_14 rfl rfl ?_
          refine a_iload_n 16 dX11_film_15 rfl rfl ?_
          refine a_callV ok_X11_personAt ln_X11_152 in_X11_personAt rfl 19 dX11_film_16 rfl (c_person q.1 o hi) (by repeat (first | assumption | (refine rg_ne (by first | decide | omega) ?_) | apply rg_eq | refine rg_fr (by assumption) (by first | decide | (simp; omega)) ?_)) rfl rfl rfl ⟨(Nat.le_of_ble_eq_true rfl), (Nat.le_of_ble_eq_true rfl)⟩ (Nat.le_of_ble_eq_true rfl) ⟨(Nat.le_of_ble_eq_true rfl), (Nat.le_of_ble_eq_true rfl)⟩ ?_
          rintro _ _ ⟨rfl, rfl⟩
          refine a_astore 21 dX11_film_19 rfl (by decide) ?_
          refine a_aload_n 22 dX11_film_21 rfl rfl ?_
          refine a_iload 24 dX11_film_22 rfl rfl ?_
          refine a_callV ok_X11_personAt ln_X11_152 in_X11_personAt rfl 27 dX11_film_24 rfl (c_person q.1 o hj) (by repeat (first | assumption | (refine rg_ne (by first | decide | omega) ?_) | apply rg_eq | refine rg_fr (by assumption) (by first | decide | (simp; omega)) ?_)) rfl rfl rfl ⟨(Nat.le_of_ble_eq_true rfl), (Nat.le_of_ble_eq_true rfl)⟩ (Nat.le_of_ble_eq_true rfl) ⟨(Nat.le_of_ble_eq_true rfl), (Nat.le_of_ble_eq_true rfl)⟩ ?_
          rintro _ _ ⟨rfl, rfl⟩
          refine a_astore 29 dX11_film_27 rfl (by decide) ?_
          refine a_aloadN 31 dX11_film_29 rfl rfl ?_
          refine a_ifnullN 49 dX11_film_31 (by decide) ?_
          refine a_ldc2 (-9223372036854775808) 52 dX11_film_49 rfl lk_X11_224 ?_
          exact a_lreturn dX11_film_52 rfl (Nat.le_of_ble_eq_true rfl) (Nat.le_of_ble_eq_true rfl) ⟨film_eq (film_no (Or.inl e1)), q, fun _ _ _ => rfl⟩
    · skip
      rcases oT_cases (n := T.m) (by omega) i with ⟨e3, hi⟩ | ⟨y, hi, rfl, e3⟩
      · skip
        rcases oT_cases (n := T.m) (by omega) j with ⟨e4, hj⟩ | ⟨x, hj, rfl, e4⟩
        · skip
          refine rM_start (by decide) (Nat.le_of_ble_eq_true rfl) ?_
          refine a_aload_n 1 dX11_film_0 rfl rfl ?_
          refine a_iload_n 2 dX11_film_1 rfl rfl ?_
          refine a_callV ok_X11_lawAt ln_X11_180 in_X11_lawAt rfl 5 dX11_film_2 rfl (c_lawN q.1 hc) (by repeat (first | assumption | (refine rg_ne (by first | decide | omega) ?_) | apply rg_eq | refine rg_fr (by assumption) (by first | decide | (simp; omega)) ?_)) rfl rfl rfl ⟨(Nat.le_of_ble_eq_true rfl), (Nat.le_of_ble_eq_true rfl)⟩ (Nat.le_of_ble_eq_true rfl) ⟨(Nat.le_of_ble_eq_true rfl), (Nat.le_of_ble_eq_true rfl)⟩ ?_
          rintro _ _ ⟨rfl, rfl⟩
          refine a_astoreN 7 dX11_film_5 rfl (by decide) ?_
          refine a_aload_n 8 dX11_film_7 rfl rfl ?_
          refine a_iload_n 9 dX11_film_8 rfl rfl ?_
          refine a_callV ok_X11_lawAt ln_X11_180 in_X11_lawAt rfl 12 dX11_film_9 rfl (c_law q.1 o hd) (by repeat (first | assumption | (refine rg_ne (by first | decide | omega) ?_) | apply rg_eq | refine rg_fr (by assumption) (by first | decide | (simp; omega)) ?_)) rfl rfl rfl ⟨(Nat.le_of_ble_eq_true rfl), (Nat.le_of_ble_eq_true rfl)⟩ (Nat.le_of_ble_eq_true rfl) ⟨(Nat.le_of_ble_eq_true rfl), (Nat.le_of_ble_eq_true rfl)⟩ ?_
          rintro _ _ ⟨rfl, rfl⟩
          refine a_astore 14 dX11_film_12 rfl (by decide) ?_
          refine a_aload_n 15 dX11_film_14 rfl rfl ?_
          refine a_iload_n 16 dX11_film_15 rfl rfl ?_
          refine a_callV ok_X11_personAt ln_X11_152 in_X11_personAt rfl 19 dX11_film_16 rfl (c_personN q.1 hi) (by repeat (first | assumption | (refine rg_ne (by first | decide | omega) ?_) | apply rg_eq | refine rg_fr (by assumption) (by first | decide | (simp; omega)) ?_)) rfl rfl rfl ⟨(Nat.le_of_ble_eq_true rfl), (Nat.le_of_ble_eq_true rfl)⟩ (Nat.le_of_ble_eq_true rfl) ⟨(Nat.le_of_ble_eq_true rfl), (Nat.le_of_ble_eq_true rfl)⟩ ?_
          rintro _ _ ⟨rfl, rfl⟩
          refine a_astoreN 21 dX11_film_19 rfl (by decide) ?_
          refine a_aload_n 22 dX11_film_21 rfl rfl ?_
          refine a_iload 24 dX11_film_22 rfl rfl ?_
          refine a_callV ok_X11_personAt ln_X11_152 in_X11_personAt rfl 27 dX11_film_24 rfl (c_personN q.1 hj) (by repeat (first | assumption | (refine rg_ne (by first | decide | omega) ?_) | apply rg_eq | refine rg_fr (by assumption) (by first | decide | (simp; omega)) ?_)) rfl rfl rfl ⟨(Nat.le_of_ble_eq_true rfl), (Nat.le_of_ble_eq_true rfl)⟩ (Nat.le_of_ble_eq_true rfl) ⟨(Nat.le_of_ble_eq_true rfl), (Nat.le_of_ble_eq_true rfl)⟩ ?_
          rintro _ _ ⟨rfl, rfl⟩
          refine a_astoreN 29 dX11_film_27 rfl (by decide) ?_
          refine a_aloadN 31 dX11_film_29 rfl rfl ?_
          refine a_ifnullN 49 dX11_film_31 (by decide) ?_
          refine a_ldc2 (-9223372036854775808) 52 dX11_film_49 rfl lk_X11_224 ?_
          exact a_lreturn dX11_film_52 rfl (Nat.le_of_ble_eq_true rfl) (Nat.le_of_ble_eq_true rfl) ⟨film_eq (film_no (Or.inl e1)), q, fun _ _ _ => rfl⟩
        · skip
          refine rM_start (by decide) (Nat.le_of_ble_eq_true rfl) ?_
          refine a_aload_n 1 dX11_film_0 rfl rfl ?_
          refine a_iload_n 2 dX11_film_1 rfl rfl ?_
          refine a_callV ok_X11_lawAt ln_X11_180 in_X11_lawAt rfl 5 dX11_film_2 rfl (c_lawN q.1 hc) (by repeat (first | assumption | (refine rg_ne (by first | decide | omega) ?_) | apply rg_eq | refine rg_fr (by assumption) (by first | decide | (simp; omega)) ?_)) rfl rfl rfl ⟨(Nat.le_of_ble_eq_true rfl), (Nat.le_of_ble_eq_true rfl)⟩ (Nat.le_of_ble_eq_true rfl) ⟨(Nat.le_of_ble_eq_true rfl), (Nat.le_of_ble_eq_true rfl)⟩ ?_
          rintro _ _ ⟨rfl, rfl⟩
          refine a_astoreN 7 dX11_film_5 rfl (by decide) ?_
          refine a_aload_n 8 dX11_film_7 rfl rfl ?_
          refine a_iload_n 9 dX11_film_8 rfl rfl ?_
          refine a_callV ok_X11_lawAt ln_X11_180 in_X11_lawAt rfl 12 dX11_film_9 rfl (c_law q.1 o hd) (by repeat (first | assumption | (refine rg_ne (by first | decide | omega) ?_) | apply rg_eq | refine rg_fr (by assumption) (by first | decide | (simp; omega)) ?_)) rfl rfl rfl ⟨(Nat.le_of_ble_eq_true rfl), (Nat.le_of_ble_eq_true rfl)⟩ (Nat.le_of_ble_eq_true rfl) ⟨(Nat.le_of_ble_eq_true rfl), (Nat.le_of_ble_eq_true rfl)⟩ ?_
          rintro _ _ ⟨rfl, rfl⟩
          refine a_astore 14 dX11_film_12 rfl (by decide) ?_
          refine a_aload_n 15 dX11_film_14 rfl rfl ?_
          refine a_iload_n 16 dX11_film_15 rfl rfl ?_
          refine a_callV ok_X11_personAt ln_X11_152 in_X11_personAt rfl 19 dX11_film_16 rfl (c_personN q.1 hi) (by repeat (first | assumption | (refine rg_ne (by first | decide | omega) ?_) | apply rg_eq | refine rg_fr (by assumption) (by first | decide | (simp; omega)) ?_)) rfl rfl rfl ⟨(Nat.le_of_ble_eq_true rfl), (Nat.le_of_ble_eq_true rfl)⟩ (Nat.le_of_ble_eq_true rfl) ⟨(Nat.le_of_ble_eq_true rfl), (Nat.le_of_ble_eq_true rfl)⟩ ?_
          rintro _ _ ⟨rfl, rfl⟩
          refine a_astoreN 21 dX11_film_19 rfl (by decide) ?_
          refine a_aload_n 22 dX11_film_21 rfl rfl ?_
          refine a_iload 24 dX11_film_22 rfl rfl ?_
          refine a_callV ok_X11_personAt ln_X11_152 in_X11_personAt rfl 27 dX11_film_24 rfl (c_person q.1 o hj) (by repeat (first | assumption | (refine rg_ne (by first | decide | omega) ?_) | apply rg_eq | refine rg_fr (by assumption) (by first | decide | (simp; omega)) ?_)) rfl rfl rfl ⟨(Nat.le_of_ble_eq_true rfl), (Nat.le_of_ble_eq_true rfl)⟩ (Nat.le_of_ble_eq_true rfl) ⟨(Nat.le_of_ble_eq_true rfl), (Nat.le_of_ble_eq_true rfl)⟩ ?_
          rintro _ _ ⟨rfl, rfl⟩
          refine a_astore 29 dX11_film_27 rfl (by decide) ?_
          refine a_aloadN 31 dX11_film_29 rfl rfl ?_
          refine a_ifnullN 49 dX11_film_31 (by decide) ?_
          refine a_ldc2 (-9223372036854775808) 52 dX11_film_49 rfl lk_X11_224 ?_
          exact a_lreturn dX11_film_52 rfl (Nat.le_of_ble_eq_true rfl) (Nat.le_of_ble_eq_true rfl) ⟨film_eq (film_no (Or.inl e1)), q, fun _ _ _ => rfl⟩
      · skip
        rcases oT_cases (n := T.m) (by omega) j with ⟨e4, hj⟩ | ⟨x, hj, rfl, e4⟩
        · skip
          refine rM_start (by decide) (Nat.le_of_ble_eq_true rfl) ?_
          refine a_aload_n 1 dX11_film_0 rfl rfl ?_
          refine a_iload_n 2 dX11_film_1 rfl rfl ?_
          refine a_callV ok_X11_lawAt ln_X11_180 in_X11_lawAt rfl 5 dX11_film_2 rfl (c_lawN q.1 hc) (by repeat (first | assumption | (refine rg_ne (by first | decide | omega) ?_) | apply rg_eq | refine rg_fr (by assumption) (by first | decide | (simp; omega)) ?_)) rfl rfl rfl ⟨(Nat.le_of_ble_eq_true rfl), (Nat.le_of_ble_eq_true rfl)⟩ (Nat.le_of_ble_eq_true rfl) ⟨(Nat.le_of_ble_eq_true rfl), (Nat.le_of_ble_eq_true rfl)⟩ ?_
          rintro _ _ ⟨rfl, rfl⟩
          refine a_astoreN 7 dX11_film_5 rfl (by decide) ?_
          refine a_aload_n 8 dX11_film_7 rfl rfl ?_
          refine a_iload_n 9 dX11_film_8 rfl rfl ?_
          refine a_callV ok_X11_lawAt ln_X11_180 in_X11_lawAt rfl 12 dX11_film_9 rfl (c_law q.1 o hd) (by repeat (first | assumption | (refine rg_ne (by first | decide | omega) ?_) | apply rg_eq | refine rg_fr (by assumption) (by first | decide | (simp; omega)) ?_)) rfl rfl rfl ⟨(Nat.le_of_ble_eq_true rfl), (Nat.le_of_ble_eq_true rfl)⟩ (Nat.le_of_ble_eq_true rfl) ⟨(Nat.le_of_ble_eq_true rfl), (Nat.le_of_ble_eq_true rfl)⟩ ?_
          rintro _ _ ⟨rfl, rfl⟩
          refine a_astore 14 dX11_film_12 rfl (by decide) ?_
          refine a_aload_n 15 dX11_film_14 rfl rfl ?_
          refine a_iload_n 16 dX11_film_15 rfl rfl ?_
          refine a_callV ok_X11_personAt ln_X11_152 in_X11_personAt rfl 19 dX11_film_16 rfl (c_person q.1 o hi) (by repeat (first | assumption | (refine rg_ne (by first | decide | omega) ?_) | apply rg_eq | refine rg_fr (by assumption) (by first | decide | (simp; omega)) ?_)) rfl rfl rfl ⟨(Nat.le_of_ble_eq_true rfl), (Nat.le_of_ble_eq_true rfl)⟩ (Nat.le_of_ble_eq_true rfl) ⟨(Nat.le_of_ble_eq_true rfl), (Nat.le_of_ble_eq_true rfl)⟩ ?_
          rintro _ _ ⟨rfl, rfl⟩
          refine a_astore 21 dX11_film_19 rfl (by decide) ?_
          refine a_aload_n 22 dX11_film_21 rfl rfl ?_
          refine a_iload 24 dX11_film_22 rfl rfl ?_
          refine a_callV ok_X11_personAt ln_X11_152 in_X11_personAt rfl 27 dX11_film_24 rfl (c_personN q.1 hj) (by repeat (first | assumption | (refine rg_ne (by first | decide | omega) ?_) | apply rg_eq | refine rg_fr (by assumption) (by first | decide | (simp; omega)) ?_)) rfl rfl rfl ⟨(Nat.le_of_ble_eq_true rfl), (Nat.le_of_ble_eq_true rfl)⟩ (Nat.le_of_ble_eq_true rfl) ⟨(Nat.le_of_ble_eq_true rfl), (Nat.le_of_ble_eq_true rfl)⟩ ?_
          rintro _ _ ⟨rfl, rfl⟩
          refine a_astoreN 29 dX11_film_27 rfl (by decide) ?_
          refine a_aloadN 31 dX11_film_29 rfl rfl ?_
          refine a_ifnullN 49 dX11_film_31 (by decide) ?_
          refine a_ldc2 (-9223372036854775808) 52 dX11_film_49 rfl lk_X11_224 ?_
          exact a_lreturn dX11_film_52 rfl (Nat.le_of_ble_eq_true rfl) (Nat.le_of_ble_eq_true rfl) ⟨film_eq (film_no (Or.inl e1)), q, fun _ _ _ => rfl⟩
        · skip
          refine rM_start (by decide) (Nat.le_of_ble_eq_true rfl) ?_
          refine a_aload_n 1 dX11_film_0 rfl rfl ?_
          refine a_iload_n 2 dX11_film_1 rfl rfl ?_
          refine a_callV ok_X11_lawAt ln_X11_180 in_X11_lawAt rfl 5 dX11_film_2 rfl (c_lawN q.1 hc) (by repeat (first | assumption | (refine rg_ne (by first | decide | omega) ?_) | apply rg_eq | refine rg_fr (by assumption) (by first | decide | (simp; omega)) ?_)) rfl rfl rfl ⟨(Nat.le_of_ble_eq_true rfl), (Nat.le_of_ble_eq_true rfl)⟩ (Nat.le_of_ble_eq_true rfl) ⟨(Nat.le_of_ble_eq_true rfl), (Nat.le_of_ble_eq_true rfl)⟩ ?_
          rintro _ _ ⟨rfl, rfl⟩
          refine a_astoreN 7 dX11_film_5 rfl (by decide) ?_
          refine a_aload_n 8 dX11_film_7 rfl rfl ?_
          refine a_iload_n 9 dX11_film_8 rfl rfl ?_
          refine a_callV ok_X11_lawAt ln_X11_180 in_X11_lawAt rfl 12 dX11_film_9 rfl (c_law q.1 o hd) (by repeat (first | assumption | (refine rg_ne (by first | decide | omega) ?_) | apply rg_eq | refine rg_fr (by assumption) (by first | decide | (simp; omega)) ?_)) rfl rfl rfl ⟨(Nat.le_of_ble_eq_true rfl), (Nat.le_of_ble_eq_true rfl)⟩ (Nat.le_of_ble_eq_true rfl) ⟨(Nat.le_of_ble_eq_true rfl), (Nat.le_of_ble_eq_true rfl)⟩ ?_
          rintro _ _ ⟨rfl, rfl⟩
          refine a_astore 14 dX11_film_12 rfl (by decide) ?_
          refine a_aload_n 15 dX11_film_14 rfl rfl ?_
          refine a_iload_n 16 dX11_film_15 rfl rfl ?_
          refine a_callV ok_X11_personAt ln_X11_152 in_X11_personAt rfl 19 dX11_film_16 rfl (c_person q.1 o hi) (by repeat (first | assumption | (refine rg_ne (by first | decide | omega) ?_) | apply rg_eq | refine rg_fr (by assumption) (by first | decide | (simp; omega)) ?_)) rfl rfl rfl ⟨(Nat.le_of_ble_eq_true rfl), (Nat.le_of_ble_eq_true rfl)⟩ (Nat.le_of_ble_eq_true rfl) ⟨(Nat.le_of_ble_eq_true rfl), (Nat.le_of_ble_eq_true rfl)⟩ ?_
          rintro _ _ ⟨rfl, rfl⟩
          refine a_astore 21 dX11_film_19 rfl (by decide) ?_
          refine a_aload_n 22 dX11_film_21 rfl rfl ?_
          refine a_iload 24 dX11_film_22 rfl rfl ?_
          refine a_callV ok_X11_personAt ln_X11_152 in_X11_personAt rfl 27 dX11_film_24 rfl (c_person q.1 o hj) (by repeat (first | assumption | (refine rg_ne (by first | decide | omega) ?_) | apply rg_eq | refine rg_fr (by assumption) (by first | decide | (simp; omega)) ?_)) rfl rfl rfl ⟨(Nat.le_of_ble_eq_true rfl), (Nat.le_of_ble_eq_true rfl)⟩ (Nat.le_of_ble_eq_true rfl) ⟨(Nat.le_of_ble_eq_true rfl), (Nat.le_of_ble_eq_true rfl)⟩ ?_
          rintro _ _ ⟨rfl, rfl⟩
          refine a_astore 29 dX11_film_27 rfl (by decide) ?_
          refine a_aloadN 31 dX11_film_29 rfl rfl ?_
          refine a_ifnullN 49 dX11_film_31 (by decide) ?_
          refine a_ldc2 (-9223372036854775808) 52 dX11_film_49 rfl lk_X11_224 ?_
          exact a_lreturn dX11_film_52 rfl (Nat.le_of_ble_eq_true rfl) (Nat.le_of_ble_eq_true rfl) ⟨film_eq (film_no (Or.inl e1)), q, fun _ _ _ => rfl⟩
  · skip
    rcases oT_cases (n := T.nl) (by omega) d with ⟨e2, hd⟩ | ⟨u, hd, rfl, e2⟩
    · skip
      rcases oT_cases (n := T.m) (by omega) i with ⟨e3, hi⟩ | ⟨y, hi, rfl, e3⟩
      · skip
        rcases oT_cases (n := T.m) (by omega) j with ⟨e4, hj⟩ | ⟨x, hj, rfl, e4⟩
        · skip
          refine rM_start (by decide) (Nat.le_of_ble_eq_true rfl) ?_
          refine a_aload_n 1 dX11_film_0 rfl rfl ?_
          refine a_iload_n 2 dX11_film_1 rfl rfl ?_
          refine a_callV ok_X11_lawAt ln_X11_180 in_X11_lawAt rfl 5 dX11_film_2 rfl (c_law q.1 o hc) (by repeat (first | assumption | (refine rg_ne (by first | decide | omega) ?_) | apply rg_eq | refine rg_fr (by assumption) (by first | decide | (simp; omega)) ?_)) rfl rfl rfl ⟨(Nat.le_of_ble_eq_true rfl), (Nat.le_of_ble_eq_true rfl)⟩ (Nat.le_of_ble_eq_true rfl) ⟨(Nat.le_of_ble_eq_true rfl), (Nat.le_of_ble_eq_true rfl)⟩ ?_
          rintro _ _ ⟨rfl, rfl⟩
          refine a_astore 7 dX11_film_5 rfl (by decide) ?_
          refine a_aload_n 8 dX11_film_7 rfl rfl ?_
          refine a_iload_n 9 dX11_film_8 rfl rfl ?_
          refine a_callV ok_X11_lawAt ln_X11_180 in_X11_lawAt rfl 12 dX11_film_9 rfl (c_lawN q.1 hd) (by repeat (first | assumption | (refine rg_ne (by first | decide | omega) ?_) | apply rg_eq | refine rg_fr (by assumption) (by first | decide | (simp; omega)) ?_)) rfl rfl rfl ⟨(Nat.le_of_ble_eq_true rfl), (Nat.le_of_ble_eq_true rfl)⟩ (Nat.le_of_ble_eq_true rfl) ⟨(Nat.le_of_ble_eq_true rfl), (Nat.le_of_ble_eq_true rfl)⟩ ?_
          rintro _ _ ⟨rfl, rfl⟩
          refine a_astoreN 14 dX11_film_12 rfl (by decide) ?_
          refine a_aload_n 15 dX11_film_14 rfl rfl ?_
          refine a_iload_n 16 dX11_film_15 rfl rfl ?_
          refine a_callV ok_X11_personAt ln_X11_152 in_X11_personAt rfl 19 dX11_film_16 rfl (c_personN q.1 hi) (by repeat (first | assumption | (refine rg_ne (by first | decide | omega) ?_) | apply rg_eq | refine rg_fr (by assumption) (by first | decide | (simp; omega)) ?_)) rfl rfl rfl ⟨(Nat.le_of_ble_eq_true rfl), (Nat.le_of_ble_eq_true rfl)⟩ (Nat.le_of_ble_eq_true rfl) ⟨(Nat.le_of_ble_eq_true rfl), (Nat.le_of_ble_eq_true rfl)⟩ ?_
          rintro _ _ ⟨rfl, rfl⟩
          refine a_astoreN 21 dX11_film_19 rfl (by decide) ?_
          refine a_aload_n 22 dX11_film_21 rfl rfl ?_
          refine a_iload 24 dX11_film_22 rfl rfl ?_
          refine a_callV ok_X11_personAt ln_X11_152 in_X11_personAt rfl 27 dX11_film_24 rfl (c_personN q.1 hj) (by repeat (first | assumption | (refine rg_ne (by first | decide | omega) ?_) | apply rg_eq | refine rg_fr (by assumption) (by first | decide | (simp; omega)) ?_)) rfl rfl rfl ⟨(Nat.le_of_ble_eq_true rfl), (Nat.le_of_ble_eq_true rfl)⟩ (Nat.le_of_ble_eq_true rfl) ⟨(Nat.le_of_ble_eq_true rfl), (Nat.le_of_ble_eq_true rfl)⟩ ?_
          rintro _ _ ⟨rfl, rfl⟩
          refine a_astoreN 29 dX11_film_27 rfl (by decide) ?_
          refine a_aload 31 dX11_film_29 rfl rfl ?_
          refine a_ifnull 34 dX11_film_31 rfl ?_
          refine a_aloadN 36 dX11_film_34 rfl rfl ?_
          refine a_ifnullN 49 dX11_film_36 (by decide) ?_
          refine a_ldc2 (-9223372036854775808) 52 dX11_film_49 rfl lk_X11_224 ?_
          exact a_lreturn dX11_film_52 rfl (Nat.le_of_ble_eq_true rfl) (Nat.le_of_ble_eq_true rfl) ⟨film_eq (film_no (Or.inr (Or.inl e2))), q, fun _ _ _ => rfl⟩
        · skip
          refine rM_start (by decide) (Nat.le_of_ble_eq_true rfl) ?_
          refine a_aload_n 1 dX11_film_0 rfl rfl ?_
          refine a_iload_n 2 dX11_film_1 rfl rfl ?_
          refine a_callV ok_X11_lawAt ln_X11_180 in_X11_lawAt rfl 5 dX11_film_2 rfl (c_law q.1 o hc) (by repeat (first | assumption | (refine rg_ne (by first | decide | omega) ?_) | apply rg_eq | refine rg_fr (by assumption) (by first | decide | (simp; omega)) ?_)) rfl rfl rfl ⟨(Nat.le_of_ble_eq_true rfl), (Nat.le_of_ble_eq_true rfl)⟩ (Nat.le_of_ble_eq_true rfl) ⟨(Nat.le_of_ble_eq_true rfl), (Nat.le_of_ble_eq_true rfl)⟩ ?_
          rintro _ _ ⟨rfl, rfl⟩
          refine a_astore 7 dX11_film_5 rfl (by decide) ?_
          refine a_aload_n 8 dX11_film_7 rfl rfl ?_
          refine a_iload_n 9 dX11_film_8 rfl rfl ?_
          refine a_callV ok_X11_lawAt ln_X11_180 in_X11_lawAt rfl 12 dX11_film_9 rfl (c_lawN q.1 hd) (by repeat (first | assumption | (refine rg_ne (by first | decide | omega) ?_) | apply rg_eq | refine rg_fr (by assumption) (by first | decide | (simp; omega)) ?_)) rfl rfl rfl ⟨(Nat.le_of_ble_eq_true rfl), (Nat.le_of_ble_eq_true rfl)⟩ (Nat.le_of_ble_eq_true rfl) ⟨(Nat.le_of_ble_eq_true rfl), (Nat.le_of_ble_eq_true rfl)⟩ ?_
          rintro _ _ ⟨rfl, rfl⟩
          refine a_astoreN 14 dX11_film_12 rfl (by decide) ?_
          refine a_aload_n 15 dX11_film_14 rfl rfl ?_
          refine a_iload_n 16 dX11_film_15 rfl rfl ?_
          refine a_callV ok_X11_personAt ln_X11_152 in_X11_personAt rfl 19 dX11_film_16 rfl (c_personN q.1 hi) (by repeat (first | assumption | (refine rg_ne (by first | decide | omega) ?_) | apply rg_eq | refine rg_fr (by assumption) (by first | decide | (simp; omega)) ?_)) rfl rfl rfl ⟨(Nat.le_of_ble_eq_true rfl), (Nat.le_of_ble_eq_true rfl)⟩ (Nat.le_of_ble_eq_true rfl) ⟨(Nat.le_of_ble_eq_true rfl), (Nat.le_of_ble_eq_true rfl)⟩ ?_
          rintro _ _ ⟨rfl, rfl⟩
          refine a_astoreN 21 dX11_film_19 rfl (by decide) ?_
          refine a_aload_n 22 dX11_film_21 rfl rfl ?_
          refine a_iload 24 dX11_film_22 rfl rfl ?_
          refine a_callV ok_X11_personAt ln_X11_152 in_X11_personAt rfl 27 dX11_film_24 rfl (c_person q.1 o hj) (by repeat (first | assumption | (refine rg_ne (by first | decide | omega) ?_) | apply rg_eq | refine rg_fr (by assumption) (by first | decide | (simp; omega)) ?_)) rfl rfl rfl ⟨(Nat.le_of_ble_eq_true rfl), (Nat.le_of_ble_eq_true rfl)⟩ (Nat.le_of_ble_eq_true rfl) ⟨(Nat.le_of_ble_eq_true rfl), (Nat.le_of_ble_eq_true rfl)⟩ ?_
          rintro _ _ ⟨rfl, rfl⟩
          refine a_astore 29 dX11_film_27 rfl (by decide) ?_
          refine a_aload 31 dX11_film_29 rfl rfl ?_
          refine a_ifnull 34 dX11_film_31 rfl ?_
          refine a_aloadN 36 dX11_film_34 rfl rfl ?_
          refine a_ifnullN 49 dX11_film_36 (by decide) ?_
          refine a_ldc2 (-9223372036854775808) 52 dX11_film_49 rfl lk_X11_224 ?_
          exact a_lreturn dX11_film_52 rfl (Nat.le_of_ble_eq_true rfl) (Nat.le_of_ble_eq_true rfl) ⟨film_eq (film_no (Or.inr (Or.inl e2))), q, fun _ _ _ => rfl⟩
      · skip
        rcases oT_cases (n := T.m) (by omega) j with ⟨e4, hj⟩ | ⟨x, hj, rfl, e4⟩
        · skip
          refine rM_start (by decide) (Nat.le_of_ble_eq_true rfl) ?_
          refine a_aload_n 1 dX11_film_0 rfl rfl ?_
          refine a_iload_n 2 dX11_film_1 rfl rfl ?_
          refine a_callV ok_X11_lawAt ln_X11_180 in_X11_lawAt rfl 5 dX11_film_2 rfl (c_law q.1 o hc) (by repeat (first | assumption | (refine rg_ne (by first | decide | omega) ?_) | apply rg_eq | refine rg_fr (by assumption) (by first | decide | (simp; omega)) ?_)) rfl rfl rfl ⟨(Nat.le_of_ble_eq_true rfl), (Nat.le_of_ble_eq_true rfl)⟩ (Nat.le_of_ble_eq_true rfl) ⟨(Nat.le_of_ble_eq_true rfl), (Nat.le_of_ble_eq_true rfl)⟩ ?_
          rintro _ _ ⟨rfl, rfl⟩
          refine a_astore 7 dX11_film_5 rfl (by decide) ?_
          refine a_aload_n 8 dX11_film_7 rfl rfl ?_
          refine a_iload_n 9 dX11_film_8 rfl rfl ?_
          refine a_callV ok_X11_lawAt ln_X11_180 in_X11_lawAt rfl 12 dX11_film_9 rfl (c_lawN q.1 hd) (by repeat (first | assumption | (refine rg_ne (by first | decide | omega) ?_) | apply rg_eq | refine rg_fr (by assumption) (by first | decide | (simp; omega)) ?_)) rfl rfl rfl ⟨(Nat.le_of_ble_eq_true rfl), (Nat.le_of_ble_eq_true rfl)⟩ (Nat.le_of_ble_eq_true rfl) ⟨(Nat.le_of_ble_eq_true rfl), (Nat.le_of_ble_eq_true rfl)⟩ ?_
          rintro _ _ ⟨rfl, rfl⟩
          refine a_astoreN 14 dX11_film_12 rfl (by decide) ?_
          refine a_aload_n 15 dX11_film_14 rfl rfl ?_
          refine a_iload_n 16 dX11_film_15 rfl rfl ?_
          refine a_callV ok_X11_personAt ln_X11_152 in_X11_personAt rfl 19 dX11_film_16 rfl (c_person q.1 o hi) (by repeat (first | assumption | (refine rg_ne (by first | decide | omega) ?_) | apply rg_eq | refine rg_fr (by assumption) (by first | decide | (simp; omega)) ?_)) rfl rfl rfl ⟨(Nat.le_of_ble_eq_true rfl), (Nat.le_of_ble_eq_true rfl)⟩ (Nat.le_of_ble_eq_true rfl) ⟨(Nat.le_of_ble_eq_true rfl), (Nat.le_of_ble_eq_true rfl)⟩ ?_
          rintro _ _ ⟨rfl, rfl⟩
          refine a_astore 21 dX11_film_19 rfl (by decide) ?_
          refine a_aload_n 22 dX11_film_21 rfl rfl ?_
          refine a_iload 24 dX11_film_22 rfl rfl ?_
          refine a_callV ok_X11_personAt ln_X11_152 in_X11_personAt rfl 27 dX11_film_24 rfl (c_personN q.1 hj) (by repeat (first | assumption | (refine rg_ne (by first | decide | omega) ?_) | apply rg_eq | refine rg_fr (by assumption) (by first | decide | (simp; omega)) ?_)) rfl rfl rfl ⟨(Nat.le_of_ble_eq_true rfl), (Nat.le_of_ble_eq_true rfl)⟩ (Nat.le_of_ble_eq_true rfl) ⟨(Nat.le_of_ble_eq_true rfl), (Nat.le_of_ble_eq_true rfl)⟩ ?_
          rintro _ _ ⟨rfl, rfl⟩
          refine a_astoreN 29 dX11_film_27 rfl (by decide) ?_
          refine a_aload 31 dX11_film_29 rfl rfl ?_
          refine a_ifnull 34 dX11_film_31 rfl ?_
          refine a_aloadN 36 dX11_film_34 rfl rfl ?_
          refine a_ifnullN 49 dX11_film_36 (by decide) ?_
          refine a_ldc2 (-9223372036854775808) 52 dX11_film_49 rfl lk_X11_224 ?_
          exact a_lreturn dX11_film_52 rfl (Nat.le_of_ble_eq_true rfl) (Nat.le_of_ble_eq_true rfl) ⟨film_eq (film_no (Or.inr (Or.inl e2))), q, fun _ _ _ => rfl⟩
        · skip
          refine rM_start (by decide) (Nat.le_of_ble_eq_true rfl) ?_
          refine a_aload_n 1 dX11_film_0 rfl rfl ?_
          refine a_iload_n 2 dX11_film_1 rfl rfl ?_
          refine a_callV ok_X11_lawAt ln_X11_180 in_X11_lawAt rfl 5 dX11_film_2 rfl (c_law q.1 o hc) (by repeat (first | assumption | (refine rg_ne (by first | decide | omega) ?_) | apply rg_eq | refine rg_fr (by assumption) (by first | decide | (simp; omega)) ?_)) rfl rfl rfl ⟨(Nat.le_of_ble_eq_true rfl), (Nat.le_of_ble_eq_true rfl)⟩ (Nat.le_of_ble_eq_true rfl) ⟨(Nat.le_of_ble_eq_true rfl), (Nat.le_of_ble_eq_true rfl)⟩ ?_
          rintro _ _ ⟨rfl, rfl⟩
          refine a_astore 7 dX11_film_5 rfl (by decide) ?_
          refine a_aload_n 8 dX11_film_7 rfl rfl ?_
          refine a_iload_n 9 dX11_film_8 rfl rfl ?_
          refine a_callV ok_X11_lawAt ln_X11_180 in_X11_lawAt rfl 12 dX11_film_9 rfl (c_lawN q.1 hd) (by repeat (first | assumption | (refine rg_ne (by first | decide | omega) ?_) | apply rg_eq | refine rg_fr (by assumption) (by first | decide | (simp; omega)) ?_)) rfl rfl rfl ⟨(Nat.le_of_ble_eq_true rfl), (Nat.le_of_ble_eq_true rfl)⟩ (Nat.le_of_ble_eq_true rfl) ⟨(Nat.le_of_ble_eq_true rfl), (Nat.le_of_ble_eq_true rfl)⟩ ?_
          rintro _ _ ⟨rfl, rfl⟩
          refine a_astoreN 14 dX11_film_12 rfl (by decide) ?_
          refine a_aload_n 15 dX11_film_14 rfl rfl ?_
          refine a_iload_n 16 dX11_film_15 rfl rfl ?_
          refine a_callV ok_X11_personAt ln_X11_152 in_X11_personAt rfl 19 dX11_film_16 rfl (c_person q.1 o hi) (by repeat (first | assumption | (refine rg_ne (by first | decide | omega) ?_) | apply rg_eq | refine rg_fr (by assumption) (by first | decide | (simp; omega)) ?_)) rfl rfl rfl ⟨(Nat.le_of_ble_eq_true rfl), (Nat.le_of_ble_eq_true rfl)⟩ (Nat.le_of_ble_eq_true rfl) ⟨(Nat.le_of_ble_eq_true rfl), (Nat.le_of_ble_eq_true rfl)⟩ ?_
          rintro _ _ ⟨rfl, rfl⟩
          refine a_astore 21 dX11_film_19 rfl (by decide) ?_
          refine a_aload_n 22 dX11_film_21 rfl rfl ?_
          refine a_iload 24 dX11_film_22 rfl rfl ?_
          refine a_callV ok_X11_personAt ln_X11_152 in_X11_personAt rfl 27 dX11_film_24 rfl (c_person q.1 o hj) (by repeat (first | assumption | (refine rg_ne (by first | decide | omega) ?_) | apply rg_eq | refine rg_fr (by assumption) (by first | decide | (simp; omega)) ?_)) rfl rfl rfl ⟨(Nat.le_of_ble_eq_true rfl), (Nat.le_of_ble_eq_true rfl)⟩ (Nat.le_of_ble_eq_true rfl) ⟨(Nat.le_of_ble_eq_true rfl), (Nat.le_of_ble_eq_true rfl)⟩ ?_
          rintro _ _ ⟨rfl, rfl⟩
          refine a_astore 29 dX11_film_27 rfl (by decide) ?_
          refine a_aload 31 dX11_film_29 rfl rfl ?_
          refine a_ifnull 34 dX11_film_31 rfl ?_
          refine a_aloadN 36 dX11_film_34 rfl rfl ?_
          refine a_ifnullN 49 dX11_film_36 (by decide) ?_
          refine a_ldc2 (-9223372036854775808) 52 dX11_film_49 rfl lk_X11_224 ?_
          exact a_lreturn dX11_film_52 rfl (Nat.le_of_ble_eq_true rfl) (Nat.le_of_ble_eq_true rfl) ⟨film_eq (film_no (Or.inr (Or.inl e2))), q, fun _ _ _ => rfl⟩
    · skip
      rcases oT_cases (n := T.m) (by omega) i with ⟨e3, hi⟩ | ⟨y, hi, rfl, e3⟩
      · skip
        rcases oT_cases (n := T.m) (by omega) j with ⟨e4, hj⟩ | ⟨x, hj, rfl, e4⟩
        · skip
          refine rM_start (by decide) (Nat.le_of_ble_eq_true rfl) ?_
          refine a_aload_n 1 dX11_film_0 rfl rfl ?_
          refine a_iload_n 2 dX11_film_1 rfl rfl ?_
          refine a_callV ok_X11_lawAt ln_X11_180 in_X11_lawAt rfl 5 dX11_film_2 rfl (c_law q.1 o hc) (by repeat (first | assumption | (refine rg_ne (by first | decide | omega) ?_) | apply rg_eq | refine rg_fr (by assumption) (by first | decide | (simp; omega)) ?_)) rfl rfl rfl ⟨(Nat.le_of_ble_eq_true rfl), (Nat.le_of_ble_eq_true rfl)⟩ (Nat.le_of_ble_eq_true rfl) ⟨(Nat.le_of_ble_eq_true rfl), (Nat.le_of_ble_eq_true rfl)⟩ ?_
          rintro _ _ ⟨rfl, rfl⟩
          refine a_astore 7 dX11_film_5 rfl (by decide) ?_
          refine a_aload_n 8 dX11_film_7 rfl rfl ?_
          refine a_iload_n 9 dX11_film_8 rfl rfl ?_
          refine a_callV ok_X11_lawAt ln_X11_180 in_X11_lawAt rfl 12 dX11_film_9 rfl (c_law q.1 o hd) (by repeat (first | assumption | (refine rg_ne (by first | decide | omega) ?_) | apply rg_eq | refine rg_fr (by assumption) (by first | decide | (simp; omega)) ?_)) rfl rfl rfl ⟨(Nat.le_of_ble_eq_true rfl), (Nat.le_of_ble_eq_true rfl)⟩ (Nat.le_of_ble_eq_true rfl) ⟨(Nat.le_of_ble_eq_true rfl), (Nat.le_of_ble_eq_true rfl)⟩ ?_
          rintro _ _ ⟨rfl, rfl⟩
          refine a_astore 14 dX11_film_12 rfl (by decide) ?_
          refine a_aload_n 15 dX11_film_14 rfl rfl ?_
          refine a_iload_n 16 dX11_film_15 rfl rfl ?_
          refine a_callV ok_X11_personAt ln_X11_152 in_X11_personAt rfl 19 dX11_film_16 rfl (c_personN q.1 hi) (by repeat (first | assumption | (refine rg_ne (by first | decide | omega) ?_) | apply rg_eq | refine rg_fr (by assumption) (by first | decide | (simp; omega)) ?_)) rfl rfl rfl ⟨(Nat.le_of_ble_eq_true rfl), (Nat.le_of_ble_eq_true rfl)⟩ (Nat.le_of_ble_eq_true rfl) ⟨(Nat.le_of_ble_eq_true rfl), (Nat.le_of_ble_eq_true rfl)⟩ ?_
          rintro _ _ ⟨rfl, rfl⟩
          refine a_astoreN 21 dX11_film_19 rfl (by decide) ?_
          refine a_aload_n 22 dX11_film_21 rfl rfl ?_
          refine a_iload 24 dX11_film_22 rfl rfl ?_
          refine a_callV ok_X11_personAt ln_X11_152 in_X11_personAt rfl 27 dX11_film_24 rfl (c_personN q.1 hj) (by repeat (first | assumption | (refine rg_ne (by first | decide | omega) ?_) | apply rg_eq | refine rg_fr (by assumption) (by first | decide | (simp; omega)) ?_)) rfl rfl rfl ⟨(Nat.le_of_ble_eq_true rfl), (Nat.le_of_ble_eq_true rfl)⟩ (Nat.le_of_ble_eq_true rfl) ⟨(Nat.le_of_ble_eq_true rfl), (Nat.le_of_ble_eq_true rfl)⟩ ?_
          rintro _ _ ⟨rfl, rfl⟩
          refine a_astoreN 29 dX11_film_27 rfl (by decide) ?_
          refine a_aload 31 dX11_film_29 rfl rfl ?_
          refine a_ifnull 34 dX11_film_31 rfl ?_
          refine a_aload 36 dX11_film_34 rfl rfl ?_
          refine a_ifnull 39 dX11_film_36 rfl ?_
          refine a_aloadN 41 dX11_film_39 rfl rfl ?_
          refine a_ifnullN 49 dX11_film_41 (by decide) ?_
          refine a_ldc2 (-9223372036854775808) 52 dX11_film_49 rfl lk_X11_224 ?_
          exact a_lreturn dX11_film_52 rfl (Nat.le_of_ble_eq_true rfl) (Nat.le_of_ble_eq_true rfl) ⟨film_eq (film_no (Or.inr (Or.inr (Or.inl e3)))), q, fun _ _ _ => rfl⟩
        · skip
          refine rM_start (by decide) (Nat.le_of_ble_eq_true rfl) ?_
          refine a_aload_n 1 dX11_film_0 rfl rfl ?_
          refine a_iload_n 2 dX11_film_1 rfl rfl ?_
          refine a_callV ok_X11_lawAt ln_X11_180 in_X11_lawAt rfl 5 dX11_film_2 rfl (c_law q.1 o hc) (by repeat (first | assumption | (refine rg_ne (by first | decide | omega) ?_) | apply rg_eq | refine rg_fr (by assumption) (by first | decide | (simp; omega)) ?_)) rfl rfl rfl ⟨(Nat.le_of_ble_eq_true rfl), (Nat.le_of_ble_eq_true rfl)⟩ (Nat.le_of_ble_eq_true rfl) ⟨(Nat.le_of_ble_eq_true rfl), (Nat.le_of_ble_eq_true rfl)⟩ ?_
          rintro _ _ ⟨rfl, rfl⟩
          refine a_astore 7 dX11_film_5 rfl (by decide) ?_
          refine a_aload_n 8 dX11_film_7 rfl rfl ?_
          refine a_iload_n 9 dX11_film_8 rfl rfl ?_
          refine a_callV ok_X11_lawAt ln_X11_180 in_X11_lawAt rfl 12 dX11_film_9 rfl (c_law q.1 o hd) (by repeat (first | assumption | (refine rg_ne (by first | decide | omega) ?_) | apply rg_eq | refine rg_fr (by assumption) (by first | decide | (simp; omega)) ?_)) rfl rfl rfl ⟨(Nat.le_of_ble_eq_true rfl), (Nat.le_of_ble_eq_true rfl)⟩ (Nat.le_of_ble_eq_true rfl) ⟨(Nat.le_of_ble_eq_true rfl), (Nat.le_of_ble_eq_true rfl)⟩ ?_
          rintro _ _ ⟨rfl, rfl⟩
          refine a_astore 14 dX11_film_12 rfl (by decide) ?_
          refine a_aload_n 15 dX11_film_14 rfl rfl ?_
          refine a_iload_n 16 dX11_film_15 rfl rfl ?_
          refine a_callV ok_X11_personAt ln_X11_152 in_X11_personAt rfl 19 dX11_film_16 rfl (c_personN q.1 hi) (by repeat (first | assumption | (refine rg_ne (by first | decide | omega) ?_) | apply rg_eq | refine rg_fr (by assumption) (by first | decide | (simp; omega)) ?_)) rfl rfl rfl ⟨(Nat.le_of_ble_eq_true rfl), (Nat.le_of_ble_eq_true rfl)⟩ (Nat.le_of_ble_eq_true rfl) ⟨(Nat.le_of_ble_eq_true rfl), (Nat.le_of_ble_eq_true rfl)⟩ ?_
          rintro _ _ ⟨rfl, rfl⟩
          refine a_astoreN 21 dX11_film_19 rfl (by decide) ?_
          refine a_aload_n 22 dX11_film_21 rfl rfl ?_
          refine a_iload 24 dX11_film_22 rfl rfl ?_
          refine a_callV ok_X11_personAt ln_X11_152 in_X11_personAt rfl 27 dX11_film_24 rfl (c_person q.1 o hj) (by repeat (first | assumption | (refine rg_ne (by first | decide | omega) ?_) | apply rg_eq | refine rg_fr (by assumption) (by first | decide | (simp; omega)) ?_)) rfl rfl rfl ⟨(Nat.le_of_ble_eq_true rfl), (Nat.le_of_ble_eq_true rfl)⟩ (Nat.le_of_ble_eq_true rfl) ⟨(Nat.le_of_ble_eq_true rfl), (Nat.le_of_ble_eq_true rfl)⟩ ?_
          rintro _ _ ⟨rfl, rfl⟩
          refine a_astore 29 dX11_film_27 rfl (by decide) ?_
          refine a_aload 31 dX11_film_29 rfl rfl ?_
          refine a_ifnull 34 dX11_film_31 rfl ?_
          refine a_aload 36 dX11_film_34 rfl rfl ?_
          refine a_ifnull 39 dX11_film_36 rfl ?_
          refine a_aloadN 41 dX11_film_39 rfl rfl ?_
          refine a_ifnullN 49 dX11_film_41 (by decide) ?_
          refine a_ldc2 (-9223372036854775808) 52 dX11_film_49 rfl lk_X11_224 ?_
          exact a_lreturn dX11_film_52 rfl (Nat.le_of_ble_eq_true rfl) (Nat.le_of_ble_eq_true rfl) ⟨film_eq (film_no (Or.inr (Or.inr (Or.inl e3)))), q, fun _ _ _ => rfl⟩
      · skip
        rcases oT_cases (n := T.m) (by omega) j with ⟨e4, hj⟩ | ⟨x, hj, rfl, e4⟩
        · skip
          refine rM_start (by decide) (Nat.le_of_ble_eq_true rfl) ?_
          refine a_aload_n 1 dX11_film_0 rfl rfl ?_
          refine a_iload_n 2 dX11_film_1 rfl rfl ?_
          refine a_callV ok_X11_lawAt ln_X11_180 in_X11_lawAt rfl 5 dX11_film_2 rfl (c_law q.1 o hc) (by repeat (first | assumption | (refine rg_ne (by first | decide | omega) ?_) | apply rg_eq | refine rg_fr (by assumption) (by first | decide | (simp; omega)) ?_)) rfl rfl rfl ⟨(Nat.le_of_ble_eq_true rfl), (Nat.le_of_ble_eq_true rfl)⟩ (Nat.le_of_ble_eq_true rfl) ⟨(Nat.le_of_ble_eq_true rfl), (Nat.le_of_ble_eq_true rfl)⟩ ?_
          rintro _ _ ⟨rfl, rfl⟩
          refine a_astore 7 dX11_film_5 rfl (by decide) ?_
          refine a_aload_n 8 dX11_film_7 rfl rfl ?_
          refine a_iload_n 9 dX11_film_8 rfl rfl ?_
          refine a_callV ok_X11_lawAt ln_X11_180 in_X11_lawAt rfl 12 dX11_film_9 rfl (c_law q.1 o hd) (by repeat (first | assumption | (refine rg_ne (by first | decide | omega) ?_) | apply rg_eq | refine rg_fr (by assumption) (by first | decide | (simp; omega)) ?_)) rfl rfl rfl ⟨(Nat.le_of_ble_eq_true rfl), (Nat.le_of_ble_eq_true rfl)⟩ (Nat.le_of_ble_eq_true rfl) ⟨(Nat.le_of_ble_eq_true rfl), (Nat.le_of_ble_eq_true rfl)⟩ ?_
          rintro _ _ ⟨rfl, rfl⟩
          refine a_astore 14 dX11_film_12 rfl (by decide) ?_
          refine a_aload_n 15 dX11_film_14 rfl rfl ?_
          refine a_iload_n 16 dX11_film_15 rfl rfl ?_
          refine a_callV ok_X11_personAt ln_X11_152 in_X11_personAt rfl 19 dX11_film_16 rfl (c_person q.1 o hi) (by repeat (first | assumption | (refine rg_ne (by first | decide | omega) ?_) | apply rg_eq | refine rg_fr (by assumption) (by first | decide | (simp; omega)) ?_)) rfl rfl rfl ⟨(Nat.le_of_ble_eq_true rfl), (Nat.le_of_ble_eq_true rfl)⟩ (Nat.le_of_ble_eq_true rfl) ⟨(Nat.le_of_ble_eq_true rfl), (Nat.le_of_ble_eq_true rfl)⟩ ?_
          rintro _ _ ⟨rfl, rfl⟩
          refine a_astore 21 dX11_film_19 rfl (by decide) ?_
          refine a_aload_n 22 dX11_film_21 rfl rfl ?_
          refine a_iload 24 dX11_film_22 rfl rfl ?_
          refine a_callV ok_X11_personAt ln_X11_152 in_X11_personAt rfl 27 dX11_film_24 rfl (c_personN q.1 hj) (by repeat (first | assumption | (refine rg_ne (by first | decide | omega) ?_) | apply rg_eq | refine rg_fr (by assumption) (by first | decide | (simp; omega)) ?_)) rfl rfl rfl ⟨(Nat.le_of_ble_eq_true rfl), (Nat.le_of_ble_eq_true rfl)⟩ (Nat.le_of_ble_eq_true rfl) ⟨(Nat.le_of_ble_eq_true rfl), (Nat.le_of_ble_eq_true rfl)⟩ ?_
          rintro _ _ ⟨rfl, rfl⟩
          refine a_astoreN 29 dX11_film_27 rfl (by decide) ?_
          refine a_aload 31 dX11_film_29 rfl rfl ?_
          refine a_ifnull 34 dX11_film_31 rfl ?_
          refine a_aload 36 dX11_film_34 rfl rfl ?_
          refine a_ifnull 39 dX11_film_36 rfl ?_
          refine a_aload 41 dX11_film_39 rfl rfl ?_
          refine a_ifnull 44 dX11_film_41 rfl ?_
          refine a_aloadN 46 dX11_film_44 rfl rfl ?_
          refine a_ifnonnullN 49 dX11_film_46 rfl ?_
          refine a_ldc2 (-9223372036854775808) 52 dX11_film_49 rfl lk_X11_224 ?_
          exact a_lreturn dX11_film_52 rfl (Nat.le_of_ble_eq_true rfl) (Nat.le_of_ble_eq_true rfl) ⟨film_eq (film_no (Or.inr (Or.inr (Or.inr e4)))), q, fun _ _ _ => rfl⟩
        · skip
          have ea : aFilm T (nI z) (nI u) (nI y) (nI x) w = if x ≠ y ∧ (w = 0 ∨ w = 1) then tolN (oduN (T.fi z x y) (T.fi u x y)) (odlN (T.fi z x y) (T.fi u x y)) w else lost64 := by unfold aFilm; rw [e1, e2, e3, e4]
          have hne := nI_eq (a := x) (b := y) (by omega) (by omega)
          have b1 := fi_lt o (x := x) (y := y) hc
          have b2 := fi_lt o (x := x) (y := y) hd
          have u1 := odu_lt b1 b2
          have l1 := odl_lt b1 b2
          refine rM_start (by decide) (Nat.le_of_ble_eq_true rfl) ?_
          refine a_aload_n 1 dX11_film_0 rfl rfl ?_
          refine a_iload_n 2 dX11_film_1 rfl rfl ?_
          refine a_callV ok_X11_lawAt ln_X11_180 in_X11_lawAt rfl 5 dX11_film_2 rfl (c_law q.1 o hc) (by repeat (first | assumption | (refine rg_ne (by first | decide | omega) ?_) | apply rg_eq | refine rg_fr (by assumption) (by first | decide | (simp; omega)) ?_)) rfl rfl rfl ⟨(Nat.le_of_ble_eq_true rfl), (Nat.le_of_ble_eq_true rfl)⟩ (Nat.le_of_ble_eq_true rfl) ⟨(Nat.le_of_ble_eq_true rfl), (Nat.le_of_ble_eq_true rfl)⟩ ?_
          rintro _ _ ⟨rfl, rfl⟩
          refine a_astore 7 dX11_film_5 rfl (by decide) ?_
          refine a_aload_n 8 dX11_film_7 rfl rfl ?_
          refine a_iload_n 9 dX11_film_8 rfl rfl ?_
          refine a_callV ok_X11_lawAt ln_X11_180 in_X11_lawAt rfl 12 dX11_film_9 rfl (c_law q.1 o hd) (by repeat (first | assumption | (refine rg_ne (by first | decide | omega) ?_) | apply rg_eq | refine rg_fr (by assumption) (by first | decide | (simp; omega)) ?_)) rfl rfl rfl ⟨(Nat.le_of_ble_eq_true rfl), (Nat.le_of_ble_eq_true rfl)⟩ (Nat.le_of_ble_eq_true rfl) ⟨(Nat.le_of_ble_eq_true rfl), (Nat.le_of_ble_eq_true rfl)⟩ ?_
          rintro _ _ ⟨rfl, rfl⟩
          refine a_astore 14 dX11_film_12 rfl (by decide) ?_
          refine a_aload_n 15 dX11_film_14 rfl rfl ?_
          refine a_iload_n 16 dX11_film_15 rfl rfl ?_
          refine a_callV ok_X11_personAt ln_X11_152 in_X11_personAt rfl 19 dX11_film_16 rfl (c_person q.1 o hi) (by repeat (first | assumption | (refine rg_ne (by first | decide | omega) ?_) | apply rg_eq | refine rg_fr (by assumption) (by first | decide | (simp; omega)) ?_)) rfl rfl rfl ⟨(Nat.le_of_ble_eq_true rfl), (Nat.le_of_ble_eq_true rfl)⟩ (Nat.le_of_ble_eq_true rfl) ⟨(Nat.le_of_ble_eq_true rfl), (Nat.le_of_ble_eq_true rfl)⟩ ?_
          rintro _ _ ⟨rfl, rfl⟩
          refine a_astore 21 dX11_film_19 rfl (by decide) ?_
          refine a_aload_n 22 dX11_film_21 rfl rfl ?_
          refine a_iload 24 dX11_film_22 rfl rfl ?_
          refine a_callV ok_X11_personAt ln_X11_152 in_X11_personAt rfl 27 dX11_film_24 rfl (c_person q.1 o hj) (by repeat (first | assumption | (refine rg_ne (by first | decide | omega) ?_) | apply rg_eq | refine rg_fr (by assumption) (by first | decide | (simp; omega)) ?_)) rfl rfl rfl ⟨(Nat.le_of_ble_eq_true rfl), (Nat.le_of_ble_eq_true rfl)⟩ (Nat.le_of_ble_eq_true rfl) ⟨(Nat.le_of_ble_eq_true rfl), (Nat.le_of_ble_eq_true rfl)⟩ ?_
          rintro _ _ ⟨rfl, rfl⟩
          refine a_astore 29 dX11_film_27 rfl (by decide) ?_
          refine a_aload 31 dX11_film_29 rfl rfl ?_
          refine a_ifnull 34 dX11_film_31 rfl ?_
          refine a_aload 36 dX11_film_34 rfl rfl ?_
          refine a_ifnull 39 dX11_film_36 rfl ?_
          refine a_aload 41 dX11_film_39 rfl rfl ?_
          refine a_ifnull 44 dX11_film_41 rfl ?_
          refine a_aload 46 dX11_film_44 rfl rfl ?_
          refine a_ifnonnull 53 dX11_film_46 (by decide) ?_
          refine a_iload 55 dX11_film_53 rfl rfl ?_
          refine a_iload_n 56 dX11_film_55 rfl rfl ?_
          refine a_icmp_eq 70 59 dX11_film_56 rfl (by decide) (fun c_56 => ?_) (fun c_56 => ?_)
          · refine a_ldc2 (-9223372036854775808) 73 dX11_film_70 rfl lk_X11_224 ?_
            exact a_lreturn dX11_film_73 rfl (Nat.le_of_ble_eq_true rfl) (Nat.le_of_ble_eq_true rfl) ⟨by rw [ea, if_neg (fun v => v.1 (hne.mp c_56))]; rfl, q, fun _ _ _ => rfl⟩
          · refine a_iload 61 dX11_film_59 rfl rfl ?_
            refine a_if_eq 74 64 dX11_film_61 rfl (by decide) (fun c_61 => ?_) (fun c_61 => ?_)
            · refine a_aload 76 dX11_film_74 rfl rfl ?_
              refine a_aload 78 dX11_film_76 rfl rfl ?_
              refine a_aload 80 dX11_film_78 rfl rfl ?_
              refine a_callS ok_X11_filmMight ln_X11_311 is_X11_filmMight rfl 83 dX11_film_80 rfl (c_film q.1 o hc hj hi) rfl rfl ⟨(Nat.le_of_ble_eq_true rfl), (Nat.le_of_ble_eq_true rfl)⟩ (Nat.le_of_ble_eq_true rfl) ⟨(Nat.le_of_ble_eq_true rfl), (Nat.le_of_ble_eq_true rfl)⟩ ?_
              rintro _ _ ⟨rfl, rfl⟩
              refine a_istore 85 dX11_film_83 rfl (by decide) ?_
              refine a_aload 87 dX11_film_85 rfl rfl ?_
              refine a_aload 89 dX11_film_87 rfl rfl ?_
              refine a_aload 91 dX11_film_89 rfl rfl ?_
              refine a_callS ok_X11_filmMight ln_X11_311 is_X11_filmMight rfl 94 dX11_film_91 rfl (c_film q.1 o hd hj hi) rfl rfl ⟨(Nat.le_of_ble_eq_true rfl), (Nat.le_of_ble_eq_true rfl)⟩ (Nat.le_of_ble_eq_true rfl) ⟨(Nat.le_of_ble_eq_true rfl), (Nat.le_of_ble_eq_true rfl)⟩ ?_
              rintro _ _ ⟨rfl, rfl⟩
              refine a_istore 96 dX11_film_94 rfl (by decide) ?_
              refine a_iload 98 dX11_film_96 rfl rfl ?_
              refine a_iload 100 dX11_film_98 rfl rfl ?_
              refine a_callS ok_X11_oddsUpper ln_X11_314 is_X11_oddsUpper rfl 103 dX11_film_100 rfl (k_X11_oddsUpper b1 b2) rfl rfl ⟨(Nat.le_of_ble_eq_true rfl), (Nat.le_of_ble_eq_true rfl)⟩ (Nat.le_of_ble_eq_true rfl) ⟨(Nat.le_of_ble_eq_true rfl), (Nat.le_of_ble_eq_true rfl)⟩ ?_
              rintro _ _ ⟨rfl, rfl⟩
              refine a_iload 105 dX11_film_103 rfl rfl ?_
              refine a_iload 107 dX11_film_105 rfl rfl ?_
              refine a_callS ok_X11_oddsLower ln_X11_317 is_X11_oddsLower rfl 110 dX11_film_107 rfl (k_X11_oddsLower b1 b2) rfl rfl ⟨(Nat.le_of_ble_eq_true rfl), (Nat.le_of_ble_eq_true rfl)⟩ (Nat.le_of_ble_eq_true rfl) ⟨(Nat.le_of_ble_eq_true rfl), (Nat.le_of_ble_eq_true rfl)⟩ ?_
              rintro _ _ ⟨rfl, rfl⟩
              refine a_iload 112 dX11_film_110 rfl rfl ?_
              refine a_callS ok_X11_leastTerm ln_X11_233 is_X11_leastTerm rfl 115 dX11_film_112 rfl (k_X11_leastTerm (by omega) (by omega) odl_pos w) rfl rfl ⟨(Nat.le_of_ble_eq_true rfl), (Nat.le_of_ble_eq_true rfl)⟩ (Nat.le_of_ble_eq_true rfl) ⟨(Nat.le_of_ble_eq_true rfl), (Nat.le_of_ble_eq_true rfl)⟩ ?_
              rintro _ _ ⟨rfl, rfl⟩
              exact a_lreturn dX11_film_115 rfl (Nat.le_of_ble_eq_true rfl) (Nat.le_of_ble_eq_true rfl) ⟨by rw [ea, if_pos ⟨fun v => c_56 (hne.mpr v), Or.inl c_61⟩], q, fun _ _ _ => rfl⟩
            · refine a_iload 66 dX11_film_64 rfl rfl ?_
              refine a_iconst (1) 67 dX11_film_66 rfl (by decide) ?_
              refine a_icmp_eq 74 70 dX11_film_67 rfl (by decide) (fun c_67 => ?_) (fun c_67 => ?_)
              · refine a_aload 76 dX11_film_74 rfl rfl ?_
                refine a_aload 78 dX11_film_76 rfl rfl ?_
                refine a_aload 80 dX11_film_78 rfl rfl ?_
                refine a_callS ok_X11_filmMight ln_X11_311 is_X11_filmMight rfl 83 dX11_film_80 rfl (c_film q.1 o hc hj hi) rfl rfl ⟨(Nat.le_of_ble_eq_true rfl), (Nat.le_of_ble_eq_true rfl)⟩ (Nat.le_of_ble_eq_true rfl) ⟨(Nat.le_of_ble_eq_true rfl), (Nat.le_of_ble_eq_true rfl)⟩ ?_
                rintro _ _ ⟨rfl, rfl⟩
                refine a_istore 85 dX11_film_83 rfl (by decide) ?_
                refine a_aload 87 dX11_film_85 rfl rfl ?_
                refine a_aload 89 dX11_film_87 rfl rfl ?_
                refine a_aload 91 dX11_film_89 rfl rfl ?_
                refine a_callS ok_X11_filmMight ln_X11_311 is_X11_filmMight rfl 94 dX11_film_91 rfl (c_film q.1 o hd hj hi) rfl rfl ⟨(Nat.le_of_ble_eq_true rfl), (Nat.le_of_ble_eq_true rfl)⟩ (Nat.le_of_ble_eq_true rfl) ⟨(Nat.le_of_ble_eq_true rfl), (Nat.le_of_ble_eq_true rfl)⟩ ?_
                rintro _ _ ⟨rfl, rfl⟩
                refine a_istore 96 dX11_film_94 rfl (by decide) ?_
                refine a_iload 98 dX11_film_96 rfl rfl ?_
                refine a_iload 100 dX11_film_98 rfl rfl ?_
                refine a_callS ok_X11_oddsUpper ln_X11_314 is_X11_oddsUpper rfl 103 dX11_film_100 rfl (k_X11_oddsUpper b1 b2) rfl rfl ⟨(Nat.le_of_ble_eq_true rfl), (Nat.le_of_ble_eq_true rfl)⟩ (Nat.le_of_ble_eq_true rfl) ⟨(Nat.le_of_ble_eq_true rfl), (Nat.le_of_ble_eq_true rfl)⟩ ?_
                rintro _ _ ⟨rfl, rfl⟩
                refine a_iload 105 dX11_film_103 rfl rfl ?_
                refine a_iload 107 dX11_film_105 rfl rfl ?_
                refine a_callS ok_X11_oddsLower ln_X11_317 is_X11_oddsLower rfl 110 dX11_film_107 rfl (k_X11_oddsLower b1 b2) rfl rfl ⟨(Nat.le_of_ble_eq_true rfl), (Nat.le_of_ble_eq_true rfl)⟩ (Nat.le_of_ble_eq_true rfl) ⟨(Nat.le_of_ble_eq_true rfl), (Nat.le_of_ble_eq_true rfl)⟩ ?_
                rintro _ _ ⟨rfl, rfl⟩
                refine a_iload 112 dX11_film_110 rfl rfl ?_
                refine a_callS ok_X11_leastTerm ln_X11_233 is_X11_leastTerm rfl 115 dX11_film_112 rfl (k_X11_leastTerm (by omega) (by omega) odl_pos w) rfl rfl ⟨(Nat.le_of_ble_eq_true rfl), (Nat.le_of_ble_eq_true rfl)⟩ (Nat.le_of_ble_eq_true rfl) ⟨(Nat.le_of_ble_eq_true rfl), (Nat.le_of_ble_eq_true rfl)⟩ ?_
                rintro _ _ ⟨rfl, rfl⟩
                exact a_lreturn dX11_film_115 rfl (Nat.le_of_ble_eq_true rfl) (Nat.le_of_ble_eq_true rfl) ⟨by rw [ea, if_pos ⟨fun v => c_56 (hne.mpr v), Or.inr c_67⟩], q, fun _ _ _ => rfl⟩
              · refine a_ldc2 (-9223372036854775808) 73 dX11_film_70 rfl lk_X11_224 ?_
                exact a_lreturn dX11_film_73 rfl (Nat.le_of_ble_eq_true rfl) (Nat.le_of_ble_eq_true rfl) ⟨by rw [ea, if_neg (fun v => by rcases v.2 with v | v; exact c_61 v; exact c_67 v)]; rfl, q, fun _ _ _ => rfl⟩
end CFILM2
