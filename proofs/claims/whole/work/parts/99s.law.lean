/-! THE LAW's calls, one after another -/
section LAWC
variable {l : Launch} {G : rG} {h : rH} {T : Tn} {nm : String} {i k n : Nat}
abbrev lwLs (G : rG) (i : Nat) : List (Option Value) := [some (.ref (gS G 0)), some (.ref (gN G + 0)), some (.ref (gN G + 38)), some (.int (nI i))]
def INV (G : rG) (h : rH) (T : Tn) : Prop := cAll G h T ∧ mAll G h T ∧ T.ok ∧ 61 ≤ h.length
def lwN (l : Launch) (G : rG) (nm : String) (i k n : Nat) : Prop := ∀ (h' : rH) (T' : Tn), INV G h' T' → rW l G room_1 (mLaw nm) (lZ G) (k + 2) (n + 8) 1563 (lwLs G i) [] h'
theorem m_len (q : mAll G h T) : 61 ≤ h.length := by
  obtain ⟨i, j, q⟩ := q
  obtain ⟨-, -, -, -, -, -, f, p60⟩ := q.2.2.2.2.2.1
  exact (List.getElem?_eq_some_iff.mp p60).1
theorem lw_ix (hL : gL G ≤ 3072) (hi : i + 6 ≤ gL G) (x : Int32) (j : Nat) (hj : j < 6) (e : x = nI j) : vp_in (nI i + x) (gL G) := by
  rw [e, nI_add]; exact vp_in_nI (by omega) (by omega)
set_option maxRecDepth 100000 in
set_option maxHeartbeats 400000 in
theorem lw_carriage (hL : gL G ≤ 3072) (hi : i + 6 ≤ gL G) (hk : k ≤ 500000) (hn : n ≤ 7000000) (I : INV G h T) (NX : lwN l G nm i k n) : rW l G room_1 (mLaw nm) (lZ G) k n 200 (lwLs G i) [] h := by
  have q := I.1
  have o := I.2.2.1
  have hlen := I.2.2.2
  have q0 := q.1.1
  obtain ⟨im, jm, qx⟩ := id I.2.1
  have hm := qx.at
  have v1 := lw_ix hL hi 1 1 (by decide) rfl
  have v2 := lw_ix hL hi 2 2 (by decide) rfl
  have v3 := lw_ix hL hi 3 3 (by decide) rfl
  have v4 := lw_ix hL hi 4 4 (by decide) rfl
  refine a_aload_n 201 dL_law_200 rfl rfl ?_
  refine a_aload_n 202 dL_law_201 rfl rfl ?_
  refine a_iload_n 203 dL_law_202 rfl rfl ?_
  refine a_iconst (1) 204 dL_law_203 rfl (by decide) ?_
  refine a_iadd 205 dL_law_204 rfl ?_
  refine a_iaload_s  206 dL_law_205 rfl rfl v1 ?_
  refine a_aload_n 207 dL_law_206 rfl rfl ?_
  refine a_iload_n 208 dL_law_207 rfl rfl ?_
  refine a_iconst (2) 209 dL_law_208 rfl (by decide) ?_
  refine a_iadd 210 dL_law_209 rfl ?_
  refine a_iaload_s  211 dL_law_210 rfl rfl v2 ?_
  refine a_aload_n 212 dL_law_211 rfl rfl ?_
  refine a_iload_n 213 dL_law_212 rfl rfl ?_
  refine a_iconst (3) 214 dL_law_213 rfl (by decide) ?_
  refine a_iadd 215 dL_law_214 rfl ?_
  refine a_iaload_s  216 dL_law_215 rfl rfl v3 ?_
  refine a_aload_n 217 dL_law_216 rfl rfl ?_
  refine a_iload_n 218 dL_law_217 rfl rfl ?_
  refine a_iconst (4) 219 dL_law_218 rfl (by decide) ?_
  refine a_iadd 220 dL_law_219 rfl ?_
  refine a_iaload_s  221 dL_law_220 rfl rfl v4 ?_
  refine a_callV ok_X11_carriage ln_L_13 in_X11_carriage rfl 224 dL_law_221 rfl (c_carriage q o _ _ _ _) (by repeat (first | assumption | (refine rg_ne (by first | decide | omega) ?_) | apply rg_eq | refine rg_fr (by assumption) (by first | decide | (simp; omega)) ?_)) rfl rfl rfl ⟨(Nat.le_of_ble_eq_true rfl), (Nat.le_of_ble_eq_true rfl)⟩ (Nat.le_of_ble_eq_true rfl) ⟨show _ ≤ 600000 by omega, show _ ≤ 7302249 by omega⟩ ?_
  rintro h1 _ ⟨rfl, q1, hk1⟩
  have qm := mAll_kpc I.2.1 hk1
  obtain ⟨i1, j1, qx1⟩ := id qm
  have hm1 := qx1.at
  refine a_aload_n 225 dL_law_224 rfl rfl ?_
  refine a_aload_n 226 dL_law_225 rfl rfl ?_
  refine a_iload_n 227 dL_law_226 rfl rfl ?_
  refine a_iconst (1) 228 dL_law_227 rfl (by decide) ?_
  refine a_iadd 229 dL_law_228 rfl ?_
  refine a_iaload_s  230 dL_law_229 rfl rfl v1 ?_
  refine a_aload_n 231 dL_law_230 rfl rfl ?_
  refine a_iload_n 232 dL_law_231 rfl rfl ?_
  refine a_iconst (2) 233 dL_law_232 rfl (by decide) ?_
  refine a_iadd 234 dL_law_233 rfl ?_
  refine a_iaload_s  235 dL_law_234 rfl rfl v2 ?_
  refine a_aload_n 236 dL_law_235 rfl rfl ?_
  refine a_iload_n 237 dL_law_236 rfl rfl ?_
  refine a_iconst (3) 238 dL_law_237 rfl (by decide) ?_
  refine a_iadd 239 dL_law_238 rfl ?_
  refine a_iaload_s  240 dL_law_239 rfl rfl v3 ?_
  refine a_aload_n 241 dL_law_240 rfl rfl ?_
  refine a_iload_n 242 dL_law_241 rfl rfl ?_
  refine a_iconst (4) 243 dL_law_242 rfl (by decide) ?_
  refine a_iadd 244 dL_law_243 rfl ?_
  refine a_iaload_s  245 dL_law_244 rfl rfl v4 ?_
  refine a_callV ok_X12_carriage ln_L_17 in_X12_carriage rfl 248 dL_law_245 rfl (m_carriage qm o _ _ _ _) (by repeat (first | assumption | (refine rg_ne (by first | decide | omega) ?_) | apply rg_eq | refine rg_fr (by assumption) (by first | decide | (simp; omega)) ?_)) rfl rfl rfl ⟨(Nat.le_of_ble_eq_true rfl), (Nat.le_of_ble_eq_true rfl)⟩ (Nat.le_of_ble_eq_true rfl) ⟨show _ ≤ 600000 by omega, show _ ≤ 7302249 by omega⟩ ?_
  rintro h2 _ ⟨rfl, q2, hk2⟩
  refine a_icmp_eq 1563 251 dL_law_248 rfl (by decide) (fun c_248 => ?_) (fun c_248 => absurd rfl c_248)
  refine rW_widen (k' := k + 2) (n' := n + 8) (by omega) (by omega) ?_
  exact NX _ _ ⟨cAll_kpm q1 hk2, q2, ok_car o _ _ _ _, m_len q2⟩
set_option maxRecDepth 100000 in
set_option maxHeartbeats 400000 in
theorem lw_ofSeat (hL : gL G ≤ 3072) (hi : i + 6 ≤ gL G) (hk : k ≤ 500000) (hn : n ≤ 7000000) (I : INV G h T) (NX : lwN l G nm i k n) : rW l G room_1 (mLaw nm) (lZ G) k n 253 (lwLs G i) [] h := by
  have q := I.1
  have o := I.2.2.1
  have hlen := I.2.2.2
  have q0 := q.1.1
  obtain ⟨im, jm, qx⟩ := id I.2.1
  have hm := qx.at
  have v1 := lw_ix hL hi 1 1 (by decide) rfl
  have v2 := lw_ix hL hi 2 2 (by decide) rfl
  refine a_aload_n 254 dL_law_253 rfl rfl ?_
  refine a_aload_n 255 dL_law_254 rfl rfl ?_
  refine a_iload_n 256 dL_law_255 rfl rfl ?_
  refine a_iconst (1) 257 dL_law_256 rfl (by decide) ?_
  refine a_iadd 258 dL_law_257 rfl ?_
  refine a_iaload_s  259 dL_law_258 rfl rfl v1 ?_
  refine a_aload_n 260 dL_law_259 rfl rfl ?_
  refine a_iload_n 261 dL_law_260 rfl rfl ?_
  refine a_iconst (2) 262 dL_law_261 rfl (by decide) ?_
  refine a_iadd 263 dL_law_262 rfl ?_
  refine a_iaload_s  264 dL_law_263 rfl rfl v2 ?_
  refine a_callV ok_X11_ofSeat ln_L_18 in_X11_ofSeat rfl 267 dL_law_264 rfl (c_ofSeat q o _ _) (by repeat (first | assumption | (refine rg_ne (by first | decide | omega) ?_) | apply rg_eq | refine rg_fr (by assumption) (by first | decide | (simp; omega)) ?_)) rfl rfl rfl ⟨(Nat.le_of_ble_eq_true rfl), (Nat.le_of_ble_eq_true rfl)⟩ (Nat.le_of_ble_eq_true rfl) ⟨show _ ≤ 600000 by omega, show _ ≤ 7302249 by omega⟩ ?_
  rintro h1 _ ⟨rfl, q1, hk1⟩
  have qm := mAll_kpc I.2.1 hk1
  obtain ⟨i1, j1, qx1⟩ := id qm
  have hm1 := qx1.at
  refine a_aload_n 268 dL_law_267 rfl rfl ?_
  refine a_aload_n 269 dL_law_268 rfl rfl ?_
  refine a_iload_n 270 dL_law_269 rfl rfl ?_
  refine a_iconst (1) 271 dL_law_270 rfl (by decide) ?_
  refine a_iadd 272 dL_law_271 rfl ?_
  refine a_iaload_s  273 dL_law_272 rfl rfl v1 ?_
  refine a_aload_n 274 dL_law_273 rfl rfl ?_
  refine a_iload_n 275 dL_law_274 rfl rfl ?_
  refine a_iconst (2) 276 dL_law_275 rfl (by decide) ?_
  refine a_iadd 277 dL_law_276 rfl ?_
  refine a_iaload_s  278 dL_law_277 rfl rfl v2 ?_
  refine a_callV ok_X12_ofSeat ln_L_22 in_X12_ofSeat rfl 281 dL_law_278 rfl (m_ofSeat qm o _ _) (by repeat (first | assumption | (refine rg_ne (by first | decide | omega) ?_) | apply rg_eq | refine rg_fr (by assumption) (by first | decide | (simp; omega)) ?_)) rfl rfl rfl ⟨(Nat.le_of_ble_eq_true rfl), (Nat.le_of_ble_eq_true rfl)⟩ (Nat.le_of_ble_eq_true rfl) ⟨show _ ≤ 600000 by omega, show _ ≤ 7302249 by omega⟩ ?_
  rintro h2 _ ⟨rfl, q2, hk2⟩
  refine a_icmp_eq 1563 284 dL_law_281 rfl (by decide) (fun c_281 => ?_) (fun c_281 => absurd rfl c_281)
  refine rW_widen (k' := k + 2) (n' := n + 8) (by omega) (by omega) ?_
  exact NX _ _ ⟨cAll_kpm q1 hk2, q2, o, m_len q2⟩
set_option maxRecDepth 100000 in
set_option maxHeartbeats 400000 in
theorem lw_line (hL : gL G ≤ 3072) (hi : i + 6 ≤ gL G) (hk : k ≤ 500000) (hn : n ≤ 7000000) (I : INV G h T) (NX : lwN l G nm i k n) : rW l G room_1 (mLaw nm) (lZ G) k n 286 (lwLs G i) [] h := by
  have q := I.1
  have o := I.2.2.1
  have hlen := I.2.2.2
  have q0 := q.1.1
  obtain ⟨im, jm, qx⟩ := id I.2.1
  have hm := qx.at
  have v1 := lw_ix hL hi 1 1 (by decide) rfl
  have v2 := lw_ix hL hi 2 2 (by decide) rfl
  refine a_aload_n 287 dL_law_286 rfl rfl ?_
  refine a_aload_n 288 dL_law_287 rfl rfl ?_
  refine a_iload_n 289 dL_law_288 rfl rfl ?_
  refine a_iconst (1) 290 dL_law_289 rfl (by decide) ?_
  refine a_iadd 291 dL_law_290 rfl ?_
  refine a_iaload_s  292 dL_law_291 rfl rfl v1 ?_
  refine a_aload_n 293 dL_law_292 rfl rfl ?_
  refine a_iload_n 294 dL_law_293 rfl rfl ?_
  refine a_iconst (2) 295 dL_law_294 rfl (by decide) ?_
  refine a_iadd 296 dL_law_295 rfl ?_
  refine a_iaload_s  297 dL_law_296 rfl rfl v2 ?_
  refine a_callV ok_X11_line ln_L_23 in_X11_line rfl 300 dL_law_297 rfl (c_line q o _ _) (by repeat (first | assumption | (refine rg_ne (by first | decide | omega) ?_) | apply rg_eq | refine rg_fr (by assumption) (by first | decide | (simp; omega)) ?_)) rfl rfl rfl ⟨(Nat.le_of_ble_eq_true rfl), (Nat.le_of_ble_eq_true rfl)⟩ (Nat.le_of_ble_eq_true rfl) ⟨show _ ≤ 600000 by omega, show _ ≤ 7302249 by omega⟩ ?_
  rintro h1 _ ⟨rfl, q1, hk1⟩
  have qm := mAll_kpc I.2.1 hk1
  obtain ⟨i1, j1, qx1⟩ := id qm
  have hm1 := qx1.at
  refine a_aload_n 301 dL_law_300 rfl rfl ?_
  refine a_aload_n 302 dL_law_301 rfl rfl ?_
  refine a_iload_n 303 dL_law_302 rfl rfl ?_
  refine a_iconst (1) 304 dL_law_303 rfl (by decide) ?_
  refine a_iadd 305 dL_law_304 rfl ?_
  refine a_iaload_s  306 dL_law_305 rfl rfl v1 ?_
  refine a_aload_n 307 dL_law_306 rfl rfl ?_
  refine a_iload_n 308 dL_law_307 rfl rfl ?_
  refine a_iconst (2) 309 dL_law_308 rfl (by decide) ?_
  refine a_iadd 310 dL_law_309 rfl ?_
  refine a_iaload_s  311 dL_law_310 rfl rfl v2 ?_
  refine a_callV ok_X12_line ln_L_26 in_X12_line rfl 314 dL_law_311 rfl (m_line qm o _ _) (by repeat (first | assumption | (refine rg_ne (by first | decide | omega) ?_) | apply rg_eq | refine rg_fr (by assumption) (by first | decide | (simp; omega)) ?_)) rfl rfl rfl ⟨(Nat.le_of_ble_eq_true rfl), (Nat.le_of_ble_eq_true rfl)⟩ (Nat.le_of_ble_eq_true rfl) ⟨show _ ≤ 600000 by omega, show _ ≤ 7302249 by omega⟩ ?_
  rintro h2 _ ⟨rfl, q2, hk2⟩
  refine a_icmp_eq 1563 317 dL_law_314 rfl (by decide) (fun c_314 => ?_) (fun c_314 => absurd rfl c_314)
  refine rW_widen (k' := k + 2) (n' := n + 8) (by omega) (by omega) ?_
  exact NX _ _ ⟨cAll_kpm q1 hk2, q2, o, m_len q2⟩
set_option maxRecDepth 100000 in
set_option maxHeartbeats 400000 in
theorem lw_blind (hL : gL G ≤ 3072) (hi : i + 6 ≤ gL G) (hk : k ≤ 500000) (hn : n ≤ 7000000) (I : INV G h T) (NX : lwN l G nm i k n) : rW l G room_1 (mLaw nm) (lZ G) k n 319 (lwLs G i) [] h := by
  have q := I.1
  have o := I.2.2.1
  have hlen := I.2.2.2
  have q0 := q.1.1
  obtain ⟨im, jm, qx⟩ := id I.2.1
  have hm := qx.at
  have v1 := lw_ix hL hi 1 1 (by decide) rfl
  have v2 := lw_ix hL hi 2 2 (by decide) rfl
  have v3 := lw_ix hL hi 3 3 (by decide) rfl
  refine a_aload_n 320 dL_law_319 rfl rfl ?_
  refine a_aload_n 321 dL_law_320 rfl rfl ?_
  refine a_iload_n 322 dL_law_321 rfl rfl ?_
  refine a_iconst (1) 323 dL_law_322 rfl (by decide) ?_
  refine a_iadd 324 dL_law_323 rfl ?_
  refine a_iaload_s  325 dL_law_324 rfl rfl v1 ?_
  refine a_aload_n 326 dL_law_325 rfl rfl ?_
  refine a_iload_n 327 dL_law_326 rfl rfl ?_
  refine a_iconst (2) 328 dL_law_327 rfl (by decide) ?_
  refine a_iadd 329 dL_law_328 rfl ?_
  refine a_iaload_s  330 dL_law_329 rfl rfl v2 ?_
  refine a_aload_n 331 dL_law_330 rfl rfl ?_
  refine a_iload_n 332 dL_law_331 rfl rfl ?_
  refine a_iconst (3) 333 dL_law_332 rfl (by decide) ?_
  refine a_iadd 334 dL_law_333 rfl ?_
  refine a_iaload_s  335 dL_law_334 rfl rfl v3 ?_
  refine a_if_eq 342 338 dL_law_335 rfl (by decide) (fun c_335 => ?_) (fun c_335 => ?_)
  · refine a_iconst (0) 343 dL_law_342 rfl (by decide) ?_
    refine a_callV ok_X11_blind ln_L_27 in_X11_blind rfl 346 dL_law_343 rfl (c_blind q o _ _ _ (Or.inl rfl)) (by repeat (first | assumption | (refine rg_ne (by first | decide | omega) ?_) | apply rg_eq | refine rg_fr (by assumption) (by first | decide | (simp; omega)) ?_)) rfl rfl rfl ⟨(Nat.le_of_ble_eq_true rfl), (Nat.le_of_ble_eq_true rfl)⟩ (Nat.le_of_ble_eq_true rfl) ⟨show _ ≤ 600000 by omega, show _ ≤ 7302249 by omega⟩ ?_
    rintro h1 _ ⟨rfl, q1, hk1⟩
    have qm := mAll_kpc I.2.1 hk1
    obtain ⟨i1, j1, qx1⟩ := id qm
    have hm1 := qx1.at
    refine a_aload_n 347 dL_law_346 rfl rfl ?_
    refine a_aload_n 348 dL_law_347 rfl rfl ?_
    refine a_iload_n 349 dL_law_348 rfl rfl ?_
    refine a_iconst (1) 350 dL_law_349 rfl (by decide) ?_
    refine a_iadd 351 dL_law_350 rfl ?_
    refine a_iaload_s  352 dL_law_351 rfl rfl v1 ?_
    refine a_aload_n 353 dL_law_352 rfl rfl ?_
    refine a_iload_n 354 dL_law_353 rfl rfl ?_
    refine a_iconst (2) 355 dL_law_354 rfl (by decide) ?_
    refine a_iadd 356 dL_law_355 rfl ?_
    refine a_iaload_s  357 dL_law_356 rfl rfl v2 ?_
    refine a_aload_n 358 dL_law_357 rfl rfl ?_
    refine a_iload_n 359 dL_law_358 rfl rfl ?_
    refine a_iconst (3) 360 dL_law_359 rfl (by decide) ?_
    refine a_iadd 361 dL_law_360 rfl ?_
    refine a_iaload_s  362 dL_law_361 rfl rfl v3 ?_
    refine a_if_eq 369 365 dL_law_362 rfl (by decide) (fun c_362 => ?_) (fun c_362 => absurd c_335 c_362)
    refine a_iconst (0) 370 dL_law_369 rfl (by decide) ?_
    refine a_callV ok_X12_blind ln_L_31 in_X12_blind rfl 373 dL_law_370 rfl (m_blind qm o _ _ _ (Or.inl rfl)) (by repeat (first | assumption | (refine rg_ne (by first | decide | omega) ?_) | apply rg_eq | refine rg_fr (by assumption) (by first | decide | (simp; omega)) ?_)) rfl rfl rfl ⟨(Nat.le_of_ble_eq_true rfl), (Nat.le_of_ble_eq_true rfl)⟩ (Nat.le_of_ble_eq_true rfl) ⟨show _ ≤ 600000 by omega, show _ ≤ 7302249 by omega⟩ ?_
    rintro h2 _ ⟨rfl, q2, hk2⟩
    refine a_icmp_eq 1563 376 dL_law_373 rfl (by decide) (fun c_373 => ?_) (fun c_373 => absurd rfl c_373)
    refine rW_widen (k' := k + 2) (n' := n + 8) (by omega) (by omega) ?_
    exact NX _ _ ⟨cAll_kpm q1 hk2, q2, ok_blind o _ _ _ (Or.inl rfl), m_len q2⟩
  · refine a_iconst (1) 339 dL_law_338 rfl (by decide) ?_
    refine a_goto 343 dL_law_339 (by decide) ?_
    refine a_callV ok_X11_blind ln_L_27 in_X11_blind rfl 346 dL_law_343 rfl (c_blind q o _ _ _ (Or.inr rfl)) (by repeat (first | assumption | (refine rg_ne (by first | decide | omega) ?_) | apply rg_eq | refine rg_fr (by assumption) (by first | decide | (simp; omega)) ?_)) rfl rfl rfl ⟨(Nat.le_of_ble_eq_true rfl), (Nat.le_of_ble_eq_true rfl)⟩ (Nat.le_of_ble_eq_true rfl) ⟨show _ ≤ 600000 by omega, show _ ≤ 7302249 by omega⟩ ?_
    rintro h1 _ ⟨rfl, q1, hk1⟩
    have qm := mAll_kpc I.2.1 hk1
    obtain ⟨i1, j1, qx1⟩ := id qm
    have hm1 := qx1.at
    refine a_aload_n 347 dL_law_346 rfl rfl ?_
    refine a_aload_n 348 dL_law_347 rfl rfl ?_
    refine a_iload_n 349 dL_law_348 rfl rfl ?_
    refine a_iconst (1) 350 dL_law_349 rfl (by decide) ?_
    refine a_iadd 351 dL_law_350 rfl ?_
    refine a_iaload_s  352 dL_law_351 rfl rfl v1 ?_
    refine a_aload_n 353 dL_law_352 rfl rfl ?_
    refine a_iload_n 354 dL_law_353 rfl rfl ?_
    refine a_iconst (2) 355 dL_law_354 rfl (by decide) ?_
    refine a_iadd 356 dL_law_355 rfl ?_
    refine a_iaload_s  357 dL_law_356 rfl rfl v2 ?_
    refine a_aload_n 358 dL_law_357 rfl rfl ?_
    refine a_iload_n 359 dL_law_358 rfl rfl ?_
    refine a_iconst (3) 360 dL_law_359 rfl (by decide) ?_
    refine a_iadd 361 dL_law_360 rfl ?_
    refine a_iaload_s  362 dL_law_361 rfl rfl v3 ?_
    refine a_if_eq 369 365 dL_law_362 rfl (by decide) (fun c_362 => absurd c_362 c_335) (fun c_362 => ?_)
    refine a_iconst (1) 366 dL_law_365 rfl (by decide) ?_
    refine a_goto 370 dL_law_366 (by decide) ?_
    refine a_callV ok_X12_blind ln_L_31 in_X12_blind rfl 373 dL_law_370 rfl (m_blind qm o _ _ _ (Or.inr rfl)) (by repeat (first | assumption | (refine rg_ne (by first | decide | omega) ?_) | apply rg_eq | refine rg_fr (by assumption) (by first | decide | (simp; omega)) ?_)) rfl rfl rfl ⟨(Nat.le_of_ble_eq_true rfl), (Nat.le_of_ble_eq_true rfl)⟩ (Nat.le_of_ble_eq_true rfl) ⟨show _ ≤ 600000 by omega, show _ ≤ 7302249 by omega⟩ ?_
    rintro h2 _ ⟨rfl, q2, hk2⟩
    refine a_icmp_eq 1563 376 dL_law_373 rfl (by decide) (fun c_373 => ?_) (fun c_373 => absurd rfl c_373)
    refine rW_widen (k' := k + 2) (n' := n + 8) (by omega) (by omega) ?_
    exact NX _ _ ⟨cAll_kpm q1 hk2, q2, ok_blind o _ _ _ (Or.inr rfl), m_len q2⟩
set_option maxRecDepth 100000 in
set_option maxHeartbeats 400000 in
theorem lw_one (hL : gL G ≤ 3072) (hi : i + 6 ≤ gL G) (hk : k ≤ 500000) (hn : n ≤ 7000000) (I : INV G h T) (NX : lwN l G nm i k n) : rW l G room_1 (mLaw nm) (lZ G) k n 378 (lwLs G i) [] h := by
  have q := I.1
  have o := I.2.2.1
  have hlen := I.2.2.2
  have q0 := q.1.1
  obtain ⟨im, jm, qx⟩ := id I.2.1
  have hm := qx.at
  have v1 := lw_ix hL hi 1 1 (by decide) rfl
  have v2 := lw_ix hL hi 2 2 (by decide) rfl
  have v3 := lw_ix hL hi 3 3 (by decide) rfl
  have v4 := lw_ix hL hi 4 4 (by decide) rfl
  refine a_aload_n 379 dL_law_378 rfl rfl ?_
  refine a_aload_n 380 dL_law_379 rfl rfl ?_
  refine a_iload_n 381 dL_law_380 rfl rfl ?_
  refine a_iconst (1) 382 dL_law_381 rfl (by decide) ?_
  refine a_iadd 383 dL_law_382 rfl ?_
  refine a_iaload_s  384 dL_law_383 rfl rfl v1 ?_
  refine a_aload_n 385 dL_law_384 rfl rfl ?_
  refine a_iload_n 386 dL_law_385 rfl rfl ?_
  refine a_iconst (2) 387 dL_law_386 rfl (by decide) ?_
  refine a_iadd 388 dL_law_387 rfl ?_
  refine a_iaload_s  389 dL_law_388 rfl rfl v2 ?_
  refine a_aload_n 390 dL_law_389 rfl rfl ?_
  refine a_iload_n 391 dL_law_390 rfl rfl ?_
  refine a_iconst (3) 392 dL_law_391 rfl (by decide) ?_
  refine a_iadd 393 dL_law_392 rfl ?_
  refine a_iaload_s  394 dL_law_393 rfl rfl v3 ?_
  refine a_aload_n 395 dL_law_394 rfl rfl ?_
  refine a_iload_n 396 dL_law_395 rfl rfl ?_
  refine a_iconst (4) 397 dL_law_396 rfl (by decide) ?_
  refine a_iadd 398 dL_law_397 rfl ?_
  refine a_iaload_s  399 dL_law_398 rfl rfl v4 ?_
  refine a_callV ok_X11_one ln_L_32 in_X11_one rfl 402 dL_law_399 rfl (c_one q o hlen _ _ _ _) (by repeat (first | assumption | (refine rg_ne (by first | decide | omega) ?_) | apply rg_eq | refine rg_fr (by assumption) (by first | decide | (simp; omega)) ?_)) rfl rfl rfl ⟨(Nat.le_of_ble_eq_true rfl), (Nat.le_of_ble_eq_true rfl)⟩ (Nat.le_of_ble_eq_true rfl) ⟨show _ ≤ 600000 by omega, show _ ≤ 7302249 by omega⟩ ?_
  rintro h1 _ ⟨rfl, q1, hk1⟩
  have qm := mAll_kC I.2.1 hk1
  obtain ⟨i1, j1, qx1⟩ := id qm
  have hm1 := qx1.at
  refine a_aload_n 403 dL_law_402 rfl rfl ?_
  refine a_aload_n 404 dL_law_403 rfl rfl ?_
  refine a_iload_n 405 dL_law_404 rfl rfl ?_
  refine a_iconst (1) 406 dL_law_405 rfl (by decide) ?_
  refine a_iadd 407 dL_law_406 rfl ?_
  refine a_iaload_s  408 dL_law_407 rfl rfl v1 ?_
  refine a_aload_n 409 dL_law_408 rfl rfl ?_
  refine a_iload_n 410 dL_law_409 rfl rfl ?_
  refine a_iconst (2) 411 dL_law_410 rfl (by decide) ?_
  refine a_iadd 412 dL_law_411 rfl ?_
  refine a_iaload_s  413 dL_law_412 rfl rfl v2 ?_
  refine a_aload_n 414 dL_law_413 rfl rfl ?_
  refine a_iload_n 415 dL_law_414 rfl rfl ?_
  refine a_iconst (3) 416 dL_law_415 rfl (by decide) ?_
  refine a_iadd 417 dL_law_416 rfl ?_
  refine a_iaload_s  418 dL_law_417 rfl rfl v3 ?_
  refine a_aload_n 419 dL_law_418 rfl rfl ?_
  refine a_iload_n 420 dL_law_419 rfl rfl ?_
  refine a_iconst (4) 421 dL_law_420 rfl (by decide) ?_
  refine a_iadd 422 dL_law_421 rfl ?_
  refine a_iaload_s  423 dL_law_422 rfl rfl v4 ?_
  refine a_callV ok_X12_one ln_L_35 in_X12_one rfl 426 dL_law_423 rfl (m_one qm o h.length _ _ _ _) (by repeat (first | assumption | (refine rg_ne (by first | decide | omega) ?_) | apply rg_eq | refine rg_fr (by assumption) (by first | decide | (simp; omega)) ?_)) rfl rfl rfl ⟨(Nat.le_of_ble_eq_true rfl), (Nat.le_of_ble_eq_true rfl)⟩ (Nat.le_of_ble_eq_true rfl) ⟨show _ ≤ 600000 by omega, show _ ≤ 7302249 by omega⟩ ?_
  rintro h2 _ ⟨rfl, q2, hk2⟩
  refine a_icmp_eq 1563 429 dL_law_426 rfl (by decide) (fun c_426 => ?_) (fun c_426 => absurd rfl c_426)
  refine rW_widen (k' := k + 2) (n' := n + 8) (by omega) (by omega) ?_
  exact NX _ _ ⟨cAll_kpm q1 hk2, q2, ok_one o _ _ _ _ _, m_len q2⟩
set_option maxRecDepth 100000 in
set_option maxHeartbeats 400000 in
theorem lw_ofOne (hL : gL G ≤ 3072) (hi : i + 6 ≤ gL G) (hk : k ≤ 500000) (hn : n ≤ 7000000) (I : INV G h T) (NX : lwN l G nm i k n) : rW l G room_1 (mLaw nm) (lZ G) k n 431 (lwLs G i) [] h := by
  have q := I.1
  have o := I.2.2.1
  have hlen := I.2.2.2
  have q0 := q.1.1
  obtain ⟨im, jm, qx⟩ := id I.2.1
  have hm := qx.at
  have v1 := lw_ix hL hi 1 1 (by decide) rfl
  have v2 := lw_ix hL hi 2 2 (by decide) rfl
  refine a_aload_n 432 dL_law_431 rfl rfl ?_
  refine a_aload_n 433 dL_law_432 rfl rfl ?_
  refine a_iload_n 434 dL_law_433 rfl rfl ?_
  refine a_iconst (1) 435 dL_law_434 rfl (by decide) ?_
  refine a_iadd 436 dL_law_435 rfl ?_
  refine a_iaload_s  437 dL_law_436 rfl rfl v1 ?_
  refine a_aload_n 438 dL_law_437 rfl rfl ?_
  refine a_iload_n 439 dL_law_438 rfl rfl ?_
  refine a_iconst (2) 440 dL_law_439 rfl (by decide) ?_
  refine a_iadd 441 dL_law_440 rfl ?_
  refine a_iaload_s  442 dL_law_441 rfl rfl v2 ?_
  refine a_callV ok_X11_ofOne ln_L_36 in_X11_ofOne rfl 445 dL_law_442 rfl (c_ofOne q o _ _) (by repeat (first | assumption | (refine rg_ne (by first | decide | omega) ?_) | apply rg_eq | refine rg_fr (by assumption) (by first | decide | (simp; omega)) ?_)) rfl rfl rfl ⟨(Nat.le_of_ble_eq_true rfl), (Nat.le_of_ble_eq_true rfl)⟩ (Nat.le_of_ble_eq_true rfl) ⟨show _ ≤ 600000 by omega, show _ ≤ 7302249 by omega⟩ ?_
  rintro h1 _ ⟨rfl, q1, hk1⟩
  have qm := mAll_kpc I.2.1 hk1
  obtain ⟨i1, j1, qx1⟩ := id qm
  have hm1 := qx1.at
  refine a_aload_n 446 dL_law_445 rfl rfl ?_
  refine a_aload_n 447 dL_law_446 rfl rfl ?_
  refine a_iload_n 448 dL_law_447 rfl rfl ?_
  refine a_iconst (1) 449 dL_law_448 rfl (by decide) ?_
  refine a_iadd 450 dL_law_449 rfl ?_
  refine a_iaload_s  451 dL_law_450 rfl rfl v1 ?_
  refine a_aload_n 452 dL_law_451 rfl rfl ?_
  refine a_iload_n 453 dL_law_452 rfl rfl ?_
  refine a_iconst (2) 454 dL_law_453 rfl (by decide) ?_
  refine a_iadd 455 dL_law_454 rfl ?_
  refine a_iaload_s  456 dL_law_455 rfl rfl v2 ?_
  refine a_callV ok_X12_ofOne ln_L_39 in_X12_ofOne rfl 459 dL_law_456 rfl (m_ofOne qm o _ _) (by repeat (first | assumption | (refine rg_ne (by first | decide | omega) ?_) | apply rg_eq | refine rg_fr (by assumption) (by first | decide | (simp; omega)) ?_)) rfl rfl rfl ⟨(Nat.le_of_ble_eq_true rfl), (Nat.le_of_ble_eq_true rfl)⟩ (Nat.le_of_ble_eq_true rfl) ⟨show _ ≤ 600000 by omega, show _ ≤ 7302249 by omega⟩ ?_
  rintro h2 _ ⟨rfl, q2, hk2⟩
  refine a_icmp_eq 1563 462 dL_law_459 rfl (by decide) (fun c_459 => ?_) (fun c_459 => absurd rfl c_459)
  refine rW_widen (k' := k + 2) (n' := n + 8) (by omega) (by omega) ?_
  exact NX _ _ ⟨cAll_kpm q1 hk2, q2, o, m_len q2⟩
set_option maxRecDepth 100000 in
set_option maxHeartbeats 400000 in
theorem lw_move (hL : gL G ≤ 3072) (hi : i + 6 ≤ gL G) (hk : k ≤ 500000) (hn : n ≤ 7000000) (I : INV G h T) (NX : lwN l G nm i k n) : rW l G room_1 (mLaw nm) (lZ G) k n 464 (lwLs G i) [] h := by
  have q := I.1
  have o := I.2.2.1
  have hlen := I.2.2.2
  have q0 := q.1.1
  obtain ⟨im, jm, qx⟩ := id I.2.1
  have hm := qx.at
  have v1 := lw_ix hL hi 1 1 (by decide) rfl
  have v2 := lw_ix hL hi 2 2 (by decide) rfl
  refine a_aload_n 465 dL_law_464 rfl rfl ?_
  refine a_aload_n 466 dL_law_465 rfl rfl ?_
  refine a_iload_n 467 dL_law_466 rfl rfl ?_
  refine a_iconst (1) 468 dL_law_467 rfl (by decide) ?_
  refine a_iadd 469 dL_law_468 rfl ?_
  refine a_iaload_s  470 dL_law_469 rfl rfl v1 ?_
  refine a_aload_n 471 dL_law_470 rfl rfl ?_
  refine a_iload_n 472 dL_law_471 rfl rfl ?_
  refine a_iconst (2) 473 dL_law_472 rfl (by decide) ?_
  refine a_iadd 474 dL_law_473 rfl ?_
  refine a_iaload_s  475 dL_law_474 rfl rfl v2 ?_
  refine a_callV ok_X11_move ln_L_40 in_X11_move rfl 478 dL_law_475 rfl (c_move q o _ _) (by repeat (first | assumption | (refine rg_ne (by first | decide | omega) ?_) | apply rg_eq | refine rg_fr (by assumption) (by first | decide | (simp; omega)) ?_)) rfl rfl rfl ⟨(Nat.le_of_ble_eq_true rfl), (Nat.le_of_ble_eq_true rfl)⟩ (Nat.le_of_ble_eq_true rfl) ⟨show _ ≤ 600000 by omega, show _ ≤ 7302249 by omega⟩ ?_
  rintro h1 _ ⟨rfl, q1, hk1⟩
  have qm := mAll_kC I.2.1 hk1
  obtain ⟨i1, j1, qx1⟩ := id qm
  have hm1 := qx1.at
  refine a_aload_n 479 dL_law_478 rfl rfl ?_
  refine a_aload_n 480 dL_law_479 rfl rfl ?_
  refine a_iload_n 481 dL_law_480 rfl rfl ?_
  refine a_iconst (1) 482 dL_law_481 rfl (by decide) ?_
  refine a_iadd 483 dL_law_482 rfl ?_
  refine a_iaload_s  484 dL_law_483 rfl rfl v1 ?_
  refine a_aload_n 485 dL_law_484 rfl rfl ?_
  refine a_iload_n 486 dL_law_485 rfl rfl ?_
  refine a_iconst (2) 487 dL_law_486 rfl (by decide) ?_
  refine a_iadd 488 dL_law_487 rfl ?_
  refine a_iaload_s  489 dL_law_488 rfl rfl v2 ?_
  refine a_callV ok_X12_move ln_L_43 in_X12_move rfl 492 dL_law_489 rfl (m_move qm o _ _) (by repeat (first | assumption | (refine rg_ne (by first | decide | omega) ?_) | apply rg_eq | refine rg_fr (by assumption) (by first | decide | (simp; omega)) ?_)) rfl rfl rfl ⟨(Nat.le_of_ble_eq_true rfl), (Nat.le_of_ble_eq_true rfl)⟩ (Nat.le_of_ble_eq_true rfl) ⟨show _ ≤ 600000 by omega, show _ ≤ 7302249 by omega⟩ ?_
  rintro h2 _ ⟨rfl, q2, hk2⟩
  refine a_icmp_eq 1563 495 dL_law_492 rfl (by decide) (fun c_492 => ?_) (fun c_492 => absurd rfl c_492)
  refine rW_widen (k' := k + 2) (n' := n + 8) (by omega) (by omega) ?_
  exact NX _ _ ⟨cAll_kpm q1 hk2, q2, ok_move o _ _, m_len q2⟩
set_option maxRecDepth 100000 in
set_option maxHeartbeats 400000 in
theorem lw_law (hL : gL G ≤ 3072) (hi : i + 6 ≤ gL G) (hk : k ≤ 500000) (hn : n ≤ 7000000) (I : INV G h T) (NX : lwN l G nm i k n) : rW l G room_1 (mLaw nm) (lZ G) k n 497 (lwLs G i) [] h := by
  have q := I.1
  have o := I.2.2.1
  have hlen := I.2.2.2
  have q0 := q.1.1
  obtain ⟨im, jm, qx⟩ := id I.2.1
  have hm := qx.at
  have v1 := lw_ix hL hi 1 1 (by decide) rfl
  have v2 := lw_ix hL hi 2 2 (by decide) rfl
  have v3 := lw_ix hL hi 3 3 (by decide) rfl
  have v4 := lw_ix hL hi 4 4 (by decide) rfl
  refine a_aload_n 498 dL_law_497 rfl rfl ?_
  refine a_aload_n 499 dL_law_498 rfl rfl ?_
  refine a_iload_n 500 dL_law_499 rfl rfl ?_
  refine a_iconst (1) 501 dL_law_500 rfl (by decide) ?_
  refine a_iadd 502 dL_law_501 rfl ?_
  refine a_iaload_s  503 dL_law_502 rfl rfl v1 ?_
  refine a_aload_n 504 dL_law_503 rfl rfl ?_
  refine a_iload_n 505 dL_law_504 rfl rfl ?_
  refine a_iconst (2) 506 dL_law_505 rfl (by decide) ?_
  refine a_iadd 507 dL_law_506 rfl ?_
  refine a_iaload_s  508 dL_law_507 rfl rfl v2 ?_
  refine a_aload_n 509 dL_law_508 rfl rfl ?_
  refine a_iload_n 510 dL_law_509 rfl rfl ?_
  refine a_iconst (3) 511 dL_law_510 rfl (by decide) ?_
  refine a_iadd 512 dL_law_511 rfl ?_
  refine a_iaload_s  513 dL_law_512 rfl rfl v3 ?_
  refine a_aload_n 514 dL_law_513 rfl rfl ?_
  refine a_iload_n 515 dL_law_514 rfl rfl ?_
  refine a_iconst (4) 516 dL_law_515 rfl (by decide) ?_
  refine a_iadd 517 dL_law_516 rfl ?_
  refine a_iaload_s  518 dL_law_517 rfl rfl v4 ?_
  refine a_callV ok_X11_law ln_L_44 in_X11_law rfl 521 dL_law_518 rfl (c_lawC q o hlen _ _ _ _) (by repeat (first | assumption | (refine rg_ne (by first | decide | omega) ?_) | apply rg_eq | refine rg_fr (by assumption) (by first | decide | (simp; omega)) ?_)) rfl rfl rfl ⟨(Nat.le_of_ble_eq_true rfl), (Nat.le_of_ble_eq_true rfl)⟩ (Nat.le_of_ble_eq_true rfl) ⟨show _ ≤ 600000 by omega, show _ ≤ 7302249 by omega⟩ ?_
  rintro h1 _ ⟨rfl, q1, hk1⟩
  have qm := mAll_kC I.2.1 hk1
  obtain ⟨i1, j1, qx1⟩ := id qm
  have hm1 := qx1.at
  refine a_aload_n 522 dL_law_521 rfl rfl ?_
  refine a_aload_n 523 dL_law_522 rfl rfl ?_
  refine a_iload_n 524 dL_law_523 rfl rfl ?_
  refine a_iconst (1) 525 dL_law_524 rfl (by decide) ?_
  refine a_iadd 526 dL_law_525 rfl ?_
  refine a_iaload_s  527 dL_law_526 rfl rfl v1 ?_
  refine a_aload_n 528 dL_law_527 rfl rfl ?_
  refine a_iload_n 529 dL_law_528 rfl rfl ?_
  refine a_iconst (2) 530 dL_law_529 rfl (by decide) ?_
  refine a_iadd 531 dL_law_530 rfl ?_
  refine a_iaload_s  532 dL_law_531 rfl rfl v2 ?_
  refine a_aload_n 533 dL_law_532 rfl rfl ?_
  refine a_iload_n 534 dL_law_533 rfl rfl ?_
  refine a_iconst (3) 535 dL_law_534 rfl (by decide) ?_
  refine a_iadd 536 dL_law_535 rfl ?_
  refine a_iaload_s  537 dL_law_536 rfl rfl v3 ?_
  refine a_aload_n 538 dL_law_537 rfl rfl ?_
  refine a_iload_n 539 dL_law_538 rfl rfl ?_
  refine a_iconst (4) 540 dL_law_539 rfl (by decide) ?_
  refine a_iadd 541 dL_law_540 rfl ?_
  refine a_iaload_s  542 dL_law_541 rfl rfl v4 ?_
  refine a_callV ok_X12_law ln_L_47 in_X12_law rfl 545 dL_law_542 rfl (m_law qm o _ _ _ _ h.length) (by repeat (first | assumption | (refine rg_ne (by first | decide | omega) ?_) | apply rg_eq | refine rg_fr (by assumption) (by first | decide | (simp; omega)) ?_)) rfl rfl rfl ⟨(Nat.le_of_ble_eq_true rfl), (Nat.le_of_ble_eq_true rfl)⟩ (Nat.le_of_ble_eq_true rfl) ⟨show _ ≤ 600000 by omega, show _ ≤ 7302249 by omega⟩ ?_
  rintro h2 _ ⟨rfl, q2, hk2⟩
  refine a_icmp_eq 1563 548 dL_law_545 rfl (by decide) (fun c_545 => ?_) (fun c_545 => absurd rfl c_545)
  refine rW_widen (k' := k + 2) (n' := n + 8) (by omega) (by omega) ?_
  exact NX _ _ ⟨cAll_kpm q1 hk2, q2, ok_law o _ _ _ _ _, m_len q2⟩
set_option maxRecDepth 100000 in
set_option maxHeartbeats 400000 in
theorem lw_ofLaw (hL : gL G ≤ 3072) (hi : i + 6 ≤ gL G) (hk : k ≤ 500000) (hn : n ≤ 7000000) (I : INV G h T) (NX : lwN l G nm i k n) : rW l G room_1 (mLaw nm) (lZ G) k n 550 (lwLs G i) [] h := by
  have q := I.1
  have o := I.2.2.1
  have hlen := I.2.2.2
  have q0 := q.1.1
  obtain ⟨im, jm, qx⟩ := id I.2.1
  have hm := qx.at
  have v1 := lw_ix hL hi 1 1 (by decide) rfl
  have v2 := lw_ix hL hi 2 2 (by decide) rfl
  refine a_aload_n 551 dL_law_550 rfl rfl ?_
  refine a_aload_n 552 dL_law_551 rfl rfl ?_
  refine a_iload_n 553 dL_law_552 rfl rfl ?_
  refine a_iconst (1) 554 dL_law_553 rfl (by decide) ?_
  refine a_iadd 555 dL_law_554 rfl ?_
  refine a_iaload_s  556 dL_law_555 rfl rfl v1 ?_
  refine a_aload_n 557 dL_law_556 rfl rfl ?_
  refine a_iload_n 558 dL_law_557 rfl rfl ?_
  refine a_iconst (2) 559 dL_law_558 rfl (by decide) ?_
  refine a_iadd 560 dL_law_559 rfl ?_
  refine a_iaload_s  561 dL_law_560 rfl rfl v2 ?_
  refine a_callV ok_X11_ofLaw ln_L_48 in_X11_ofLaw rfl 564 dL_law_561 rfl (c_ofLaw q o _ _) (by repeat (first | assumption | (refine rg_ne (by first | decide | omega) ?_) | apply rg_eq | refine rg_fr (by assumption) (by first | decide | (simp; omega)) ?_)) rfl rfl rfl ⟨(Nat.le_of_ble_eq_true rfl), (Nat.le_of_ble_eq_true rfl)⟩ (Nat.le_of_ble_eq_true rfl) ⟨show _ ≤ 600000 by omega, show _ ≤ 7302249 by omega⟩ ?_
  rintro h1 _ ⟨rfl, q1, hk1⟩
  have qm := mAll_kpc I.2.1 hk1
  obtain ⟨i1, j1, qx1⟩ := id qm
  have hm1 := qx1.at
  refine a_aload_n 565 dL_law_564 rfl rfl ?_
  refine a_aload_n 566 dL_law_565 rfl rfl ?_
  refine a_iload_n 567 dL_law_566 rfl rfl ?_
  refine a_iconst (1) 568 dL_law_567 rfl (by decide) ?_
  refine a_iadd 569 dL_law_568 rfl ?_
  refine a_iaload_s  570 dL_law_569 rfl rfl v1 ?_
  refine a_aload_n 571 dL_law_570 rfl rfl ?_
  refine a_iload_n 572 dL_law_571 rfl rfl ?_
  refine a_iconst (2) 573 dL_law_572 rfl (by decide) ?_
  refine a_iadd 574 dL_law_573 rfl ?_
  refine a_iaload_s  575 dL_law_574 rfl rfl v2 ?_
  refine a_callV ok_X12_ofLaw ln_L_51 in_X12_ofLaw rfl 578 dL_law_575 rfl (m_ofLaw qm o _ _) (by repeat (first | assumption | (refine rg_ne (by first | decide | omega) ?_) | apply rg_eq | refine rg_fr (by assumption) (by first | decide | (simp; omega)) ?_)) rfl rfl rfl ⟨(Nat.le_of_ble_eq_true rfl), (Nat.le_of_ble_eq_true rfl)⟩ (Nat.le_of_ble_eq_true rfl) ⟨show _ ≤ 600000 by omega, show _ ≤ 7302249 by omega⟩ ?_
  rintro h2 _ ⟨rfl, q2, hk2⟩
  refine a_icmp_eq 1563 581 dL_law_578 rfl (by decide) (fun c_578 => ?_) (fun c_578 => absurd rfl c_578)
  refine rW_widen (k' := k + 2) (n' := n + 8) (by omega) (by omega) ?_
  exact NX _ _ ⟨cAll_kpm q1 hk2, q2, o, m_len q2⟩
set_option maxRecDepth 100000 in
set_option maxHeartbeats 400000 in
theorem lw_might (hL : gL G ≤ 3072) (hi : i + 6 ≤ gL G) (hk : k ≤ 500000) (hn : n ≤ 7000000) (I : INV G h T) (NX : lwN l G nm i k n) : rW l G room_1 (mLaw nm) (lZ G) k n 583 (lwLs G i) [] h := by
  have q := I.1
  have o := I.2.2.1
  have hlen := I.2.2.2
  have q0 := q.1.1
  obtain ⟨im, jm, qx⟩ := id I.2.1
  have hm := qx.at
  have v1 := lw_ix hL hi 1 1 (by decide) rfl
  have v2 := lw_ix hL hi 2 2 (by decide) rfl
  have v3 := lw_ix hL hi 3 3 (by decide) rfl
  refine a_aload_n 584 dL_law_583 rfl rfl ?_
  refine a_aload_n 585 dL_law_584 rfl rfl ?_
  refine a_iload_n 586 dL_law_585 rfl rfl ?_
  refine a_iconst (1) 587 dL_law_586 rfl (by decide) ?_
  refine a_iadd 588 dL_law_587 rfl ?_
  refine a_iaload_s  589 dL_law_588 rfl rfl v1 ?_
  refine a_aload_n 590 dL_law_589 rfl rfl ?_
  refine a_iload_n 591 dL_law_590 rfl rfl ?_
  refine a_iconst (2) 592 dL_law_591 rfl (by decide) ?_
  refine a_iadd 593 dL_law_592 rfl ?_
  refine a_iaload_s  594 dL_law_593 rfl rfl v2 ?_
  refine a_aload_n 595 dL_law_594 rfl rfl ?_
  refine a_iload_n 596 dL_law_595 rfl rfl ?_
  refine a_iconst (3) 597 dL_law_596 rfl (by decide) ?_
  refine a_iadd 598 dL_law_597 rfl ?_
  refine a_iaload_s  599 dL_law_598 rfl rfl v3 ?_
  refine a_callV ok_X11_might ln_L_52 in_X11_might rfl 602 dL_law_599 rfl (c_might q o _ _ _) (by repeat (first | assumption | (refine rg_ne (by first | decide | omega) ?_) | apply rg_eq | refine rg_fr (by assumption) (by first | decide | (simp; omega)) ?_)) rfl rfl rfl ⟨(Nat.le_of_ble_eq_true rfl), (Nat.le_of_ble_eq_true rfl)⟩ (Nat.le_of_ble_eq_true rfl) ⟨show _ ≤ 600000 by omega, show _ ≤ 7302249 by omega⟩ ?_
  rintro h1 _ ⟨rfl, q1, hk1⟩
  have qm := mAll_kpc I.2.1 hk1
  obtain ⟨i1, j1, qx1⟩ := id qm
  have hm1 := qx1.at
  refine a_aload_n 603 dL_law_602 rfl rfl ?_
  refine a_aload_n 604 dL_law_603 rfl rfl ?_
  refine a_iload_n 605 dL_law_604 rfl rfl ?_
  refine a_iconst (1) 606 dL_law_605 rfl (by decide) ?_
  refine a_iadd 607 dL_law_606 rfl ?_
  refine a_iaload_s  608 dL_law_607 rfl rfl v1 ?_
  refine a_aload_n 609 dL_law_608 rfl rfl ?_
  refine a_iload_n 610 dL_law_609 rfl rfl ?_
  refine a_iconst (2) 611 dL_law_610 rfl (by decide) ?_
  refine a_iadd 612 dL_law_611 rfl ?_
  refine a_iaload_s  613 dL_law_612 rfl rfl v2 ?_
  refine a_aload_n 614 dL_law_613 rfl rfl ?_
  refine a_iload_n 615 dL_law_614 rfl rfl ?_
  refine a_iconst (3) 616 dL_law_615 rfl (by decide) ?_
  refine a_iadd 617 dL_law_616 rfl ?_
  refine a_iaload_s  618 dL_law_617 rfl rfl v3 ?_
  refine a_callV ok_X12_might ln_L_56 in_X12_might rfl 621 dL_law_618 rfl (m_might qm o _ _ _) (by repeat (first | assumption | (refine rg_ne (by first | decide | omega) ?_) | apply rg_eq | refine rg_fr (by assumption) (by first | decide | (simp; omega)) ?_)) rfl rfl rfl ⟨(Nat.le_of_ble_eq_true rfl), (Nat.le_of_ble_eq_true rfl)⟩ (Nat.le_of_ble_eq_true rfl) ⟨show _ ≤ 600000 by omega, show _ ≤ 7302249 by omega⟩ ?_
  rintro h2 _ ⟨rfl, q2, hk2⟩
  refine a_icmp_eq 1563 624 dL_law_621 rfl (by decide) (fun c_621 => ?_) (fun c_621 => absurd rfl c_621)
  refine rW_widen (k' := k + 2) (n' := n + 8) (by omega) (by omega) ?_
  exact NX _ _ ⟨cAll_kpm q1 hk2, q2, o, m_len q2⟩
set_option maxRecDepth 100000 in
set_option maxHeartbeats 400000 in
theorem lw_yawn (hL : gL G ≤ 3072) (hi : i + 6 ≤ gL G) (hk : k ≤ 500000) (hn : n ≤ 7000000) (I : INV G h T) (NX : lwN l G nm i k n) : rW l G room_1 (mLaw nm) (lZ G) k n 626 (lwLs G i) [] h := by
  have q := I.1
  have o := I.2.2.1
  have hlen := I.2.2.2
  have q0 := q.1.1
  obtain ⟨im, jm, qx⟩ := id I.2.1
  have hm := qx.at
  have v1 := lw_ix hL hi 1 1 (by decide) rfl
  have v2 := lw_ix hL hi 2 2 (by decide) rfl
  refine a_aload_n 627 dL_law_626 rfl rfl ?_
  refine a_aload_n 628 dL_law_627 rfl rfl ?_
  refine a_iload_n 629 dL_law_628 rfl rfl ?_
  refine a_iconst (1) 630 dL_law_629 rfl (by decide) ?_
  refine a_iadd 631 dL_law_630 rfl ?_
  refine a_iaload_s  632 dL_law_631 rfl rfl v1 ?_
  refine a_aload_n 633 dL_law_632 rfl rfl ?_
  refine a_iload_n 634 dL_law_633 rfl rfl ?_
  refine a_iconst (2) 635 dL_law_634 rfl (by decide) ?_
  refine a_iadd 636 dL_law_635 rfl ?_
  refine a_iaload_s  637 dL_law_636 rfl rfl v2 ?_
  refine a_callV ok_X11_yawn ln_L_57 in_X11_yawn rfl 640 dL_law_637 rfl (c_yawn q o _ _) (by repeat (first | assumption | (refine rg_ne (by first | decide | omega) ?_) | apply rg_eq | refine rg_fr (by assumption) (by first | decide | (simp; omega)) ?_)) rfl rfl rfl ⟨(Nat.le_of_ble_eq_true rfl), (Nat.le_of_ble_eq_true rfl)⟩ (Nat.le_of_ble_eq_true rfl) ⟨show _ ≤ 600000 by omega, show _ ≤ 7302249 by omega⟩ ?_
  rintro h1 _ ⟨rfl, q1, hk1⟩
  have qm := mAll_kpc I.2.1 hk1
  obtain ⟨i1, j1, qx1⟩ := id qm
  have hm1 := qx1.at
  refine a_aload_n 641 dL_law_640 rfl rfl ?_
  refine a_aload_n 642 dL_law_641 rfl rfl ?_
  refine a_iload_n 643 dL_law_642 rfl rfl ?_
  refine a_iconst (1) 644 dL_law_643 rfl (by decide) ?_
  refine a_iadd 645 dL_law_644 rfl ?_
  refine a_iaload_s  646 dL_law_645 rfl rfl v1 ?_
  refine a_aload_n 647 dL_law_646 rfl rfl ?_
  refine a_iload_n 648 dL_law_647 rfl rfl ?_
  refine a_iconst (2) 649 dL_law_648 rfl (by decide) ?_
  refine a_iadd 650 dL_law_649 rfl ?_
  refine a_iaload_s  651 dL_law_650 rfl rfl v2 ?_
  refine a_callV ok_X12_yawn ln_L_60 in_X12_yawn rfl 654 dL_law_651 rfl (m_yawn qm o _ _) (by repeat (first | assumption | (refine rg_ne (by first | decide | omega) ?_) | apply rg_eq | refine rg_fr (by assumption) (by first | decide | (simp; omega)) ?_)) rfl rfl rfl ⟨(Nat.le_of_ble_eq_true rfl), (Nat.le_of_ble_eq_true rfl)⟩ (Nat.le_of_ble_eq_true rfl) ⟨show _ ≤ 600000 by omega, show _ ≤ 7302249 by omega⟩ ?_
  rintro h2 _ ⟨rfl, q2, hk2⟩
  refine a_icmp_eq 1563 657 dL_law_654 rfl (by decide) (fun c_654 => ?_) (fun c_654 => absurd rfl c_654)
  refine rW_widen (k' := k + 2) (n' := n + 8) (by omega) (by omega) ?_
  exact NX _ _ ⟨cAll_kpm q1 hk2, q2, ok_yawn o _ _, m_len q2⟩
set_option maxRecDepth 100000 in
set_option maxHeartbeats 400000 in
theorem lw_ofYawn (hL : gL G ≤ 3072) (hi : i + 6 ≤ gL G) (hk : k ≤ 500000) (hn : n ≤ 7000000) (I : INV G h T) (NX : lwN l G nm i k n) : rW l G room_1 (mLaw nm) (lZ G) k n 659 (lwLs G i) [] h := by
  have q := I.1
  have o := I.2.2.1
  have hlen := I.2.2.2
  have q0 := q.1.1
  obtain ⟨im, jm, qx⟩ := id I.2.1
  have hm := qx.at
  have v1 := lw_ix hL hi 1 1 (by decide) rfl
  have v2 := lw_ix hL hi 2 2 (by decide) rfl
  refine a_aload_n 660 dL_law_659 rfl rfl ?_
  refine a_aload_n 661 dL_law_660 rfl rfl ?_
  refine a_iload_n 662 dL_law_661 rfl rfl ?_
  refine a_iconst (1) 663 dL_law_662 rfl (by decide) ?_
  refine a_iadd 664 dL_law_663 rfl ?_
  refine a_iaload_s  665 dL_law_664 rfl rfl v1 ?_
  refine a_aload_n 666 dL_law_665 rfl rfl ?_
  refine a_iload_n 667 dL_law_666 rfl rfl ?_
  refine a_iconst (2) 668 dL_law_667 rfl (by decide) ?_
  refine a_iadd 669 dL_law_668 rfl ?_
  refine a_iaload_s  670 dL_law_669 rfl rfl v2 ?_
  refine a_callV ok_X11_ofYawn ln_L_61 in_X11_ofYawn rfl 673 dL_law_670 rfl (c_ofYawn q o _ _) (by repeat (first | assumption | (refine rg_ne (by first | decide | omega) ?_) | apply rg_eq | refine rg_fr (by assumption) (by first | decide | (simp; omega)) ?_)) rfl rfl rfl ⟨(Nat.le_of_ble_eq_true rfl), (Nat.le_of_ble_eq_true rfl)⟩ (Nat.le_of_ble_eq_true rfl) ⟨show _ ≤ 600000 by omega, show _ ≤ 7302249 by omega⟩ ?_
  rintro h1 _ ⟨rfl, q1, hk1⟩
  have qm := mAll_kpc I.2.1 hk1
  obtain ⟨i1, j1, qx1⟩ := id qm
  have hm1 := qx1.at
  refine a_aload_n 674 dL_law_673 rfl rfl ?_
  refine a_aload_n 675 dL_law_674 rfl rfl ?_
  refine a_iload_n 676 dL_law_675 rfl rfl ?_
  refine a_iconst (1) 677 dL_law_676 rfl (by decide) ?_
  refine a_iadd 678 dL_law_677 rfl ?_
  refine a_iaload_s  679 dL_law_678 rfl rfl v1 ?_
  refine a_aload_n 680 dL_law_679 rfl rfl ?_
  refine a_iload_n 681 dL_law_680 rfl rfl ?_
  refine a_iconst (2) 682 dL_law_681 rfl (by decide) ?_
  refine a_iadd 683 dL_law_682 rfl ?_
  refine a_iaload_s  684 dL_law_683 rfl rfl v2 ?_
  refine a_callV ok_X12_ofYawn ln_L_64 in_X12_ofYawn rfl 687 dL_law_684 rfl (m_ofYawn qm o _ _) (by repeat (first | assumption | (refine rg_ne (by first | decide | omega) ?_) | apply rg_eq | refine rg_fr (by assumption) (by first | decide | (simp; omega)) ?_)) rfl rfl rfl ⟨(Nat.le_of_ble_eq_true rfl), (Nat.le_of_ble_eq_true rfl)⟩ (Nat.le_of_ble_eq_true rfl) ⟨show _ ≤ 600000 by omega, show _ ≤ 7302249 by omega⟩ ?_
  rintro h2 _ ⟨rfl, q2, hk2⟩
  refine a_icmp_eq 1563 690 dL_law_687 rfl (by decide) (fun c_687 => ?_) (fun c_687 => absurd rfl c_687)
  refine rW_widen (k' := k + 2) (n' := n + 8) (by omega) (by omega) ?_
  exact NX _ _ ⟨cAll_kpm q1 hk2, q2, o, m_len q2⟩
set_option maxRecDepth 100000 in
set_option maxHeartbeats 400000 in
theorem lw_back (hL : gL G ≤ 3072) (hi : i + 6 ≤ gL G) (hk : k ≤ 500000) (hn : n ≤ 7000000) (I : INV G h T) (NX : lwN l G nm i k n) : rW l G room_1 (mLaw nm) (lZ G) k n 692 (lwLs G i) [] h := by
  have q := I.1
  have o := I.2.2.1
  have hlen := I.2.2.2
  have q0 := q.1.1
  obtain ⟨im, jm, qx⟩ := id I.2.1
  have hm := qx.at
  have v1 := lw_ix hL hi 1 1 (by decide) rfl
  refine a_aload_n 693 dL_law_692 rfl rfl ?_
  refine a_aload_n 694 dL_law_693 rfl rfl ?_
  refine a_iload_n 695 dL_law_694 rfl rfl ?_
  refine a_iconst (1) 696 dL_law_695 rfl (by decide) ?_
  refine a_iadd 697 dL_law_696 rfl ?_
  refine a_iaload_s  698 dL_law_697 rfl rfl v1 ?_
  refine a_callV ok_X11_back ln_L_65 in_X11_back rfl 701 dL_law_698 rfl (c_back q o _) (by repeat (first | assumption | (refine rg_ne (by first | decide | omega) ?_) | apply rg_eq | refine rg_fr (by assumption) (by first | decide | (simp; omega)) ?_)) rfl rfl rfl ⟨(Nat.le_of_ble_eq_true rfl), (Nat.le_of_ble_eq_true rfl)⟩ (Nat.le_of_ble_eq_true rfl) ⟨show _ ≤ 600000 by omega, show _ ≤ 7302249 by omega⟩ ?_
  rintro h1 _ ⟨rfl, q1, hk1⟩
  have qm := mAll_kpc I.2.1 hk1
  obtain ⟨i1, j1, qx1⟩ := id qm
  have hm1 := qx1.at
  refine a_aload_n 702 dL_law_701 rfl rfl ?_
  refine a_aload_n 703 dL_law_702 rfl rfl ?_
  refine a_iload_n 704 dL_law_703 rfl rfl ?_
  refine a_iconst (1) 705 dL_law_704 rfl (by decide) ?_
  refine a_iadd 706 dL_law_705 rfl ?_
  refine a_iaload_s  707 dL_law_706 rfl rfl v1 ?_
  refine a_callV ok_X12_back ln_L_69 in_X12_back rfl 710 dL_law_707 rfl (m_back qm o _) (by repeat (first | assumption | (refine rg_ne (by first | decide | omega) ?_) | apply rg_eq | refine rg_fr (by assumption) (by first | decide | (simp; omega)) ?_)) rfl rfl rfl ⟨(Nat.le_of_ble_eq_true rfl), (Nat.le_of_ble_eq_true rfl)⟩ (Nat.le_of_ble_eq_true rfl) ⟨show _ ≤ 600000 by omega, show _ ≤ 7302249 by omega⟩ ?_
  rintro h2 _ ⟨rfl, q2, hk2⟩
  refine a_icmp_eq 1563 713 dL_law_710 rfl (by decide) (fun c_710 => ?_) (fun c_710 => absurd rfl c_710)
  refine rW_widen (k' := k + 2) (n' := n + 8) (by omega) (by omega) ?_
  exact NX _ _ ⟨cAll_kpm q1 hk2, q2, ok_back o _, m_len q2⟩
set_option maxRecDepth 100000 in
set_option maxHeartbeats 400000 in
theorem lw_could (hL : gL G ≤ 3072) (hi : i + 6 ≤ gL G) (hk : k ≤ 500000) (hn : n ≤ 7000000) (I : INV G h T) (NX : lwN l G nm i k n) : rW l G room_1 (mLaw nm) (lZ G) k n 715 (lwLs G i) [] h := by
  have q := I.1
  have o := I.2.2.1
  have hlen := I.2.2.2
  have q0 := q.1.1
  obtain ⟨im, jm, qx⟩ := id I.2.1
  have hm := qx.at
  have v1 := lw_ix hL hi 1 1 (by decide) rfl
  have v2 := lw_ix hL hi 2 2 (by decide) rfl
  refine a_aload_n 716 dL_law_715 rfl rfl ?_
  refine a_aload_n 717 dL_law_716 rfl rfl ?_
  refine a_iload_n 718 dL_law_717 rfl rfl ?_
  refine a_iconst (1) 719 dL_law_718 rfl (by decide) ?_
  refine a_iadd 720 dL_law_719 rfl ?_
  refine a_iaload_s  721 dL_law_720 rfl rfl v1 ?_
  refine a_aload_n 722 dL_law_721 rfl rfl ?_
  refine a_iload_n 723 dL_law_722 rfl rfl ?_
  refine a_iconst (2) 724 dL_law_723 rfl (by decide) ?_
  refine a_iadd 725 dL_law_724 rfl ?_
  refine a_iaload_s  726 dL_law_725 rfl rfl v2 ?_
  refine a_callV ok_X11_could ln_L_70 in_X11_could rfl 729 dL_law_726 rfl (c_could q o _ _) (by repeat (first | assumption | (refine rg_ne (by first | decide | omega) ?_) | apply rg_eq | refine rg_fr (by assumption) (by first | decide | (simp; omega)) ?_)) rfl rfl rfl ⟨(Nat.le_of_ble_eq_true rfl), (Nat.le_of_ble_eq_true rfl)⟩ (Nat.le_of_ble_eq_true rfl) ⟨show _ ≤ 600000 by omega, show _ ≤ 7302249 by omega⟩ ?_
  rintro h1 _ ⟨rfl, q1, hk1⟩
  have qm := mAll_kpc I.2.1 hk1
  obtain ⟨i1, j1, qx1⟩ := id qm
  have hm1 := qx1.at
  refine a_aload_n 730 dL_law_729 rfl rfl ?_
  refine a_aload_n 731 dL_law_730 rfl rfl ?_
  refine a_iload_n 732 dL_law_731 rfl rfl ?_
  refine a_iconst (1) 733 dL_law_732 rfl (by decide) ?_
  refine a_iadd 734 dL_law_733 rfl ?_
  refine a_iaload_s  735 dL_law_734 rfl rfl v1 ?_
  refine a_aload_n 736 dL_law_735 rfl rfl ?_
  refine a_iload_n 737 dL_law_736 rfl rfl ?_
  refine a_iconst (2) 738 dL_law_737 rfl (by decide) ?_
  refine a_iadd 739 dL_law_738 rfl ?_
  refine a_iaload_s  740 dL_law_739 rfl rfl v2 ?_
  refine a_callV ok_X12_could ln_L_73 in_X12_could rfl 743 dL_law_740 rfl (m_could qm o _ _) (by repeat (first | assumption | (refine rg_ne (by first | decide | omega) ?_) | apply rg_eq | refine rg_fr (by assumption) (by first | decide | (simp; omega)) ?_)) rfl rfl rfl ⟨(Nat.le_of_ble_eq_true rfl), (Nat.le_of_ble_eq_true rfl)⟩ (Nat.le_of_ble_eq_true rfl) ⟨show _ ≤ 600000 by omega, show _ ≤ 7302249 by omega⟩ ?_
  rintro h2 _ ⟨rfl, q2, hk2⟩
  refine a_icmp_eq 1563 746 dL_law_743 rfl (by decide) (fun c_743 => ?_) (fun c_743 => absurd rfl c_743)
  refine rW_widen (k' := k + 2) (n' := n + 8) (by omega) (by omega) ?_
  exact NX _ _ ⟨cAll_kpm q1 hk2, q2, o, m_len q2⟩
set_option maxRecDepth 100000 in
set_option maxHeartbeats 400000 in
theorem lw_share (hL : gL G ≤ 3072) (hi : i + 6 ≤ gL G) (hk : k ≤ 500000) (hn : n ≤ 7000000) (I : INV G h T) (NX : lwN l G nm i k n) : rW l G room_1 (mLaw nm) (lZ G) k n 748 (lwLs G i) [] h := by
  have q := I.1
  have o := I.2.2.1
  have hlen := I.2.2.2
  have q0 := q.1.1
  obtain ⟨im, jm, qx⟩ := id I.2.1
  have hm := qx.at
  have v1 := lw_ix hL hi 1 1 (by decide) rfl
  have v2 := lw_ix hL hi 2 2 (by decide) rfl
  have v3 := lw_ix hL hi 3 3 (by decide) rfl
  have v4 := lw_ix hL hi 4 4 (by decide) rfl
  refine a_aload_n 749 dL_law_748 rfl rfl ?_
  refine a_aload_n 750 dL_law_749 rfl rfl ?_
  refine a_iload_n 751 dL_law_750 rfl rfl ?_
  refine a_iconst (1) 752 dL_law_751 rfl (by decide) ?_
  refine a_iadd 753 dL_law_752 rfl ?_
  refine a_iaload_s  754 dL_law_753 rfl rfl v1 ?_
  refine a_aload_n 755 dL_law_754 rfl rfl ?_
  refine a_iload_n 756 dL_law_755 rfl rfl ?_
  refine a_iconst (2) 757 dL_law_756 rfl (by decide) ?_
  refine a_iadd 758 dL_law_757 rfl ?_
  refine a_iaload_s  759 dL_law_758 rfl rfl v2 ?_
  refine a_aload_n 760 dL_law_759 rfl rfl ?_
  refine a_iload_n 761 dL_law_760 rfl rfl ?_
  refine a_iconst (3) 762 dL_law_761 rfl (by decide) ?_
  refine a_iadd 763 dL_law_762 rfl ?_
  refine a_iaload_s  764 dL_law_763 rfl rfl v3 ?_
  refine a_aload_n 765 dL_law_764 rfl rfl ?_
  refine a_iload_n 766 dL_law_765 rfl rfl ?_
  refine a_iconst (4) 767 dL_law_766 rfl (by decide) ?_
  refine a_iadd 768 dL_law_767 rfl ?_
  refine a_iaload_s  769 dL_law_768 rfl rfl v4 ?_
  refine a_callV ok_X11_share ln_L_74 in_X11_share rfl 772 dL_law_769 rfl (c_share q o _ _ _ _) (by repeat (first | assumption | (refine rg_ne (by first | decide | omega) ?_) | apply rg_eq | refine rg_fr (by assumption) (by first | decide | (simp; omega)) ?_)) rfl rfl rfl ⟨(Nat.le_of_ble_eq_true rfl), (Nat.le_of_ble_eq_true rfl)⟩ (Nat.le_of_ble_eq_true rfl) ⟨show _ ≤ 600000 by omega, show _ ≤ 7302249 by omega⟩ ?_
  rintro h1 _ ⟨rfl, q1, hk1⟩
  have qm := mAll_kpc I.2.1 hk1
  obtain ⟨i1, j1, qx1⟩ := id qm
  have hm1 := qx1.at
  refine a_aload_n 773 dL_law_772 rfl rfl ?_
  refine a_aload_n 774 dL_law_773 rfl rfl ?_
  refine a_iload_n 775 dL_law_774 rfl rfl ?_
  refine a_iconst (1) 776 dL_law_775 rfl (by decide) ?_
  refine a_iadd 777 dL_law_776 rfl ?_
  refine a_iaload_s  778 dL_law_777 rfl rfl v1 ?_
  refine a_aload_n 779 dL_law_778 rfl rfl ?_
  refine a_iload_n 780 dL_law_779 rfl rfl ?_
  refine a_iconst (2) 781 dL_law_780 rfl (by decide) ?_
  refine a_iadd 782 dL_law_781 rfl ?_
  refine a_iaload_s  783 dL_law_782 rfl rfl v2 ?_
  refine a_aload_n 784 dL_law_783 rfl rfl ?_
  refine a_iload_n 785 dL_law_784 rfl rfl ?_
  refine a_iconst (3) 786 dL_law_785 rfl (by decide) ?_
  refine a_iadd 787 dL_law_786 rfl ?_
  refine a_iaload_s  788 dL_law_787 rfl rfl v3 ?_
  refine a_aload_n 789 dL_law_788 rfl rfl ?_
  refine a_iload_n 790 dL_law_789 rfl rfl ?_
  refine a_iconst (4) 791 dL_law_790 rfl (by decide) ?_
  refine a_iadd 792 dL_law_791 rfl ?_
  refine a_iaload_s  793 dL_law_792 rfl rfl v4 ?_
  refine a_callV ok_X12_share ln_L_78 in_X12_share rfl 796 dL_law_793 rfl (m_share qm o _ _ _ _) (by repeat (first | assumption | (refine rg_ne (by first | decide | omega) ?_) | apply rg_eq | refine rg_fr (by assumption) (by first | decide | (simp; omega)) ?_)) rfl rfl rfl ⟨(Nat.le_of_ble_eq_true rfl), (Nat.le_of_ble_eq_true rfl)⟩ (Nat.le_of_ble_eq_true rfl) ⟨show _ ≤ 600000 by omega, show _ ≤ 7302249 by omega⟩ ?_
  rintro h2 _ ⟨rfl, q2, hk2⟩
  refine a_lcmp 797 dL_law_796 rfl ?_
  refine a_if_eq 1563 800 dL_law_797 rfl (by decide) (fun c_797 => ?_) (fun c_797 => absurd ((lg_cmp_eq _ _).mpr rfl) c_797)
  refine rW_widen (k' := k + 2) (n' := n + 8) (by omega) (by omega) ?_
  exact NX _ _ ⟨cAll_kpm q1 hk2, q2, o, m_len q2⟩
set_option maxRecDepth 100000 in
set_option maxHeartbeats 400000 in
theorem lw_barred (hL : gL G ≤ 3072) (hi : i + 6 ≤ gL G) (hk : k ≤ 500000) (hn : n ≤ 7000000) (I : INV G h T) (NX : lwN l G nm i k n) : rW l G room_1 (mLaw nm) (lZ G) k n 802 (lwLs G i) [] h := by
  have q := I.1
  have o := I.2.2.1
  have hlen := I.2.2.2
  have q0 := q.1.1
  obtain ⟨im, jm, qx⟩ := id I.2.1
  have hm := qx.at
  have v1 := lw_ix hL hi 1 1 (by decide) rfl
  refine a_aload_n 803 dL_law_802 rfl rfl ?_
  refine a_aload_n 804 dL_law_803 rfl rfl ?_
  refine a_iload_n 805 dL_law_804 rfl rfl ?_
  refine a_iconst (1) 806 dL_law_805 rfl (by decide) ?_
  refine a_iadd 807 dL_law_806 rfl ?_
  refine a_iaload_s  808 dL_law_807 rfl rfl v1 ?_
  refine a_callV ok_X11_barred ln_L_79 in_X11_barred rfl 811 dL_law_808 rfl (c_barred q o _) (by repeat (first | assumption | (refine rg_ne (by first | decide | omega) ?_) | apply rg_eq | refine rg_fr (by assumption) (by first | decide | (simp; omega)) ?_)) rfl rfl rfl ⟨(Nat.le_of_ble_eq_true rfl), (Nat.le_of_ble_eq_true rfl)⟩ (Nat.le_of_ble_eq_true rfl) ⟨show _ ≤ 600000 by omega, show _ ≤ 7302249 by omega⟩ ?_
  rintro h1 _ ⟨rfl, q1, hk1⟩
  have qm := mAll_kpc I.2.1 hk1
  obtain ⟨i1, j1, qx1⟩ := id qm
  have hm1 := qx1.at
  refine a_aload_n 812 dL_law_811 rfl rfl ?_
  refine a_aload_n 813 dL_law_812 rfl rfl ?_
  refine a_iload_n 814 dL_law_813 rfl rfl ?_
  refine a_iconst (1) 815 dL_law_814 rfl (by decide) ?_
  refine a_iadd 816 dL_law_815 rfl ?_
  refine a_iaload_s  817 dL_law_816 rfl rfl v1 ?_
  refine a_callV ok_X12_barred ln_L_82 in_X12_barred rfl 820 dL_law_817 rfl (m_barred qm o _) (by repeat (first | assumption | (refine rg_ne (by first | decide | omega) ?_) | apply rg_eq | refine rg_fr (by assumption) (by first | decide | (simp; omega)) ?_)) rfl rfl rfl ⟨(Nat.le_of_ble_eq_true rfl), (Nat.le_of_ble_eq_true rfl)⟩ (Nat.le_of_ble_eq_true rfl) ⟨show _ ≤ 600000 by omega, show _ ≤ 7302249 by omega⟩ ?_
  rintro h2 _ ⟨rfl, q2, hk2⟩
  refine a_icmp_eq 1563 823 dL_law_820 rfl (by decide) (fun c_820 => ?_) (fun c_820 => absurd rfl c_820)
  refine rW_widen (k' := k + 2) (n' := n + 8) (by omega) (by omega) ?_
  exact NX _ _ ⟨cAll_kpm q1 hk2, q2, o, m_len q2⟩
set_option maxRecDepth 100000 in
set_option maxHeartbeats 400000 in
theorem lw_trees (hL : gL G ≤ 3072) (hi : i + 6 ≤ gL G) (hk : k ≤ 500000) (hn : n ≤ 7000000) (I : INV G h T) (NX : lwN l G nm i k n) : rW l G room_1 (mLaw nm) (lZ G) k n 825 (lwLs G i) [] h := by
  have q := I.1
  have o := I.2.2.1
  have hlen := I.2.2.2
  have q0 := q.1.1
  obtain ⟨im, jm, qx⟩ := id I.2.1
  have hm := qx.at
  have v1 := lw_ix hL hi 1 1 (by decide) rfl
  refine a_aload_n 826 dL_law_825 rfl rfl ?_
  refine a_aload_n 827 dL_law_826 rfl rfl ?_
  refine a_iload_n 828 dL_law_827 rfl rfl ?_
  refine a_iconst (1) 829 dL_law_828 rfl (by decide) ?_
  refine a_iadd 830 dL_law_829 rfl ?_
  refine a_iaload_s  831 dL_law_830 rfl rfl v1 ?_
  refine a_callV ok_X11_trees ln_L_83 in_X11_trees rfl 834 dL_law_831 rfl (c_trees q o _) (by repeat (first | assumption | (refine rg_ne (by first | decide | omega) ?_) | apply rg_eq | refine rg_fr (by assumption) (by first | decide | (simp; omega)) ?_)) rfl rfl rfl ⟨(Nat.le_of_ble_eq_true rfl), (Nat.le_of_ble_eq_true rfl)⟩ (Nat.le_of_ble_eq_true rfl) ⟨show _ ≤ 600000 by omega, show _ ≤ 7302249 by omega⟩ ?_
  rintro h1 _ ⟨rfl, q1, hk1⟩
  have qm := mAll_kpc I.2.1 hk1
  obtain ⟨i1, j1, qx1⟩ := id qm
  have hm1 := qx1.at
  refine a_aload_n 835 dL_law_834 rfl rfl ?_
  refine a_aload_n 836 dL_law_835 rfl rfl ?_
  refine a_iload_n 837 dL_law_836 rfl rfl ?_
  refine a_iconst (1) 838 dL_law_837 rfl (by decide) ?_
  refine a_iadd 839 dL_law_838 rfl ?_
  refine a_iaload_s  840 dL_law_839 rfl rfl v1 ?_
  refine a_callV ok_X12_trees ln_L_86 in_X12_trees rfl 843 dL_law_840 rfl (m_trees qm o _) (by repeat (first | assumption | (refine rg_ne (by first | decide | omega) ?_) | apply rg_eq | refine rg_fr (by assumption) (by first | decide | (simp; omega)) ?_)) rfl rfl rfl ⟨(Nat.le_of_ble_eq_true rfl), (Nat.le_of_ble_eq_true rfl)⟩ (Nat.le_of_ble_eq_true rfl) ⟨show _ ≤ 600000 by omega, show _ ≤ 7302249 by omega⟩ ?_
  rintro h2 _ ⟨rfl, q2, hk2⟩
  refine a_icmp_eq 1563 846 dL_law_843 rfl (by decide) (fun c_843 => ?_) (fun c_843 => absurd rfl c_843)
  refine rW_widen (k' := k + 2) (n' := n + 8) (by omega) (by omega) ?_
  exact NX _ _ ⟨cAll_kpm q1 hk2, q2, o, m_len q2⟩
set_option maxRecDepth 100000 in
set_option maxHeartbeats 400000 in
theorem lw_causes (hL : gL G ≤ 3072) (hi : i + 6 ≤ gL G) (hk : k ≤ 500000) (hn : n ≤ 7000000) (I : INV G h T) (NX : lwN l G nm i k n) : rW l G room_1 (mLaw nm) (lZ G) k n 848 (lwLs G i) [] h := by
  have q := I.1
  have o := I.2.2.1
  have hlen := I.2.2.2
  have q0 := q.1.1
  obtain ⟨im, jm, qx⟩ := id I.2.1
  have hm := qx.at
  have v1 := lw_ix hL hi 1 1 (by decide) rfl
  have v2 := lw_ix hL hi 2 2 (by decide) rfl
  refine a_aload_n 849 dL_law_848 rfl rfl ?_
  refine a_aload_n 850 dL_law_849 rfl rfl ?_
  refine a_iload_n 851 dL_law_850 rfl rfl ?_
  refine a_iconst (1) 852 dL_law_851 rfl (by decide) ?_
  refine a_iadd 853 dL_law_852 rfl ?_
  refine a_iaload_s  854 dL_law_853 rfl rfl v1 ?_
  refine a_aload_n 855 dL_law_854 rfl rfl ?_
  refine a_iload_n 856 dL_law_855 rfl rfl ?_
  refine a_iconst (2) 857 dL_law_856 rfl (by decide) ?_
  refine a_iadd 858 dL_law_857 rfl ?_
  refine a_iaload_s  859 dL_law_858 rfl rfl v2 ?_
  refine a_callV ok_X11_causes ln_L_87 in_X11_causes rfl 862 dL_law_859 rfl (c_causes q o _ _) (by repeat (first | assumption | (refine rg_ne (by first | decide | omega) ?_) | apply rg_eq | refine rg_fr (by assumption) (by first | decide | (simp; omega)) ?_)) rfl rfl rfl ⟨(Nat.le_of_ble_eq_true rfl), (Nat.le_of_ble_eq_true rfl)⟩ (Nat.le_of_ble_eq_true rfl) ⟨show _ ≤ 600000 by omega, show _ ≤ 7302249 by omega⟩ ?_
  rintro h1 _ ⟨rfl, q1, hk1⟩
  have qm := mAll_kpc I.2.1 hk1
  obtain ⟨i1, j1, qx1⟩ := id qm
  have hm1 := qx1.at
  refine a_aload_n 863 dL_law_862 rfl rfl ?_
  refine a_aload_n 864 dL_law_863 rfl rfl ?_
  refine a_iload_n 865 dL_law_864 rfl rfl ?_
  refine a_iconst (1) 866 dL_law_865 rfl (by decide) ?_
  refine a_iadd 867 dL_law_866 rfl ?_
  refine a_iaload_s  868 dL_law_867 rfl rfl v1 ?_
  refine a_aload_n 869 dL_law_868 rfl rfl ?_
  refine a_iload_n 870 dL_law_869 rfl rfl ?_
  refine a_iconst (2) 871 dL_law_870 rfl (by decide) ?_
  refine a_iadd 872 dL_law_871 rfl ?_
  refine a_iaload_s  873 dL_law_872 rfl rfl v2 ?_
  refine a_callV ok_X12_causes ln_L_90 in_X12_causes rfl 876 dL_law_873 rfl (m_causes qm o _ _) (by repeat (first | assumption | (refine rg_ne (by first | decide | omega) ?_) | apply rg_eq | refine rg_fr (by assumption) (by first | decide | (simp; omega)) ?_)) rfl rfl rfl ⟨(Nat.le_of_ble_eq_true rfl), (Nat.le_of_ble_eq_true rfl)⟩ (Nat.le_of_ble_eq_true rfl) ⟨show _ ≤ 600000 by omega, show _ ≤ 7302249 by omega⟩ ?_
  rintro h2 _ ⟨rfl, q2, hk2⟩
  refine a_icmp_eq 1563 879 dL_law_876 rfl (by decide) (fun c_876 => ?_) (fun c_876 => absurd rfl c_876)
  refine rW_widen (k' := k + 2) (n' := n + 8) (by omega) (by omega) ?_
  exact NX _ _ ⟨cAll_kpm q1 hk2, q2, o, m_len q2⟩
set_option maxRecDepth 100000 in
set_option maxHeartbeats 400000 in
theorem lw_most (hL : gL G ≤ 3072) (hi : i + 6 ≤ gL G) (hk : k ≤ 500000) (hn : n ≤ 7000000) (I : INV G h T) (NX : lwN l G nm i k n) : rW l G room_1 (mLaw nm) (lZ G) k n 881 (lwLs G i) [] h := by
  have q := I.1
  have o := I.2.2.1
  have hlen := I.2.2.2
  have q0 := q.1.1
  obtain ⟨im, jm, qx⟩ := id I.2.1
  have hm := qx.at
  have v1 := lw_ix hL hi 1 1 (by decide) rfl
  refine a_aload_n 882 dL_law_881 rfl rfl ?_
  refine a_aload_n 883 dL_law_882 rfl rfl ?_
  refine a_iload_n 884 dL_law_883 rfl rfl ?_
  refine a_iconst (1) 885 dL_law_884 rfl (by decide) ?_
  refine a_iadd 886 dL_law_885 rfl ?_
  refine a_iaload_s  887 dL_law_886 rfl rfl v1 ?_
  refine a_callV ok_X11_most ln_L_91 in_X11_most rfl 890 dL_law_887 rfl (c_most q o _) (by repeat (first | assumption | (refine rg_ne (by first | decide | omega) ?_) | apply rg_eq | refine rg_fr (by assumption) (by first | decide | (simp; omega)) ?_)) rfl rfl rfl ⟨(Nat.le_of_ble_eq_true rfl), (Nat.le_of_ble_eq_true rfl)⟩ (Nat.le_of_ble_eq_true rfl) ⟨show _ ≤ 600000 by omega, show _ ≤ 7302249 by omega⟩ ?_
  rintro h1 _ ⟨rfl, q1, hk1⟩
  have qm := mAll_kpc I.2.1 hk1
  obtain ⟨i1, j1, qx1⟩ := id qm
  have hm1 := qx1.at
  refine a_aload_n 891 dL_law_890 rfl rfl ?_
  refine a_aload_n 892 dL_law_891 rfl rfl ?_
  refine a_iload_n 893 dL_law_892 rfl rfl ?_
  refine a_iconst (1) 894 dL_law_893 rfl (by decide) ?_
  refine a_iadd 895 dL_law_894 rfl ?_
  refine a_iaload_s  896 dL_law_895 rfl rfl v1 ?_
  refine a_callV ok_X12_most ln_L_94 in_X12_most rfl 899 dL_law_896 rfl (m_most qm o _) (by repeat (first | assumption | (refine rg_ne (by first | decide | omega) ?_) | apply rg_eq | refine rg_fr (by assumption) (by first | decide | (simp; omega)) ?_)) rfl rfl rfl ⟨(Nat.le_of_ble_eq_true rfl), (Nat.le_of_ble_eq_true rfl)⟩ (Nat.le_of_ble_eq_true rfl) ⟨show _ ≤ 600000 by omega, show _ ≤ 7302249 by omega⟩ ?_
  rintro h2 _ ⟨rfl, q2, hk2⟩
  refine a_icmp_eq 1563 902 dL_law_899 rfl (by decide) (fun c_899 => ?_) (fun c_899 => absurd rfl c_899)
  refine rW_widen (k' := k + 2) (n' := n + 8) (by omega) (by omega) ?_
  exact NX _ _ ⟨cAll_kpm q1 hk2, q2, o, m_len q2⟩
set_option maxRecDepth 100000 in
set_option maxHeartbeats 400000 in
theorem lw_goesOn (hL : gL G ≤ 3072) (hi : i + 6 ≤ gL G) (hk : k ≤ 500000) (hn : n ≤ 7000000) (I : INV G h T) (NX : lwN l G nm i k n) : rW l G room_1 (mLaw nm) (lZ G) k n 904 (lwLs G i) [] h := by
  have q := I.1
  have o := I.2.2.1
  have hlen := I.2.2.2
  have q0 := q.1.1
  obtain ⟨im, jm, qx⟩ := id I.2.1
  have hm := qx.at
  have v1 := lw_ix hL hi 1 1 (by decide) rfl
  refine a_aload_n 905 dL_law_904 rfl rfl ?_
  refine a_aload_n 906 dL_law_905 rfl rfl ?_
  refine a_iload_n 907 dL_law_906 rfl rfl ?_
  refine a_iconst (1) 908 dL_law_907 rfl (by decide) ?_
  refine a_iadd 909 dL_law_908 rfl ?_
  refine a_iaload_s  910 dL_law_909 rfl rfl v1 ?_
  refine a_callV ok_X11_goesOn ln_L_95 in_X11_goesOn rfl 913 dL_law_910 rfl (c_goesOn q o _) (by repeat (first | assumption | (refine rg_ne (by first | decide | omega) ?_) | apply rg_eq | refine rg_fr (by assumption) (by first | decide | (simp; omega)) ?_)) rfl rfl rfl ⟨(Nat.le_of_ble_eq_true rfl), (Nat.le_of_ble_eq_true rfl)⟩ (Nat.le_of_ble_eq_true rfl) ⟨show _ ≤ 600000 by omega, show _ ≤ 7302249 by omega⟩ ?_
  rintro h1 _ ⟨rfl, q1, hk1⟩
  have qm := mAll_kpc I.2.1 hk1
  obtain ⟨i1, j1, qx1⟩ := id qm
  have hm1 := qx1.at
  refine a_aload_n 914 dL_law_913 rfl rfl ?_
  refine a_aload_n 915 dL_law_914 rfl rfl ?_
  refine a_iload_n 916 dL_law_915 rfl rfl ?_
  refine a_iconst (1) 917 dL_law_916 rfl (by decide) ?_
  refine a_iadd 918 dL_law_917 rfl ?_
  refine a_iaload_s  919 dL_law_918 rfl rfl v1 ?_
  refine a_callV ok_X12_goesOn ln_L_98 in_X12_goesOn rfl 922 dL_law_919 rfl (m_goesOn qm o _) (by repeat (first | assumption | (refine rg_ne (by first | decide | omega) ?_) | apply rg_eq | refine rg_fr (by assumption) (by first | decide | (simp; omega)) ?_)) rfl rfl rfl ⟨(Nat.le_of_ble_eq_true rfl), (Nat.le_of_ble_eq_true rfl)⟩ (Nat.le_of_ble_eq_true rfl) ⟨show _ ≤ 600000 by omega, show _ ≤ 7302249 by omega⟩ ?_
  rintro h2 _ ⟨rfl, q2, hk2⟩
  refine a_icmp_eq 1563 925 dL_law_922 rfl (by decide) (fun c_922 => ?_) (fun c_922 => absurd rfl c_922)
  refine rW_widen (k' := k + 2) (n' := n + 8) (by omega) (by omega) ?_
  exact NX _ _ ⟨cAll_kpm q1 hk2, q2, o, m_len q2⟩
set_option maxRecDepth 100000 in
set_option maxHeartbeats 400000 in
theorem lw_chain (hL : gL G ≤ 3072) (hi : i + 6 ≤ gL G) (hk : k ≤ 500000) (hn : n ≤ 7000000) (I : INV G h T) (NX : lwN l G nm i k n) : rW l G room_1 (mLaw nm) (lZ G) k n 927 (lwLs G i) [] h := by
  have q := I.1
  have o := I.2.2.1
  have hlen := I.2.2.2
  have q0 := q.1.1
  obtain ⟨im, jm, qx⟩ := id I.2.1
  have hm := qx.at
  have v1 := lw_ix hL hi 1 1 (by decide) rfl
  refine a_aload_n 928 dL_law_927 rfl rfl ?_
  refine a_aload_n 929 dL_law_928 rfl rfl ?_
  refine a_iload_n 930 dL_law_929 rfl rfl ?_
  refine a_iconst (1) 931 dL_law_930 rfl (by decide) ?_
  refine a_iadd 932 dL_law_931 rfl ?_
  refine a_iaload_s  933 dL_law_932 rfl rfl v1 ?_
  refine a_callV ok_X11_chain ln_L_99 in_X11_chain rfl 936 dL_law_933 rfl (c_chain q o _) (by repeat (first | assumption | (refine rg_ne (by first | decide | omega) ?_) | apply rg_eq | refine rg_fr (by assumption) (by first | decide | (simp; omega)) ?_)) rfl rfl rfl ⟨(Nat.le_of_ble_eq_true rfl), (Nat.le_of_ble_eq_true rfl)⟩ (Nat.le_of_ble_eq_true rfl) ⟨show _ ≤ 600000 by omega, show _ ≤ 7302249 by omega⟩ ?_
  rintro h1 _ ⟨rfl, q1, hk1⟩
  have qm := mAll_kpc I.2.1 hk1
  obtain ⟨i1, j1, qx1⟩ := id qm
  have hm1 := qx1.at
  refine a_aload_n 937 dL_law_936 rfl rfl ?_
  refine a_aload_n 938 dL_law_937 rfl rfl ?_
  refine a_iload_n 939 dL_law_938 rfl rfl ?_
  refine a_iconst (1) 940 dL_law_939 rfl (by decide) ?_
  refine a_iadd 941 dL_law_940 rfl ?_
  refine a_iaload_s  942 dL_law_941 rfl rfl v1 ?_
  refine a_callV ok_X12_chain ln_L_102 in_X12_chain rfl 945 dL_law_942 rfl (m_chain qm o _) (by repeat (first | assumption | (refine rg_ne (by first | decide | omega) ?_) | apply rg_eq | refine rg_fr (by assumption) (by first | decide | (simp; omega)) ?_)) rfl rfl rfl ⟨(Nat.le_of_ble_eq_true rfl), (Nat.le_of_ble_eq_true rfl)⟩ (Nat.le_of_ble_eq_true rfl) ⟨show _ ≤ 600000 by omega, show _ ≤ 7302249 by omega⟩ ?_
  rintro h2 _ ⟨rfl, q2, hk2⟩
  refine a_icmp_eq 1563 948 dL_law_945 rfl (by decide) (fun c_945 => ?_) (fun c_945 => absurd rfl c_945)
  refine rW_widen (k' := k + 2) (n' := n + 8) (by omega) (by omega) ?_
  exact NX _ _ ⟨cAll_kpm q1 hk2, q2, o, m_len q2⟩
set_option maxRecDepth 100000 in
set_option maxHeartbeats 400000 in
theorem lw_missed (hL : gL G ≤ 3072) (hi : i + 6 ≤ gL G) (hk : k ≤ 500000) (hn : n ≤ 7000000) (I : INV G h T) (NX : lwN l G nm i k n) : rW l G room_1 (mLaw nm) (lZ G) k n 950 (lwLs G i) [] h := by
  have q := I.1
  have o := I.2.2.1
  have hlen := I.2.2.2
  have q0 := q.1.1
  obtain ⟨im, jm, qx⟩ := id I.2.1
  have hm := qx.at
  have v1 := lw_ix hL hi 1 1 (by decide) rfl
  have v2 := lw_ix hL hi 2 2 (by decide) rfl
  refine a_aload_n 951 dL_law_950 rfl rfl ?_
  refine a_aload_n 952 dL_law_951 rfl rfl ?_
  refine a_iload_n 953 dL_law_952 rfl rfl ?_
  refine a_iconst (1) 954 dL_law_953 rfl (by decide) ?_
  refine a_iadd 955 dL_law_954 rfl ?_
  refine a_iaload_s  956 dL_law_955 rfl rfl v1 ?_
  refine a_aload_n 957 dL_law_956 rfl rfl ?_
  refine a_iload_n 958 dL_law_957 rfl rfl ?_
  refine a_iconst (2) 959 dL_law_958 rfl (by decide) ?_
  refine a_iadd 960 dL_law_959 rfl ?_
  refine a_iaload_s  961 dL_law_960 rfl rfl v2 ?_
  refine a_callV ok_X11_missed ln_L_103 in_X11_missed rfl 964 dL_law_961 rfl (c_missed q o _ _) (by repeat (first | assumption | (refine rg_ne (by first | decide | omega) ?_) | apply rg_eq | refine rg_fr (by assumption) (by first | decide | (simp; omega)) ?_)) rfl rfl rfl ⟨(Nat.le_of_ble_eq_true rfl), (Nat.le_of_ble_eq_true rfl)⟩ (Nat.le_of_ble_eq_true rfl) ⟨show _ ≤ 600000 by omega, show _ ≤ 7302249 by omega⟩ ?_
  rintro h1 _ ⟨rfl, q1, hk1⟩
  have qm := mAll_kpc I.2.1 hk1
  obtain ⟨i1, j1, qx1⟩ := id qm
  have hm1 := qx1.at
  refine a_aload_n 965 dL_law_964 rfl rfl ?_
  refine a_aload_n 966 dL_law_965 rfl rfl ?_
  refine a_iload_n 967 dL_law_966 rfl rfl ?_
  refine a_iconst (1) 968 dL_law_967 rfl (by decide) ?_
  refine a_iadd 969 dL_law_968 rfl ?_
  refine a_iaload_s  970 dL_law_969 rfl rfl v1 ?_
  refine a_aload_n 971 dL_law_970 rfl rfl ?_
  refine a_iload_n 972 dL_law_971 rfl rfl ?_
  refine a_iconst (2) 973 dL_law_972 rfl (by decide) ?_
  refine a_iadd 974 dL_law_973 rfl ?_
  refine a_iaload_s  975 dL_law_974 rfl rfl v2 ?_
  refine a_callV ok_X12_missed ln_L_106 in_X12_missed rfl 978 dL_law_975 rfl (m_missed qm o _ _) (by repeat (first | assumption | (refine rg_ne (by first | decide | omega) ?_) | apply rg_eq | refine rg_fr (by assumption) (by first | decide | (simp; omega)) ?_)) rfl rfl rfl ⟨(Nat.le_of_ble_eq_true rfl), (Nat.le_of_ble_eq_true rfl)⟩ (Nat.le_of_ble_eq_true rfl) ⟨show _ ≤ 600000 by omega, show _ ≤ 7302249 by omega⟩ ?_
  rintro h2 _ ⟨rfl, q2, hk2⟩
  refine a_icmp_eq 1563 981 dL_law_978 rfl (by decide) (fun c_978 => ?_) (fun c_978 => absurd rfl c_978)
  refine rW_widen (k' := k + 2) (n' := n + 8) (by omega) (by omega) ?_
  exact NX _ _ ⟨cAll_kpm q1 hk2, q2, o, m_len q2⟩
set_option maxRecDepth 100000 in
set_option maxHeartbeats 400000 in
theorem lw_night (hL : gL G ≤ 3072) (hi : i + 6 ≤ gL G) (hk : k ≤ 500000) (hn : n ≤ 7000000) (I : INV G h T) (NX : lwN l G nm i k n) : rW l G room_1 (mLaw nm) (lZ G) k n 983 (lwLs G i) [] h := by
  have q := I.1
  have o := I.2.2.1
  have hlen := I.2.2.2
  have q0 := q.1.1
  obtain ⟨im, jm, qx⟩ := id I.2.1
  have hm := qx.at
  have v1 := lw_ix hL hi 1 1 (by decide) rfl
  have v2 := lw_ix hL hi 2 2 (by decide) rfl
  have v3 := lw_ix hL hi 3 3 (by decide) rfl
  have v4 := lw_ix hL hi 4 4 (by decide) rfl
  have v5 := lw_ix hL hi 5 5 (by decide) rfl
  refine a_aload_n 984 dL_law_983 rfl rfl ?_
  refine a_aload_n 985 dL_law_984 rfl rfl ?_
  refine a_iload_n 986 dL_law_985 rfl rfl ?_
  refine a_iconst (1) 987 dL_law_986 rfl (by decide) ?_
  refine a_iadd 988 dL_law_987 rfl ?_
  refine a_iaload_s  989 dL_law_988 rfl rfl v1 ?_
  refine a_aload_n 990 dL_law_989 rfl rfl ?_
  refine a_iload_n 991 dL_law_990 rfl rfl ?_
  refine a_iconst (2) 992 dL_law_991 rfl (by decide) ?_
  refine a_iadd 993 dL_law_992 rfl ?_
  refine a_iaload_s  994 dL_law_993 rfl rfl v2 ?_
  refine a_aload_n 995 dL_law_994 rfl rfl ?_
  refine a_iload_n 996 dL_law_995 rfl rfl ?_
  refine a_iconst (3) 997 dL_law_996 rfl (by decide) ?_
  refine a_iadd 998 dL_law_997 rfl ?_
  refine a_iaload_s  999 dL_law_998 rfl rfl v3 ?_
  refine a_aload_n 1000 dL_law_999 rfl rfl ?_
  refine a_iload_n 1001 dL_law_1000 rfl rfl ?_
  refine a_iconst (4) 1002 dL_law_1001 rfl (by decide) ?_
  refine a_iadd 1003 dL_law_1002 rfl ?_
  refine a_iaload_s  1004 dL_law_1003 rfl rfl v4 ?_
  refine a_aload_n 1005 dL_law_1004 rfl rfl ?_
  refine a_iload_n 1006 dL_law_1005 rfl rfl ?_
  refine a_iconst (5) 1007 dL_law_1006 rfl (by decide) ?_
  refine a_iadd 1008 dL_law_1007 rfl ?_
  refine a_iaload_s  1009 dL_law_1008 rfl rfl v5 ?_
  refine a_callV ok_X11_night ln_L_107 in_X11_night rfl 1012 dL_law_1009 rfl (c_night q o _ _ _ _ _) (by repeat (first | assumption | (refine rg_ne (by first | decide | omega) ?_) | apply rg_eq | refine rg_fr (by assumption) (by first | decide | (simp; omega)) ?_)) rfl rfl rfl ⟨(Nat.le_of_ble_eq_true rfl), (Nat.le_of_ble_eq_true rfl)⟩ (Nat.le_of_ble_eq_true rfl) ⟨show _ ≤ 600000 by omega, show _ ≤ 7302249 by omega⟩ ?_
  rintro h1 _ ⟨rfl, q1, hk1⟩
  have qm := mAll_kpc I.2.1 hk1
  obtain ⟨i1, j1, qx1⟩ := id qm
  have hm1 := qx1.at
  refine a_aload_n 1013 dL_law_1012 rfl rfl ?_
  refine a_aload_n 1014 dL_law_1013 rfl rfl ?_
  refine a_iload_n 1015 dL_law_1014 rfl rfl ?_
  refine a_iconst (1) 1016 dL_law_1015 rfl (by decide) ?_
  refine a_iadd 1017 dL_law_1016 rfl ?_
  refine a_iaload_s  1018 dL_law_1017 rfl rfl v1 ?_
  refine a_aload_n 1019 dL_law_1018 rfl rfl ?_
  refine a_iload_n 1020 dL_law_1019 rfl rfl ?_
  refine a_iconst (2) 1021 dL_law_1020 rfl (by decide) ?_
  refine a_iadd 1022 dL_law_1021 rfl ?_
  refine a_iaload_s  1023 dL_law_1022 rfl rfl v2 ?_
  refine a_aload_n 1024 dL_law_1023 rfl rfl ?_
  refine a_iload_n 1025 dL_law_1024 rfl rfl ?_
  refine a_iconst (3) 1026 dL_law_1025 rfl (by decide) ?_
  refine a_iadd 1027 dL_law_1026 rfl ?_
  refine a_iaload_s  1028 dL_law_1027 rfl rfl v3 ?_
  refine a_aload_n 1029 dL_law_1028 rfl rfl ?_
  refine a_iload_n 1030 dL_law_1029 rfl rfl ?_
  refine a_iconst (4) 1031 dL_law_1030 rfl (by decide) ?_
  refine a_iadd 1032 dL_law_1031 rfl ?_
  refine a_iaload_s  1033 dL_law_1032 rfl rfl v4 ?_
  refine a_aload_n 1034 dL_law_1033 rfl rfl ?_
  refine a_iload_n 1035 dL_law_1034 rfl rfl ?_
  refine a_iconst (5) 1036 dL_law_1035 rfl (by decide) ?_
  refine a_iadd 1037 dL_law_1036 rfl ?_
  refine a_iaload_s  1038 dL_law_1037 rfl rfl v5 ?_
  refine a_callV ok_X12_night ln_L_111 in_X12_night rfl 1041 dL_law_1038 rfl (m_night qm o _ _ _ _ _) (by repeat (first | assumption | (refine rg_ne (by first | decide | omega) ?_) | apply rg_eq | refine rg_fr (by assumption) (by first | decide | (simp; omega)) ?_)) rfl rfl rfl ⟨(Nat.le_of_ble_eq_true rfl), (Nat.le_of_ble_eq_true rfl)⟩ (Nat.le_of_ble_eq_true rfl) ⟨show _ ≤ 600000 by omega, show _ ≤ 7302249 by omega⟩ ?_
  rintro h2 _ ⟨rfl, q2, hk2⟩
  refine a_icmp_eq 1563 1044 dL_law_1041 rfl (by decide) (fun c_1041 => ?_) (fun c_1041 => absurd rfl c_1041)
  refine rW_widen (k' := k + 2) (n' := n + 8) (by omega) (by omega) ?_
  exact NX _ _ ⟨cAll_kpm q1 hk2, q2, ok_night o _ _ _ _ _, m_len q2⟩
set_option maxRecDepth 100000 in
set_option maxHeartbeats 400000 in
theorem lw_spread (hL : gL G ≤ 3072) (hi : i + 6 ≤ gL G) (hk : k ≤ 500000) (hn : n ≤ 7000000) (I : INV G h T) (NX : lwN l G nm i k n) : rW l G room_1 (mLaw nm) (lZ G) k n 1046 (lwLs G i) [] h := by
  have q := I.1
  have o := I.2.2.1
  have hlen := I.2.2.2
  have q0 := q.1.1
  obtain ⟨im, jm, qx⟩ := id I.2.1
  have hm := qx.at
  have v1 := lw_ix hL hi 1 1 (by decide) rfl
  refine a_aload_n 1047 dL_law_1046 rfl rfl ?_
  refine a_aload_n 1048 dL_law_1047 rfl rfl ?_
  refine a_iload_n 1049 dL_law_1048 rfl rfl ?_
  refine a_iconst (1) 1050 dL_law_1049 rfl (by decide) ?_
  refine a_iadd 1051 dL_law_1050 rfl ?_
  refine a_iaload_s  1052 dL_law_1051 rfl rfl v1 ?_
  refine a_callV ok_X11_spread ln_L_112 in_X11_spread rfl 1055 dL_law_1052 rfl (c_spread q o _) (by repeat (first | assumption | (refine rg_ne (by first | decide | omega) ?_) | apply rg_eq | refine rg_fr (by assumption) (by first | decide | (simp; omega)) ?_)) rfl rfl rfl ⟨(Nat.le_of_ble_eq_true rfl), (Nat.le_of_ble_eq_true rfl)⟩ (Nat.le_of_ble_eq_true rfl) ⟨show _ ≤ 600000 by omega, show _ ≤ 7302249 by omega⟩ ?_
  rintro h1 _ ⟨rfl, q1, hk1⟩
  have qm := mAll_kpc I.2.1 hk1
  obtain ⟨i1, j1, qx1⟩ := id qm
  have hm1 := qx1.at
  refine a_aload_n 1056 dL_law_1055 rfl rfl ?_
  refine a_aload_n 1057 dL_law_1056 rfl rfl ?_
  refine a_iload_n 1058 dL_law_1057 rfl rfl ?_
  refine a_iconst (1) 1059 dL_law_1058 rfl (by decide) ?_
  refine a_iadd 1060 dL_law_1059 rfl ?_
  refine a_iaload_s  1061 dL_law_1060 rfl rfl v1 ?_
  refine a_callV ok_X12_spread ln_L_115 in_X12_spread rfl 1064 dL_law_1061 rfl (m_spread qm o _) (by repeat (first | assumption | (refine rg_ne (by first | decide | omega) ?_) | apply rg_eq | refine rg_fr (by assumption) (by first | decide | (simp; omega)) ?_)) rfl rfl rfl ⟨(Nat.le_of_ble_eq_true rfl), (Nat.le_of_ble_eq_true rfl)⟩ (Nat.le_of_ble_eq_true rfl) ⟨show _ ≤ 600000 by omega, show _ ≤ 7302249 by omega⟩ ?_
  rintro h2 _ ⟨rfl, q2, hk2⟩
  refine a_icmp_eq 1563 1067 dL_law_1064 rfl (by decide) (fun c_1064 => ?_) (fun c_1064 => absurd rfl c_1064)
  refine rW_widen (k' := k + 2) (n' := n + 8) (by omega) (by omega) ?_
  exact NX _ _ ⟨cAll_kpm q1 hk2, q2, o, m_len q2⟩
set_option maxRecDepth 100000 in
set_option maxHeartbeats 400000 in
theorem lw_blinds (hL : gL G ≤ 3072) (hi : i + 6 ≤ gL G) (hk : k ≤ 500000) (hn : n ≤ 7000000) (I : INV G h T) (NX : lwN l G nm i k n) : rW l G room_1 (mLaw nm) (lZ G) k n 1069 (lwLs G i) [] h := by
  have q := I.1
  have o := I.2.2.1
  have hlen := I.2.2.2
  have q0 := q.1.1
  obtain ⟨im, jm, qx⟩ := id I.2.1
  have hm := qx.at
  have v1 := lw_ix hL hi 1 1 (by decide) rfl
  have v2 := lw_ix hL hi 2 2 (by decide) rfl
  have v3 := lw_ix hL hi 3 3 (by decide) rfl
  refine a_aload_n 1070 dL_law_1069 rfl rfl ?_
  refine a_aload_n 1071 dL_law_1070 rfl rfl ?_
  refine a_iload_n 1072 dL_law_1071 rfl rfl ?_
  refine a_iconst (1) 1073 dL_law_1072 rfl (by decide) ?_
  refine a_iadd 1074 dL_law_1073 rfl ?_
  refine a_iaload_s  1075 dL_law_1074 rfl rfl v1 ?_
  refine a_aload_n 1076 dL_law_1075 rfl rfl ?_
  refine a_iload_n 1077 dL_law_1076 rfl rfl ?_
  refine a_iconst (2) 1078 dL_law_1077 rfl (by decide) ?_
  refine a_iadd 1079 dL_law_1078 rfl ?_
  refine a_iaload_s  1080 dL_law_1079 rfl rfl v2 ?_
  refine a_aload_n 1081 dL_law_1080 rfl rfl ?_
  refine a_iload_n 1082 dL_law_1081 rfl rfl ?_
  refine a_iconst (3) 1083 dL_law_1082 rfl (by decide) ?_
  refine a_iadd 1084 dL_law_1083 rfl ?_
  refine a_iaload_s  1085 dL_law_1084 rfl rfl v3 ?_
  refine a_callV ok_X11_blinds ln_L_116 in_X11_blinds rfl 1088 dL_law_1085 rfl (c_blinds q o (gl_ok o) _ _ _) (by repeat (first | assumption | (refine rg_ne (by first | decide | omega) ?_) | apply rg_eq | refine rg_fr (by assumption) (by first | decide | (simp; omega)) ?_)) rfl rfl rfl ⟨(Nat.le_of_ble_eq_true rfl), (Nat.le_of_ble_eq_true rfl)⟩ (Nat.le_of_ble_eq_true rfl) ⟨show _ ≤ 600000 by omega, show _ ≤ 7302249 by omega⟩ ?_
  rintro h1 _ ⟨a1, rfl, b1, q1, hk1⟩
  have qm := mAll_kpc I.2.1 hk1
  obtain ⟨i1, j1, qx1⟩ := id qm
  have hm1 := qx1.at
  refine a_aload_n 1089 dL_law_1088 rfl rfl ?_
  refine a_aload_n 1090 dL_law_1089 rfl rfl ?_
  refine a_iload_n 1091 dL_law_1090 rfl rfl ?_
  refine a_iconst (1) 1092 dL_law_1091 rfl (by decide) ?_
  refine a_iadd 1093 dL_law_1092 rfl ?_
  refine a_iaload_s  1094 dL_law_1093 rfl rfl v1 ?_
  refine a_aload_n 1095 dL_law_1094 rfl rfl ?_
  refine a_iload_n 1096 dL_law_1095 rfl rfl ?_
  refine a_iconst (2) 1097 dL_law_1096 rfl (by decide) ?_
  refine a_iadd 1098 dL_law_1097 rfl ?_
  refine a_iaload_s  1099 dL_law_1098 rfl rfl v2 ?_
  refine a_aload_n 1100 dL_law_1099 rfl rfl ?_
  refine a_iload_n 1101 dL_law_1100 rfl rfl ?_
  refine a_iconst (3) 1102 dL_law_1101 rfl (by decide) ?_
  refine a_iadd 1103 dL_law_1102 rfl ?_
  refine a_iaload_s  1104 dL_law_1103 rfl rfl v3 ?_
  refine a_callV ok_X12_blinds ln_L_119 in_X12_blinds rfl 1107 dL_law_1104 rfl (m_blinds qm o _ _ _) (by repeat (first | assumption | (refine rg_ne (by first | decide | omega) ?_) | apply rg_eq | refine rg_fr (by assumption) (by first | decide | (simp; omega)) ?_)) rfl rfl rfl ⟨(Nat.le_of_ble_eq_true rfl), (Nat.le_of_ble_eq_true rfl)⟩ (Nat.le_of_ble_eq_true rfl) ⟨show _ ≤ 600000 by omega, show _ ≤ 7302249 by omega⟩ ?_
  rintro h2 _ ⟨a2, rfl, b2, q2, hk2⟩
  have e12 := bl_same o b1 b2
  refine a_icmp_eq 1563 1110 dL_law_1107 rfl (by decide) (fun c_1107 => ?_) (fun c_1107 => absurd e12 c_1107)
  refine rW_widen (k' := k + 2) (n' := n + 8) (by omega) (by omega) ?_
  exact NX _ _ ⟨cAll_kpm q1 hk2, q2, o, m_len q2⟩
set_option maxRecDepth 100000 in
set_option maxHeartbeats 400000 in
theorem lw_parts (hL : gL G ≤ 3072) (hi : i + 6 ≤ gL G) (hk : k ≤ 500000) (hn : n ≤ 7000000) (I : INV G h T) (NX : lwN l G nm i k n) : rW l G room_1 (mLaw nm) (lZ G) k n 1112 (lwLs G i) [] h := by
  have q := I.1
  have o := I.2.2.1
  have hlen := I.2.2.2
  have q0 := q.1.1
  obtain ⟨im, jm, qx⟩ := id I.2.1
  have hm := qx.at
  have v1 := lw_ix hL hi 1 1 (by decide) rfl
  have v2 := lw_ix hL hi 2 2 (by decide) rfl
  have v3 := lw_ix hL hi 3 3 (by decide) rfl
  refine a_aload_n 1113 dL_law_1112 rfl rfl ?_
  refine a_aload_n 1114 dL_law_1113 rfl rfl ?_
  refine a_iload_n 1115 dL_law_1114 rfl rfl ?_
  refine a_iconst (1) 1116 dL_law_1115 rfl (by decide) ?_
  refine a_iadd 1117 dL_law_1116 rfl ?_
  refine a_iaload_s  1118 dL_law_1117 rfl rfl v1 ?_
  refine a_aload_n 1119 dL_law_1118 rfl rfl ?_
  refine a_iload_n 1120 dL_law_1119 rfl rfl ?_
  refine a_iconst (2) 1121 dL_law_1120 rfl (by decide) ?_
  refine a_iadd 1122 dL_law_1121 rfl ?_
  refine a_iaload_s  1123 dL_law_1122 rfl rfl v2 ?_
  refine a_aload_n 1124 dL_law_1123 rfl rfl ?_
  refine a_iload_n 1125 dL_law_1124 rfl rfl ?_
  refine a_iconst (3) 1126 dL_law_1125 rfl (by decide) ?_
  refine a_iadd 1127 dL_law_1126 rfl ?_
  refine a_iaload_s  1128 dL_law_1127 rfl rfl v3 ?_
  refine a_callV ok_X11_parts ln_L_120 in_X11_parts rfl 1131 dL_law_1128 rfl (c_parts q o _ _ _) (by repeat (first | assumption | (refine rg_ne (by first | decide | omega) ?_) | apply rg_eq | refine rg_fr (by assumption) (by first | decide | (simp; omega)) ?_)) rfl rfl rfl ⟨(Nat.le_of_ble_eq_true rfl), (Nat.le_of_ble_eq_true rfl)⟩ (Nat.le_of_ble_eq_true rfl) ⟨show _ ≤ 600000 by omega, show _ ≤ 7302249 by omega⟩ ?_
  rintro h1 _ ⟨rfl, q1, hk1⟩
  have qm := mAll_kpc I.2.1 hk1
  obtain ⟨i1, j1, qx1⟩ := id qm
  have hm1 := qx1.at
  refine a_aload_n 1132 dL_law_1131 rfl rfl ?_
  refine a_aload_n 1133 dL_law_1132 rfl rfl ?_
  refine a_iload_n 1134 dL_law_1133 rfl rfl ?_
  refine a_iconst (1) 1135 dL_law_1134 rfl (by decide) ?_
  refine a_iadd 1136 dL_law_1135 rfl ?_
  refine a_iaload_s  1137 dL_law_1136 rfl rfl v1 ?_
  refine a_aload_n 1138 dL_law_1137 rfl rfl ?_
  refine a_iload_n 1139 dL_law_1138 rfl rfl ?_
  refine a_iconst (2) 1140 dL_law_1139 rfl (by decide) ?_
  refine a_iadd 1141 dL_law_1140 rfl ?_
  refine a_iaload_s  1142 dL_law_1141 rfl rfl v2 ?_
  refine a_aload_n 1143 dL_law_1142 rfl rfl ?_
  refine a_iload_n 1144 dL_law_1143 rfl rfl ?_
  refine a_iconst (3) 1145 dL_law_1144 rfl (by decide) ?_
  refine a_iadd 1146 dL_law_1145 rfl ?_
  refine a_iaload_s  1147 dL_law_1146 rfl rfl v3 ?_
  refine a_callV ok_X12_parts ln_L_123 in_X12_parts rfl 1150 dL_law_1147 rfl (m_parts qm o _ _ _) (by repeat (first | assumption | (refine rg_ne (by first | decide | omega) ?_) | apply rg_eq | refine rg_fr (by assumption) (by first | decide | (simp; omega)) ?_)) rfl rfl rfl ⟨(Nat.le_of_ble_eq_true rfl), (Nat.le_of_ble_eq_true rfl)⟩ (Nat.le_of_ble_eq_true rfl) ⟨show _ ≤ 600000 by omega, show _ ≤ 7302249 by omega⟩ ?_
  rintro h2 _ ⟨rfl, q2, hk2⟩
  refine a_icmp_eq 1563 1153 dL_law_1150 rfl (by decide) (fun c_1150 => ?_) (fun c_1150 => absurd rfl c_1150)
  refine rW_widen (k' := k + 2) (n' := n + 8) (by omega) (by omega) ?_
  exact NX _ _ ⟨cAll_kpm q1 hk2, q2, o, m_len q2⟩
set_option maxRecDepth 100000 in
set_option maxHeartbeats 400000 in
theorem lw_film (hL : gL G ≤ 3072) (hi : i + 6 ≤ gL G) (hk : k ≤ 500000) (hn : n ≤ 7000000) (I : INV G h T) (NX : lwN l G nm i k n) : rW l G room_1 (mLaw nm) (lZ G) k n 1155 (lwLs G i) [] h := by
  have q := I.1
  have o := I.2.2.1
  have hlen := I.2.2.2
  have q0 := q.1.1
  obtain ⟨im, jm, qx⟩ := id I.2.1
  have hm := qx.at
  have v1 := lw_ix hL hi 1 1 (by decide) rfl
  have v2 := lw_ix hL hi 2 2 (by decide) rfl
  have v3 := lw_ix hL hi 3 3 (by decide) rfl
  have v4 := lw_ix hL hi 4 4 (by decide) rfl
  have v5 := lw_ix hL hi 5 5 (by decide) rfl
  refine a_aload_n 1156 dL_law_1155 rfl rfl ?_
  refine a_aload_n 1157 dL_law_1156 rfl rfl ?_
  refine a_iload_n 1158 dL_law_1157 rfl rfl ?_
  refine a_iconst (1) 1159 dL_law_1158 rfl (by decide) ?_
  refine a_iadd 1160 dL_law_1159 rfl ?_
  refine a_iaload_s  1161 dL_law_1160 rfl rfl v1 ?_
  refine a_aload_n 1162 dL_law_1161 rfl rfl ?_
  refine a_iload_n 1163 dL_law_1162 rfl rfl ?_
  refine a_iconst (2) 1164 dL_law_1163 rfl (by decide) ?_
  refine a_iadd 1165 dL_law_1164 rfl ?_
  refine a_iaload_s  1166 dL_law_1165 rfl rfl v2 ?_
  refine a_aload_n 1167 dL_law_1166 rfl rfl ?_
  refine a_iload_n 1168 dL_law_1167 rfl rfl ?_
  refine a_iconst (3) 1169 dL_law_1168 rfl (by decide) ?_
  refine a_iadd 1170 dL_law_1169 rfl ?_
  refine a_iaload_s  1171 dL_law_1170 rfl rfl v3 ?_
  refine a_aload_n 1172 dL_law_1171 rfl rfl ?_
  refine a_iload_n 1173 dL_law_1172 rfl rfl ?_
  refine a_iconst (4) 1174 dL_law_1173 rfl (by decide) ?_
  refine a_iadd 1175 dL_law_1174 rfl ?_
  refine a_iaload_s  1176 dL_law_1175 rfl rfl v4 ?_
  refine a_aload_n 1177 dL_law_1176 rfl rfl ?_
  refine a_iload_n 1178 dL_law_1177 rfl rfl ?_
  refine a_iconst (5) 1179 dL_law_1178 rfl (by decide) ?_
  refine a_iadd 1180 dL_law_1179 rfl ?_
  refine a_iaload_s  1181 dL_law_1180 rfl rfl v5 ?_
  refine a_callV ok_X11_film ln_L_124 in_X11_film rfl 1184 dL_law_1181 rfl (c_film2 q o _ _ _ _ _) (by repeat (first | assumption | (refine rg_ne (by first | decide | omega) ?_) | apply rg_eq | refine rg_fr (by assumption) (by first | decide | (simp; omega)) ?_)) rfl rfl rfl ⟨(Nat.le_of_ble_eq_true rfl), (Nat.le_of_ble_eq_true rfl)⟩ (Nat.le_of_ble_eq_true rfl) ⟨show _ ≤ 600000 by omega, show _ ≤ 7302249 by omega⟩ ?_
  rintro h1 _ ⟨rfl, q1, hk1⟩
  have qm := mAll_kpc I.2.1 hk1
  obtain ⟨i1, j1, qx1⟩ := id qm
  have hm1 := qx1.at
  refine a_aload_n 1185 dL_law_1184 rfl rfl ?_
  refine a_aload_n 1186 dL_law_1185 rfl rfl ?_
  refine a_iload_n 1187 dL_law_1186 rfl rfl ?_
  refine a_iconst (1) 1188 dL_law_1187 rfl (by decide) ?_
  refine a_iadd 1189 dL_law_1188 rfl ?_
  refine a_iaload_s  1190 dL_law_1189 rfl rfl v1 ?_
  refine a_aload_n 1191 dL_law_1190 rfl rfl ?_
  refine a_iload_n 1192 dL_law_1191 rfl rfl ?_
  refine a_iconst (2) 1193 dL_law_1192 rfl (by decide) ?_
  refine a_iadd 1194 dL_law_1193 rfl ?_
  refine a_iaload_s  1195 dL_law_1194 rfl rfl v2 ?_
  refine a_aload_n 1196 dL_law_1195 rfl rfl ?_
  refine a_iload_n 1197 dL_law_1196 rfl rfl ?_
  refine a_iconst (3) 1198 dL_law_1197 rfl (by decide) ?_
  refine a_iadd 1199 dL_law_1198 rfl ?_
  refine a_iaload_s  1200 dL_law_1199 rfl rfl v3 ?_
  refine a_aload_n 1201 dL_law_1200 rfl rfl ?_
  refine a_iload_n 1202 dL_law_1201 rfl rfl ?_
  refine a_iconst (4) 1203 dL_law_1202 rfl (by decide) ?_
  refine a_iadd 1204 dL_law_1203 rfl ?_
  refine a_iaload_s  1205 dL_law_1204 rfl rfl v4 ?_
  refine a_aload_n 1206 dL_law_1205 rfl rfl ?_
  refine a_iload_n 1207 dL_law_1206 rfl rfl ?_
  refine a_iconst (5) 1208 dL_law_1207 rfl (by decide) ?_
  refine a_iadd 1209 dL_law_1208 rfl ?_
  refine a_iaload_s  1210 dL_law_1209 rfl rfl v5 ?_
  refine a_callV ok_X12_film ln_L_128 in_X12_film rfl 1213 dL_law_1210 rfl (m_film qm o _ _ _ _ _) (by repeat (first | assumption | (refine rg_ne (by first | decide | omega) ?_) | apply rg_eq | refine rg_fr (by assumption) (by first | decide | (simp; omega)) ?_)) rfl rfl rfl ⟨(Nat.le_of_ble_eq_true rfl), (Nat.le_of_ble_eq_true rfl)⟩ (Nat.le_of_ble_eq_true rfl) ⟨show _ ≤ 600000 by omega, show _ ≤ 7302249 by omega⟩ ?_
  rintro h2 _ ⟨rfl, q2, hk2⟩
  refine a_lcmp 1214 dL_law_1213 rfl ?_
  refine a_if_eq 1563 1217 dL_law_1214 rfl (by decide) (fun c_1214 => ?_) (fun c_1214 => absurd ((lg_cmp_eq _ _).mpr rfl) c_1214)
  refine rW_widen (k' := k + 2) (n' := n + 8) (by omega) (by omega) ?_
  exact NX _ _ ⟨cAll_kpm q1 hk2, q2, o, m_len q2⟩
set_option maxRecDepth 100000 in
set_option maxHeartbeats 400000 in
theorem lw_sheet (hL : gL G ≤ 3072) (hi : i + 6 ≤ gL G) (hk : k ≤ 500000) (hn : n ≤ 7000000) (I : INV G h T) (NX : lwN l G nm i k n) : rW l G room_1 (mLaw nm) (lZ G) k n 1219 (lwLs G i) [] h := by
  have q := I.1
  have o := I.2.2.1
  have hlen := I.2.2.2
  have q0 := q.1.1
  obtain ⟨im, jm, qx⟩ := id I.2.1
  have hm := qx.at
  have v1 := lw_ix hL hi 1 1 (by decide) rfl
  have v2 := lw_ix hL hi 2 2 (by decide) rfl
  have v3 := lw_ix hL hi 3 3 (by decide) rfl
  refine a_aload_n 1220 dL_law_1219 rfl rfl ?_
  refine a_aload_n 1221 dL_law_1220 rfl rfl ?_
  refine a_iload_n 1222 dL_law_1221 rfl rfl ?_
  refine a_iconst (1) 1223 dL_law_1222 rfl (by decide) ?_
  refine a_iadd 1224 dL_law_1223 rfl ?_
  refine a_iaload_s  1225 dL_law_1224 rfl rfl v1 ?_
  refine a_aload_n 1226 dL_law_1225 rfl rfl ?_
  refine a_iload_n 1227 dL_law_1226 rfl rfl ?_
  refine a_iconst (2) 1228 dL_law_1227 rfl (by decide) ?_
  refine a_iadd 1229 dL_law_1228 rfl ?_
  refine a_iaload_s  1230 dL_law_1229 rfl rfl v2 ?_
  refine a_aload_n 1231 dL_law_1230 rfl rfl ?_
  refine a_iload_n 1232 dL_law_1231 rfl rfl ?_
  refine a_iconst (3) 1233 dL_law_1232 rfl (by decide) ?_
  refine a_iadd 1234 dL_law_1233 rfl ?_
  refine a_iaload_s  1235 dL_law_1234 rfl rfl v3 ?_
  refine a_callV ok_X11_sheet ln_L_129 in_X11_sheet rfl 1238 dL_law_1235 rfl (c_sheetC q _ _ _) (by repeat (first | assumption | (refine rg_ne (by first | decide | omega) ?_) | apply rg_eq | refine rg_fr (by assumption) (by first | decide | (simp; omega)) ?_)) rfl rfl rfl ⟨(Nat.le_of_ble_eq_true rfl), (Nat.le_of_ble_eq_true rfl)⟩ (Nat.le_of_ble_eq_true rfl) ⟨show _ ≤ 600000 by omega, show _ ≤ 7302249 by omega⟩ ?_
  rintro h1 _ ⟨rfl, q1, hk1⟩
  have qm := mAll_kpc I.2.1 hk1
  obtain ⟨i1, j1, qx1⟩ := id qm
  have hm1 := qx1.at
  refine a_aload_n 1239 dL_law_1238 rfl rfl ?_
  refine a_aload_n 1240 dL_law_1239 rfl rfl ?_
  refine a_iload_n 1241 dL_law_1240 rfl rfl ?_
  refine a_iconst (1) 1242 dL_law_1241 rfl (by decide) ?_
  refine a_iadd 1243 dL_law_1242 rfl ?_
  refine a_iaload_s  1244 dL_law_1243 rfl rfl v1 ?_
  refine a_aload_n 1245 dL_law_1244 rfl rfl ?_
  refine a_iload_n 1246 dL_law_1245 rfl rfl ?_
  refine a_iconst (2) 1247 dL_law_1246 rfl (by decide) ?_
  refine a_iadd 1248 dL_law_1247 rfl ?_
  refine a_iaload_s  1249 dL_law_1248 rfl rfl v2 ?_
  refine a_aload_n 1250 dL_law_1249 rfl rfl ?_
  refine a_iload_n 1251 dL_law_1250 rfl rfl ?_
  refine a_iconst (3) 1252 dL_law_1251 rfl (by decide) ?_
  refine a_iadd 1253 dL_law_1252 rfl ?_
  refine a_iaload_s  1254 dL_law_1253 rfl rfl v3 ?_
  refine a_callV ok_X12_sheet ln_L_132 in_X12_sheet rfl 1257 dL_law_1254 rfl (m_sheet qm o _ _ _) (by repeat (first | assumption | (refine rg_ne (by first | decide | omega) ?_) | apply rg_eq | refine rg_fr (by assumption) (by first | decide | (simp; omega)) ?_)) rfl rfl rfl ⟨(Nat.le_of_ble_eq_true rfl), (Nat.le_of_ble_eq_true rfl)⟩ (Nat.le_of_ble_eq_true rfl) ⟨show _ ≤ 600000 by omega, show _ ≤ 7302249 by omega⟩ ?_
  rintro h2 _ ⟨rfl, q2, hk2⟩
  refine a_icmp_eq 1563 1260 dL_law_1257 rfl (by decide) (fun c_1257 => ?_) (fun c_1257 => absurd rfl c_1257)
  refine rW_widen (k' := k + 2) (n' := n + 8) (by omega) (by omega) ?_
  exact NX _ _ ⟨cAll_kpm q1 hk2, q2, ok_sheet o _ _ _, m_len q2⟩
set_option maxRecDepth 100000 in
set_option maxHeartbeats 400000 in
theorem lw_lose (hL : gL G ≤ 3072) (hi : i + 6 ≤ gL G) (hk : k ≤ 500000) (hn : n ≤ 7000000) (I : INV G h T) (NX : lwN l G nm i k n) : rW l G room_1 (mLaw nm) (lZ G) k n 1262 (lwLs G i) [] h := by
  have q := I.1
  have o := I.2.2.1
  have hlen := I.2.2.2
  have q0 := q.1.1
  obtain ⟨im, jm, qx⟩ := id I.2.1
  have hm := qx.at
  have v1 := lw_ix hL hi 1 1 (by decide) rfl
  refine a_aload_n 1263 dL_law_1262 rfl rfl ?_
  refine a_aload_n 1264 dL_law_1263 rfl rfl ?_
  refine a_iload_n 1265 dL_law_1264 rfl rfl ?_
  refine a_iconst (1) 1266 dL_law_1265 rfl (by decide) ?_
  refine a_iadd 1267 dL_law_1266 rfl ?_
  refine a_iaload_s  1268 dL_law_1267 rfl rfl v1 ?_
  refine a_callV ok_X11_lose ln_L_133 in_X11_lose rfl 1271 dL_law_1268 rfl (c_lose q _) (by repeat (first | assumption | (refine rg_ne (by first | decide | omega) ?_) | apply rg_eq | refine rg_fr (by assumption) (by first | decide | (simp; omega)) ?_)) rfl rfl rfl ⟨(Nat.le_of_ble_eq_true rfl), (Nat.le_of_ble_eq_true rfl)⟩ (Nat.le_of_ble_eq_true rfl) ⟨show _ ≤ 600000 by omega, show _ ≤ 7302249 by omega⟩ ?_
  rintro h1 _ ⟨rfl, q1, hk1⟩
  have qm := mAll_kpc I.2.1 hk1
  obtain ⟨i1, j1, qx1⟩ := id qm
  have hm1 := qx1.at
  refine a_aload_n 1272 dL_law_1271 rfl rfl ?_
  refine a_aload_n 1273 dL_law_1272 rfl rfl ?_
  refine a_iload_n 1274 dL_law_1273 rfl rfl ?_
  refine a_iconst (1) 1275 dL_law_1274 rfl (by decide) ?_
  refine a_iadd 1276 dL_law_1275 rfl ?_
  refine a_iaload_s  1277 dL_law_1276 rfl rfl v1 ?_
  refine a_callV ok_X12_lose ln_L_136 in_X12_lose rfl 1280 dL_law_1277 rfl (m_lose qm o _) (by repeat (first | assumption | (refine rg_ne (by first | decide | omega) ?_) | apply rg_eq | refine rg_fr (by assumption) (by first | decide | (simp; omega)) ?_)) rfl rfl rfl ⟨(Nat.le_of_ble_eq_true rfl), (Nat.le_of_ble_eq_true rfl)⟩ (Nat.le_of_ble_eq_true rfl) ⟨show _ ≤ 600000 by omega, show _ ≤ 7302249 by omega⟩ ?_
  rintro h2 _ ⟨rfl, q2, hk2⟩
  refine a_icmp_eq 1563 1283 dL_law_1280 rfl (by decide) (fun c_1280 => ?_) (fun c_1280 => absurd rfl c_1280)
  refine rW_widen (k' := k + 2) (n' := n + 8) (by omega) (by omega) ?_
  exact NX _ _ ⟨cAll_kpm q1 hk2, q2, ok_lose o _, m_len q2⟩
set_option maxRecDepth 100000 in
set_option maxHeartbeats 400000 in
theorem lw_put (hL : gL G ≤ 3072) (hi : i + 6 ≤ gL G) (hk : k ≤ 500000) (hn : n ≤ 7000000) (I : INV G h T) (NX : lwN l G nm i k n) : rW l G room_1 (mLaw nm) (lZ G) k n 1285 (lwLs G i) [] h := by
  have q := I.1
  have o := I.2.2.1
  have hlen := I.2.2.2
  have q0 := q.1.1
  obtain ⟨im, jm, qx⟩ := id I.2.1
  have hm := qx.at
  have v1 := lw_ix hL hi 1 1 (by decide) rfl
  have v2 := lw_ix hL hi 2 2 (by decide) rfl
  have v3 := lw_ix hL hi 3 3 (by decide) rfl
  refine a_aload_n 1286 dL_law_1285 rfl rfl ?_
  refine a_aload_n 1287 dL_law_1286 rfl rfl ?_
  refine a_iload_n 1288 dL_law_1287 rfl rfl ?_
  refine a_iconst (1) 1289 dL_law_1288 rfl (by decide) ?_
  refine a_iadd 1290 dL_law_1289 rfl ?_
  refine a_iaload_s  1291 dL_law_1290 rfl rfl v1 ?_
  refine a_aload_n 1292 dL_law_1291 rfl rfl ?_
  refine a_iload_n 1293 dL_law_1292 rfl rfl ?_
  refine a_iconst (2) 1294 dL_law_1293 rfl (by decide) ?_
  refine a_iadd 1295 dL_law_1294 rfl ?_
  refine a_iaload_s  1296 dL_law_1295 rfl rfl v2 ?_
  refine a_aload_n 1297 dL_law_1296 rfl rfl ?_
  refine a_iload_n 1298 dL_law_1297 rfl rfl ?_
  refine a_iconst (3) 1299 dL_law_1298 rfl (by decide) ?_
  refine a_iadd 1300 dL_law_1299 rfl ?_
  refine a_iaload_s  1301 dL_law_1300 rfl rfl v3 ?_
  refine a_callV ok_X11_put ln_L_137 in_X11_put rfl 1304 dL_law_1301 rfl (c_put q o _ _ _) (by repeat (first | assumption | (refine rg_ne (by first | decide | omega) ?_) | apply rg_eq | refine rg_fr (by assumption) (by first | decide | (simp; omega)) ?_)) rfl rfl rfl ⟨(Nat.le_of_ble_eq_true rfl), (Nat.le_of_ble_eq_true rfl)⟩ (Nat.le_of_ble_eq_true rfl) ⟨show _ ≤ 600000 by omega, show _ ≤ 7302249 by omega⟩ ?_
  rintro h1 _ ⟨rfl, q1, hk1⟩
  have qm := mAll_kpc I.2.1 hk1
  obtain ⟨i1, j1, qx1⟩ := id qm
  have hm1 := qx1.at
  refine a_aload_n 1305 dL_law_1304 rfl rfl ?_
  refine a_aload_n 1306 dL_law_1305 rfl rfl ?_
  refine a_iload_n 1307 dL_law_1306 rfl rfl ?_
  refine a_iconst (1) 1308 dL_law_1307 rfl (by decide) ?_
  refine a_iadd 1309 dL_law_1308 rfl ?_
  refine a_iaload_s  1310 dL_law_1309 rfl rfl v1 ?_
  refine a_aload_n 1311 dL_law_1310 rfl rfl ?_
  refine a_iload_n 1312 dL_law_1311 rfl rfl ?_
  refine a_iconst (2) 1313 dL_law_1312 rfl (by decide) ?_
  refine a_iadd 1314 dL_law_1313 rfl ?_
  refine a_iaload_s  1315 dL_law_1314 rfl rfl v2 ?_
  refine a_aload_n 1316 dL_law_1315 rfl rfl ?_
  refine a_iload_n 1317 dL_law_1316 rfl rfl ?_
  refine a_iconst (3) 1318 dL_law_1317 rfl (by decide) ?_
  refine a_iadd 1319 dL_law_1318 rfl ?_
  refine a_iaload_s  1320 dL_law_1319 rfl rfl v3 ?_
  refine a_callV ok_X12_put ln_L_140 in_X12_put rfl 1323 dL_law_1320 rfl (m_put qm o _ _ _) (by repeat (first | assumption | (refine rg_ne (by first | decide | omega) ?_) | apply rg_eq | refine rg_fr (by assumption) (by first | decide | (simp; omega)) ?_)) rfl rfl rfl ⟨(Nat.le_of_ble_eq_true rfl), (Nat.le_of_ble_eq_true rfl)⟩ (Nat.le_of_ble_eq_true rfl) ⟨show _ ≤ 600000 by omega, show _ ≤ 7302249 by omega⟩ ?_
  rintro h2 _ ⟨rfl, q2, hk2⟩
  refine a_icmp_eq 1563 1326 dL_law_1323 rfl (by decide) (fun c_1323 => ?_) (fun c_1323 => absurd rfl c_1323)
  refine rW_widen (k' := k + 2) (n' := n + 8) (by omega) (by omega) ?_
  exact NX _ _ ⟨cAll_kpm q1 hk2, q2, ok_put o _ _ _, m_len q2⟩
set_option maxRecDepth 100000 in
set_option maxHeartbeats 400000 in
theorem lw_cell (hL : gL G ≤ 3072) (hi : i + 6 ≤ gL G) (hk : k ≤ 500000) (hn : n ≤ 7000000) (I : INV G h T) (NX : lwN l G nm i k n) : rW l G room_1 (mLaw nm) (lZ G) k n 1328 (lwLs G i) [] h := by
  have q := I.1
  have o := I.2.2.1
  have hlen := I.2.2.2
  have q0 := q.1.1
  obtain ⟨im, jm, qx⟩ := id I.2.1
  have hm := qx.at
  have v1 := lw_ix hL hi 1 1 (by decide) rfl
  have v2 := lw_ix hL hi 2 2 (by decide) rfl
  have v3 := lw_ix hL hi 3 3 (by decide) rfl
  refine a_aload_n 1329 dL_law_1328 rfl rfl ?_
  refine a_aload_n 1330 dL_law_1329 rfl rfl ?_
  refine a_iload_n 1331 dL_law_1330 rfl rfl ?_
  refine a_iconst (1) 1332 dL_law_1331 rfl (by decide) ?_
  refine a_iadd 1333 dL_law_1332 rfl ?_
  refine a_iaload_s  1334 dL_law_1333 rfl rfl v1 ?_
  refine a_aload_n 1335 dL_law_1334 rfl rfl ?_
  refine a_iload_n 1336 dL_law_1335 rfl rfl ?_
  refine a_iconst (2) 1337 dL_law_1336 rfl (by decide) ?_
  refine a_iadd 1338 dL_law_1337 rfl ?_
  refine a_iaload_s  1339 dL_law_1338 rfl rfl v2 ?_
  refine a_aload_n 1340 dL_law_1339 rfl rfl ?_
  refine a_iload_n 1341 dL_law_1340 rfl rfl ?_
  refine a_iconst (3) 1342 dL_law_1341 rfl (by decide) ?_
  refine a_iadd 1343 dL_law_1342 rfl ?_
  refine a_iaload_s  1344 dL_law_1343 rfl rfl v3 ?_
  refine a_callV ok_X11_cell ln_L_141 in_X11_cell rfl 1347 dL_law_1344 rfl (c_cell q o _ _ _) (by repeat (first | assumption | (refine rg_ne (by first | decide | omega) ?_) | apply rg_eq | refine rg_fr (by assumption) (by first | decide | (simp; omega)) ?_)) rfl rfl rfl ⟨(Nat.le_of_ble_eq_true rfl), (Nat.le_of_ble_eq_true rfl)⟩ (Nat.le_of_ble_eq_true rfl) ⟨show _ ≤ 600000 by omega, show _ ≤ 7302249 by omega⟩ ?_
  rintro h1 _ ⟨rfl, q1, hk1⟩
  have qm := mAll_kpc I.2.1 hk1
  obtain ⟨i1, j1, qx1⟩ := id qm
  have hm1 := qx1.at
  refine a_aload_n 1348 dL_law_1347 rfl rfl ?_
  refine a_aload_n 1349 dL_law_1348 rfl rfl ?_
  refine a_iload_n 1350 dL_law_1349 rfl rfl ?_
  refine a_iconst (1) 1351 dL_law_1350 rfl (by decide) ?_
  refine a_iadd 1352 dL_law_1351 rfl ?_
  refine a_iaload_s  1353 dL_law_1352 rfl rfl v1 ?_
  refine a_aload_n 1354 dL_law_1353 rfl rfl ?_
  refine a_iload_n 1355 dL_law_1354 rfl rfl ?_
  refine a_iconst (2) 1356 dL_law_1355 rfl (by decide) ?_
  refine a_iadd 1357 dL_law_1356 rfl ?_
  refine a_iaload_s  1358 dL_law_1357 rfl rfl v2 ?_
  refine a_aload_n 1359 dL_law_1358 rfl rfl ?_
  refine a_iload_n 1360 dL_law_1359 rfl rfl ?_
  refine a_iconst (3) 1361 dL_law_1360 rfl (by decide) ?_
  refine a_iadd 1362 dL_law_1361 rfl ?_
  refine a_iaload_s  1363 dL_law_1362 rfl rfl v3 ?_
  refine a_callV ok_X12_cell ln_L_145 in_X12_cell rfl 1366 dL_law_1363 rfl (m_cell qm o _ _ _) (by repeat (first | assumption | (refine rg_ne (by first | decide | omega) ?_) | apply rg_eq | refine rg_fr (by assumption) (by first | decide | (simp; omega)) ?_)) rfl rfl rfl ⟨(Nat.le_of_ble_eq_true rfl), (Nat.le_of_ble_eq_true rfl)⟩ (Nat.le_of_ble_eq_true rfl) ⟨show _ ≤ 600000 by omega, show _ ≤ 7302249 by omega⟩ ?_
  rintro h2 _ ⟨rfl, q2, hk2⟩
  refine a_lcmp 1367 dL_law_1366 rfl ?_
  refine a_if_eq 1563 1370 dL_law_1367 rfl (by decide) (fun c_1367 => ?_) (fun c_1367 => absurd ((lg_cmp_eq _ _).mpr rfl) c_1367)
  refine rW_widen (k' := k + 2) (n' := n + 8) (by omega) (by omega) ?_
  exact NX _ _ ⟨cAll_kpm q1 hk2, q2, ok_cell o _ _ _, m_len q2⟩
set_option maxRecDepth 100000 in
set_option maxHeartbeats 400000 in
theorem lw_copy (hL : gL G ≤ 3072) (hi : i + 6 ≤ gL G) (hk : k ≤ 500000) (hn : n ≤ 7000000) (I : INV G h T) (NX : lwN l G nm i k n) : rW l G room_1 (mLaw nm) (lZ G) k n 1372 (lwLs G i) [] h := by
  have q := I.1
  have o := I.2.2.1
  have hlen := I.2.2.2
  have q0 := q.1.1
  obtain ⟨im, jm, qx⟩ := id I.2.1
  have hm := qx.at
  have v1 := lw_ix hL hi 1 1 (by decide) rfl
  have v2 := lw_ix hL hi 2 2 (by decide) rfl
  have v3 := lw_ix hL hi 3 3 (by decide) rfl
  have v4 := lw_ix hL hi 4 4 (by decide) rfl
  have v5 := lw_ix hL hi 5 5 (by decide) rfl
  refine a_aload_n 1373 dL_law_1372 rfl rfl ?_
  refine a_aload_n 1374 dL_law_1373 rfl rfl ?_
  refine a_iload_n 1375 dL_law_1374 rfl rfl ?_
  refine a_iconst (1) 1376 dL_law_1375 rfl (by decide) ?_
  refine a_iadd 1377 dL_law_1376 rfl ?_
  refine a_iaload_s  1378 dL_law_1377 rfl rfl v1 ?_
  refine a_aload_n 1379 dL_law_1378 rfl rfl ?_
  refine a_iload_n 1380 dL_law_1379 rfl rfl ?_
  refine a_iconst (2) 1381 dL_law_1380 rfl (by decide) ?_
  refine a_iadd 1382 dL_law_1381 rfl ?_
  refine a_iaload_s  1383 dL_law_1382 rfl rfl v2 ?_
  refine a_aload_n 1384 dL_law_1383 rfl rfl ?_
  refine a_iload_n 1385 dL_law_1384 rfl rfl ?_
  refine a_iconst (3) 1386 dL_law_1385 rfl (by decide) ?_
  refine a_iadd 1387 dL_law_1386 rfl ?_
  refine a_iaload_s  1388 dL_law_1387 rfl rfl v3 ?_
  refine a_aload_n 1389 dL_law_1388 rfl rfl ?_
  refine a_iload_n 1390 dL_law_1389 rfl rfl ?_
  refine a_iconst (4) 1391 dL_law_1390 rfl (by decide) ?_
  refine a_iadd 1392 dL_law_1391 rfl ?_
  refine a_iaload_s  1393 dL_law_1392 rfl rfl v4 ?_
  refine a_aload_n 1394 dL_law_1393 rfl rfl ?_
  refine a_iload_n 1395 dL_law_1394 rfl rfl ?_
  refine a_iconst (5) 1396 dL_law_1395 rfl (by decide) ?_
  refine a_iadd 1397 dL_law_1396 rfl ?_
  refine a_iaload_s  1398 dL_law_1397 rfl rfl v5 ?_
  refine a_callV ok_X11_copy ln_L_146 in_X11_copy rfl 1401 dL_law_1398 rfl (c_copy q o _ _ _ _ _) (by repeat (first | assumption | (refine rg_ne (by first | decide | omega) ?_) | apply rg_eq | refine rg_fr (by assumption) (by first | decide | (simp; omega)) ?_)) rfl rfl rfl ⟨(Nat.le_of_ble_eq_true rfl), (Nat.le_of_ble_eq_true rfl)⟩ (Nat.le_of_ble_eq_true rfl) ⟨show _ ≤ 600000 by omega, show _ ≤ 7302249 by omega⟩ ?_
  rintro h1 _ ⟨rfl, q1, hk1⟩
  have qm := mAll_kpc I.2.1 hk1
  obtain ⟨i1, j1, qx1⟩ := id qm
  have hm1 := qx1.at
  refine a_aload_n 1402 dL_law_1401 rfl rfl ?_
  refine a_aload_n 1403 dL_law_1402 rfl rfl ?_
  refine a_iload_n 1404 dL_law_1403 rfl rfl ?_
  refine a_iconst (1) 1405 dL_law_1404 rfl (by decide) ?_
  refine a_iadd 1406 dL_law_1405 rfl ?_
  refine a_iaload_s  1407 dL_law_1406 rfl rfl v1 ?_
  refine a_aload_n 1408 dL_law_1407 rfl rfl ?_
  refine a_iload_n 1409 dL_law_1408 rfl rfl ?_
  refine a_iconst (2) 1410 dL_law_1409 rfl (by decide) ?_
  refine a_iadd 1411 dL_law_1410 rfl ?_
  refine a_iaload_s  1412 dL_law_1411 rfl rfl v2 ?_
  refine a_aload_n 1413 dL_law_1412 rfl rfl ?_
  refine a_iload_n 1414 dL_law_1413 rfl rfl ?_
  refine a_iconst (3) 1415 dL_law_1414 rfl (by decide) ?_
  refine a_iadd 1416 dL_law_1415 rfl ?_
  refine a_iaload_s  1417 dL_law_1416 rfl rfl v3 ?_
  refine a_aload_n 1418 dL_law_1417 rfl rfl ?_
  refine a_iload_n 1419 dL_law_1418 rfl rfl ?_
  refine a_iconst (4) 1420 dL_law_1419 rfl (by decide) ?_
  refine a_iadd 1421 dL_law_1420 rfl ?_
  refine a_iaload_s  1422 dL_law_1421 rfl rfl v4 ?_
  refine a_aload_n 1423 dL_law_1422 rfl rfl ?_
  refine a_iload_n 1424 dL_law_1423 rfl rfl ?_
  refine a_iconst (5) 1425 dL_law_1424 rfl (by decide) ?_
  refine a_iadd 1426 dL_law_1425 rfl ?_
  refine a_iaload_s  1427 dL_law_1426 rfl rfl v5 ?_
  refine a_callV ok_X12_copy ln_L_149 in_X12_copy rfl 1430 dL_law_1427 rfl (m_copy qm o _ _ _ _ _) (by repeat (first | assumption | (refine rg_ne (by first | decide | omega) ?_) | apply rg_eq | refine rg_fr (by assumption) (by first | decide | (simp; omega)) ?_)) rfl rfl rfl ⟨(Nat.le_of_ble_eq_true rfl), (Nat.le_of_ble_eq_true rfl)⟩ (Nat.le_of_ble_eq_true rfl) ⟨show _ ≤ 600000 by omega, show _ ≤ 7302249 by omega⟩ ?_
  rintro h2 _ ⟨rfl, q2, hk2⟩
  refine a_icmp_eq 1563 1433 dL_law_1430 rfl (by decide) (fun c_1430 => ?_) (fun c_1430 => absurd rfl c_1430)
  refine rW_widen (k' := k + 2) (n' := n + 8) (by omega) (by omega) ?_
  exact NX _ _ ⟨cAll_kpm q1 hk2, q2, ok_copy o _ _ _ _ _, m_len q2⟩
set_option maxRecDepth 100000 in
set_option maxHeartbeats 400000 in
theorem lw_tell (hL : gL G ≤ 3072) (hi : i + 6 ≤ gL G) (hk : k ≤ 500000) (hn : n ≤ 7000000) (I : INV G h T) (NX : lwN l G nm i k n) : rW l G room_1 (mLaw nm) (lZ G) k n 1435 (lwLs G i) [] h := by
  have q := I.1
  have o := I.2.2.1
  have hlen := I.2.2.2
  have q0 := q.1.1
  obtain ⟨im, jm, qx⟩ := id I.2.1
  have hm := qx.at
  have v1 := lw_ix hL hi 1 1 (by decide) rfl
  refine a_aload_n 1436 dL_law_1435 rfl rfl ?_
  refine a_aload_n 1437 dL_law_1436 rfl rfl ?_
  refine a_iload_n 1438 dL_law_1437 rfl rfl ?_
  refine a_iconst (1) 1439 dL_law_1438 rfl (by decide) ?_
  refine a_iadd 1440 dL_law_1439 rfl ?_
  refine a_iaload_s  1441 dL_law_1440 rfl rfl v1 ?_
  refine a_callV ok_X11_tell ln_L_150 in_X11_tell rfl 1444 dL_law_1441 rfl (c_tell q o _) (by repeat (first | assumption | (refine rg_ne (by first | decide | omega) ?_) | apply rg_eq | refine rg_fr (by assumption) (by first | decide | (simp; omega)) ?_)) rfl rfl rfl ⟨(Nat.le_of_ble_eq_true rfl), (Nat.le_of_ble_eq_true rfl)⟩ (Nat.le_of_ble_eq_true rfl) ⟨show _ ≤ 600000 by omega, show _ ≤ 7302249 by omega⟩ ?_
  rintro h1 _ ⟨rfl, q1, hk1⟩
  have qm := mAll_kpc I.2.1 hk1
  obtain ⟨i1, j1, qx1⟩ := id qm
  have hm1 := qx1.at
  refine a_aload_n 1445 dL_law_1444 rfl rfl ?_
  refine a_aload_n 1446 dL_law_1445 rfl rfl ?_
  refine a_iload_n 1447 dL_law_1446 rfl rfl ?_
  refine a_iconst (1) 1448 dL_law_1447 rfl (by decide) ?_
  refine a_iadd 1449 dL_law_1448 rfl ?_
  refine a_iaload_s  1450 dL_law_1449 rfl rfl v1 ?_
  refine a_callV ok_X12_tell ln_L_153 in_X12_tell rfl 1453 dL_law_1450 rfl (m_tell qm o _) (by repeat (first | assumption | (refine rg_ne (by first | decide | omega) ?_) | apply rg_eq | refine rg_fr (by assumption) (by first | decide | (simp; omega)) ?_)) rfl rfl rfl ⟨(Nat.le_of_ble_eq_true rfl), (Nat.le_of_ble_eq_true rfl)⟩ (Nat.le_of_ble_eq_true rfl) ⟨show _ ≤ 600000 by omega, show _ ≤ 7302249 by omega⟩ ?_
  rintro h2 _ ⟨rfl, q2, hk2⟩
  refine a_icmp_eq 1563 1456 dL_law_1453 rfl (by decide) (fun c_1453 => ?_) (fun c_1453 => absurd rfl c_1453)
  refine rW_widen (k' := k + 2) (n' := n + 8) (by omega) (by omega) ?_
  exact NX _ _ ⟨cAll_kpm q1 hk2, q2, o, m_len q2⟩
set_option maxRecDepth 100000 in
set_option maxHeartbeats 400000 in
theorem lw_wake (hL : gL G ≤ 3072) (hi : i + 6 ≤ gL G) (hk : k ≤ 500000) (hn : n ≤ 7000000) (I : INV G h T) (NX : lwN l G nm i k n) : rW l G room_1 (mLaw nm) (lZ G) k n 1458 (lwLs G i) [] h := by
  have q := I.1
  have o := I.2.2.1
  have hlen := I.2.2.2
  have q0 := q.1.1
  obtain ⟨im, jm, qx⟩ := id I.2.1
  have hm := qx.at
  have v1 := lw_ix hL hi 1 1 (by decide) rfl
  refine a_aload_n 1459 dL_law_1458 rfl rfl ?_
  refine a_aload_n 1460 dL_law_1459 rfl rfl ?_
  refine a_iload_n 1461 dL_law_1460 rfl rfl ?_
  refine a_iconst (1) 1462 dL_law_1461 rfl (by decide) ?_
  refine a_iadd 1463 dL_law_1462 rfl ?_
  refine a_iaload_s  1464 dL_law_1463 rfl rfl v1 ?_
  refine a_callV ok_X11_wake ln_L_154 in_X11_wake rfl 1467 dL_law_1464 rfl (c_wake q o _) (by repeat (first | assumption | (refine rg_ne (by first | decide | omega) ?_) | apply rg_eq | refine rg_fr (by assumption) (by first | decide | (simp; omega)) ?_)) rfl rfl rfl ⟨(Nat.le_of_ble_eq_true rfl), (Nat.le_of_ble_eq_true rfl)⟩ (Nat.le_of_ble_eq_true rfl) ⟨show _ ≤ 600000 by omega, show _ ≤ 7302249 by omega⟩ ?_
  rintro h1 _ ⟨rfl, q1, hk1⟩
  have qm := mAll_kpc I.2.1 hk1
  obtain ⟨i1, j1, qx1⟩ := id qm
  have hm1 := qx1.at
  refine a_aload_n 1468 dL_law_1467 rfl rfl ?_
  refine a_aload_n 1469 dL_law_1468 rfl rfl ?_
  refine a_iload_n 1470 dL_law_1469 rfl rfl ?_
  refine a_iconst (1) 1471 dL_law_1470 rfl (by decide) ?_
  refine a_iadd 1472 dL_law_1471 rfl ?_
  refine a_iaload_s  1473 dL_law_1472 rfl rfl v1 ?_
  refine a_callV ok_X12_wake ln_L_157 in_X12_wake rfl 1476 dL_law_1473 rfl (m_wake qm o _) (by repeat (first | assumption | (refine rg_ne (by first | decide | omega) ?_) | apply rg_eq | refine rg_fr (by assumption) (by first | decide | (simp; omega)) ?_)) rfl rfl rfl ⟨(Nat.le_of_ble_eq_true rfl), (Nat.le_of_ble_eq_true rfl)⟩ (Nat.le_of_ble_eq_true rfl) ⟨show _ ≤ 600000 by omega, show _ ≤ 7302249 by omega⟩ ?_
  rintro h2 _ ⟨rfl, q2, hk2⟩
  refine a_icmp_eq 1563 1479 dL_law_1476 rfl (by decide) (fun c_1476 => ?_) (fun c_1476 => absurd rfl c_1476)
  refine rW_widen (k' := k + 2) (n' := n + 8) (by omega) (by omega) ?_
  exact NX _ _ ⟨cAll_kpm q1 hk2, q2, o, m_len q2⟩
set_option maxRecDepth 100000 in
set_option maxHeartbeats 400000 in
theorem lw_as (hL : gL G ≤ 3072) (hi : i + 6 ≤ gL G) (hk : k ≤ 500000) (hn : n ≤ 7000000) (I : INV G h T) (NX : lwN l G nm i k n) : rW l G room_1 (mLaw nm) (lZ G) k n 1481 (lwLs G i) [] h := by
  have q := I.1
  have o := I.2.2.1
  have hlen := I.2.2.2
  have q0 := q.1.1
  obtain ⟨im, jm, qx⟩ := id I.2.1
  have hm := qx.at
  have v1 := lw_ix hL hi 1 1 (by decide) rfl
  have v2 := lw_ix hL hi 2 2 (by decide) rfl
  refine a_aload_n 1482 dL_law_1481 rfl rfl ?_
  refine a_aload_n 1483 dL_law_1482 rfl rfl ?_
  refine a_iload_n 1484 dL_law_1483 rfl rfl ?_
  refine a_iconst (1) 1485 dL_law_1484 rfl (by decide) ?_
  refine a_iadd 1486 dL_law_1485 rfl ?_
  refine a_iaload_s  1487 dL_law_1486 rfl rfl v1 ?_
  refine a_aload_n 1488 dL_law_1487 rfl rfl ?_
  refine a_iload_n 1489 dL_law_1488 rfl rfl ?_
  refine a_iconst (2) 1490 dL_law_1489 rfl (by decide) ?_
  refine a_iadd 1491 dL_law_1490 rfl ?_
  refine a_iaload_s  1492 dL_law_1491 rfl rfl v2 ?_
  refine a_callV ok_X11_as ln_L_158 in_X11_as rfl 1495 dL_law_1492 rfl (c_as q o _ _) (by repeat (first | assumption | (refine rg_ne (by first | decide | omega) ?_) | apply rg_eq | refine rg_fr (by assumption) (by first | decide | (simp; omega)) ?_)) rfl rfl rfl ⟨(Nat.le_of_ble_eq_true rfl), (Nat.le_of_ble_eq_true rfl)⟩ (Nat.le_of_ble_eq_true rfl) ⟨show _ ≤ 600000 by omega, show _ ≤ 7302249 by omega⟩ ?_
  rintro h1 _ ⟨rfl, q1, hk1⟩
  have qm := mAll_kpc I.2.1 hk1
  obtain ⟨i1, j1, qx1⟩ := id qm
  have hm1 := qx1.at
  refine a_aload_n 1496 dL_law_1495 rfl rfl ?_
  refine a_aload_n 1497 dL_law_1496 rfl rfl ?_
  refine a_iload_n 1498 dL_law_1497 rfl rfl ?_
  refine a_iconst (1) 1499 dL_law_1498 rfl (by decide) ?_
  refine a_iadd 1500 dL_law_1499 rfl ?_
  refine a_iaload_s  1501 dL_law_1500 rfl rfl v1 ?_
  refine a_aload_n 1502 dL_law_1501 rfl rfl ?_
  refine a_iload_n 1503 dL_law_1502 rfl rfl ?_
  refine a_iconst (2) 1504 dL_law_1503 rfl (by decide) ?_
  refine a_iadd 1505 dL_law_1504 rfl ?_
  refine a_iaload_s  1506 dL_law_1505 rfl rfl v2 ?_
  refine a_callV ok_X12_as ln_L_161 in_X12_as rfl 1509 dL_law_1506 rfl (m_as qm o _ _) (by repeat (first | assumption | (refine rg_ne (by first | decide | omega) ?_) | apply rg_eq | refine rg_fr (by assumption) (by first | decide | (simp; omega)) ?_)) rfl rfl rfl ⟨(Nat.le_of_ble_eq_true rfl), (Nat.le_of_ble_eq_true rfl)⟩ (Nat.le_of_ble_eq_true rfl) ⟨show _ ≤ 600000 by omega, show _ ≤ 7302249 by omega⟩ ?_
  rintro h2 _ ⟨rfl, q2, hk2⟩
  refine a_icmp_eq 1563 1512 dL_law_1509 rfl (by decide) (fun c_1509 => ?_) (fun c_1509 => absurd rfl c_1509)
  refine rW_widen (k' := k + 2) (n' := n + 8) (by omega) (by omega) ?_
  exact NX _ _ ⟨cAll_kpm q1 hk2, q2, o, m_len q2⟩
set_option maxRecDepth 100000 in
set_option maxHeartbeats 400000 in
theorem lw_trace (hL : gL G ≤ 3072) (hi : i + 6 ≤ gL G) (hk : k ≤ 500000) (hn : n ≤ 7000000) (I : INV G h T) (NX : lwN l G nm i k n) : rW l G room_1 (mLaw nm) (lZ G) k n 1514 (lwLs G i) [] h := by
  have q := I.1
  have o := I.2.2.1
  have hlen := I.2.2.2
  have q0 := q.1.1
  obtain ⟨im, jm, qx⟩ := id I.2.1
  have hm := qx.at
  refine a_aload_n 1515 dL_law_1514 rfl rfl ?_
  refine a_callV ok_X11_trace ln_L_162 in_X11_trace rfl 1518 dL_law_1515 rfl (c_trace q) (by repeat (first | assumption | (refine rg_ne (by first | decide | omega) ?_) | apply rg_eq | refine rg_fr (by assumption) (by first | decide | (simp; omega)) ?_)) rfl rfl rfl ⟨(Nat.le_of_ble_eq_true rfl), (Nat.le_of_ble_eq_true rfl)⟩ (Nat.le_of_ble_eq_true rfl) ⟨show _ ≤ 600000 by omega, show _ ≤ 7302249 by omega⟩ ?_
  rintro h1 _ ⟨rfl, q1, hk1⟩
  have qm := mAll_kpc I.2.1 hk1
  obtain ⟨i1, j1, qx1⟩ := id qm
  have hm1 := qx1.at
  refine a_aload_n 1519 dL_law_1518 rfl rfl ?_
  refine a_callV ok_X12_trace ln_L_166 in_X12_trace rfl 1522 dL_law_1519 rfl (m_trace qm) (by repeat (first | assumption | (refine rg_ne (by first | decide | omega) ?_) | apply rg_eq | refine rg_fr (by assumption) (by first | decide | (simp; omega)) ?_)) rfl rfl rfl ⟨(Nat.le_of_ble_eq_true rfl), (Nat.le_of_ble_eq_true rfl)⟩ (Nat.le_of_ble_eq_true rfl) ⟨show _ ≤ 600000 by omega, show _ ≤ 7302249 by omega⟩ ?_
  rintro h2 _ ⟨rfl, q2, hk2⟩
  refine a_icmp_eq 1563 1525 dL_law_1522 rfl (by decide) (fun c_1522 => ?_) (fun c_1522 => absurd rfl c_1522)
  refine rW_widen (k' := k + 2) (n' := n + 8) (by omega) (by omega) ?_
  exact NX _ _ ⟨cAll_kpm q1 hk2, q2, o, m_len q2⟩
set_option maxRecDepth 100000 in
set_option maxHeartbeats 400000 in
theorem lw_fault (hL : gL G ≤ 3072) (hi : i + 6 ≤ gL G) (hk : k ≤ 500000) (hn : n ≤ 7000000) (I : INV G h T) (NX : lwN l G nm i k n) : rW l G room_1 (mLaw nm) (lZ G) k n 1527 (lwLs G i) [] h := by
  have q := I.1
  have o := I.2.2.1
  have hlen := I.2.2.2
  have q0 := q.1.1
  obtain ⟨im, jm, qx⟩ := id I.2.1
  have hm := qx.at
  refine a_aload_n 1528 dL_law_1527 rfl rfl ?_
  refine a_callV ok_X11_fault ln_L_167 in_X11_fault rfl 1531 dL_law_1528 rfl (c_fault q) (by repeat (first | assumption | (refine rg_ne (by first | decide | omega) ?_) | apply rg_eq | refine rg_fr (by assumption) (by first | decide | (simp; omega)) ?_)) rfl rfl rfl ⟨(Nat.le_of_ble_eq_true rfl), (Nat.le_of_ble_eq_true rfl)⟩ (Nat.le_of_ble_eq_true rfl) ⟨show _ ≤ 600000 by omega, show _ ≤ 7302249 by omega⟩ ?_
  rintro h1 _ ⟨rfl, q1, hk1⟩
  have qm := mAll_kpc I.2.1 hk1
  obtain ⟨i1, j1, qx1⟩ := id qm
  have hm1 := qx1.at
  refine a_aload_n 1532 dL_law_1531 rfl rfl ?_
  refine a_callV ok_X12_fault ln_L_170 in_X12_fault rfl 1535 dL_law_1532 rfl (m_fault qm) (by repeat (first | assumption | (refine rg_ne (by first | decide | omega) ?_) | apply rg_eq | refine rg_fr (by assumption) (by first | decide | (simp; omega)) ?_)) rfl rfl rfl ⟨(Nat.le_of_ble_eq_true rfl), (Nat.le_of_ble_eq_true rfl)⟩ (Nat.le_of_ble_eq_true rfl) ⟨show _ ≤ 600000 by omega, show _ ≤ 7302249 by omega⟩ ?_
  rintro h2 _ ⟨rfl, q2, hk2⟩
  refine a_icmp_eq 1563 1538 dL_law_1535 rfl (by decide) (fun c_1535 => ?_) (fun c_1535 => absurd rfl c_1535)
  refine rW_widen (k' := k + 2) (n' := n + 8) (by omega) (by omega) ?_
  exact NX _ _ ⟨cAll_kpm q1 hk2, q2, o, m_len q2⟩
set_option maxRecDepth 100000 in
set_option maxHeartbeats 400000 in
theorem lw_many (hL : gL G ≤ 3072) (hi : i + 6 ≤ gL G) (hk : k ≤ 500000) (hn : n ≤ 7000000) (I : INV G h T) (NX : lwN l G nm i k n) : rW l G room_1 (mLaw nm) (lZ G) k n 1540 (lwLs G i) [] h := by
  have q := I.1
  have o := I.2.2.1
  have hlen := I.2.2.2
  have q0 := q.1.1
  obtain ⟨im, jm, qx⟩ := id I.2.1
  have hm := qx.at
  have v1 := lw_ix hL hi 1 1 (by decide) rfl
  refine a_aload_n 1541 dL_law_1540 rfl rfl ?_
  refine a_aload_n 1542 dL_law_1541 rfl rfl ?_
  refine a_iload_n 1543 dL_law_1542 rfl rfl ?_
  refine a_iconst (1) 1544 dL_law_1543 rfl (by decide) ?_
  refine a_iadd 1545 dL_law_1544 rfl ?_
  refine a_iaload_s  1546 dL_law_1545 rfl rfl v1 ?_
  refine a_callV ok_X11_many ln_L_171 in_X11_many rfl 1549 dL_law_1546 rfl (c_many q _) (by repeat (first | assumption | (refine rg_ne (by first | decide | omega) ?_) | apply rg_eq | refine rg_fr (by assumption) (by first | decide | (simp; omega)) ?_)) rfl rfl rfl ⟨(Nat.le_of_ble_eq_true rfl), (Nat.le_of_ble_eq_true rfl)⟩ (Nat.le_of_ble_eq_true rfl) ⟨show _ ≤ 600000 by omega, show _ ≤ 7302249 by omega⟩ ?_
  rintro h1 _ ⟨rfl, q1, hk1⟩
  have qm := mAll_kpc I.2.1 hk1
  obtain ⟨i1, j1, qx1⟩ := id qm
  have hm1 := qx1.at
  refine a_aload_n 1550 dL_law_1549 rfl rfl ?_
  refine a_aload_n 1551 dL_law_1550 rfl rfl ?_
  refine a_iload_n 1552 dL_law_1551 rfl rfl ?_
  refine a_iconst (1) 1553 dL_law_1552 rfl (by decide) ?_
  refine a_iadd 1554 dL_law_1553 rfl ?_
  refine a_iaload_s  1555 dL_law_1554 rfl rfl v1 ?_
  refine a_callV ok_X12_many ln_L_174 in_X12_many rfl 1558 dL_law_1555 rfl (m_many qm o _) (by repeat (first | assumption | (refine rg_ne (by first | decide | omega) ?_) | apply rg_eq | refine rg_fr (by assumption) (by first | decide | (simp; omega)) ?_)) rfl rfl rfl ⟨(Nat.le_of_ble_eq_true rfl), (Nat.le_of_ble_eq_true rfl)⟩ (Nat.le_of_ble_eq_true rfl) ⟨show _ ≤ 600000 by omega, show _ ≤ 7302249 by omega⟩ ?_
  rintro h2 _ ⟨rfl, q2, hk2⟩
  refine a_icmp_eq 1563 1561 dL_law_1558 rfl (by decide) (fun c_1558 => ?_) (fun c_1558 => absurd rfl c_1558)
  refine rW_widen (k' := k + 2) (n' := n + 8) (by omega) (by omega) ?_
  exact NX _ _ ⟨cAll_kpm q1 hk2, q2, o, m_len q2⟩
end LAWC
