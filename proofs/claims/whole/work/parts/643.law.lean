set_option maxHeartbeats 4000000 in
set_option maxRecDepth 100000 in
theorem law_register {p : Program} {l : Launch} {e : Env} {s : State} {m : MethodId} {below : List Frame} {meth : Method} {c : Code} {D : va_G} {cI cL : ClassId} {tS : Nat} {sc : Nat → Nat} {b L : Nat} {xs : Nat → Int32} {o : Nat → Nat} {ob : Nat} {x4 : Int32} {cells slots : Nat} {Q : State → Prop} (C : LC p l s m c D cI cL tS sc b L xs) (hf1 : cells + 1 ≤ room_1.cells ∧ slots + 6 ≤ room_1.slots) {g f F : Nat → Int32} {a : Nat → Nat → Int32} {w : Nat → Int64} {H : Heap} {locs : List Loc} {ls : Array Slot} (hM : Mid g f F) (hA : OkA a)
    (hP : va_P D vwCl (wL cI cL o ob g f a F a w) H) (hD : va_D (fun q : Nat => s.heap.size ≤ q) (wL cI cL o ob g f a F a w)) (hS : va_S (fun q : Nat => s.heap.size ≤ q) s.heap H locs) (hl : lv_has ls 7 [(0, .ref b), (1, .ref (o 10)), (2, .ref (o 20)), (3, .ref ob), (4, .int x4)]) (h1 : vp_in (x4 + 1) L)
    (kk : LN p l e s m below meth c D cI cL o ob b x4 (cells + 1) (slots + 6) Q) : W p l e room_1 s m #[Value.ref b] below meth c H locs cells slots Q (F0 m 308 ls []) := by
  obtain ⟨hl0, hx, hb, hml, hown, hts, hX, hbl, hK, hL, hG⟩ := C
  have hA0 : ∀ q : Nat, s.heap.size ≤ q → (fun q : Nat => s.heap.size ≤ q) q := fun _ h => h
  have hbA : ¬ (fun q : Nat => s.heap.size ≤ q) b := Nat.not_le.mpr hbl
  have hf0 : cells ≤ room_1.cells ∧ slots ≤ room_1.slots := ⟨Nat.le_trans (Nat.le_add_right _ 1) hf1.1, Nat.le_trans (Nat.le_add_right _ 6) hf1.2⟩
  cases ht : xRegisterX g f a (xs (x4 + 1).toNatClampNeg) with
  | true =>
    have kcL := kL_register_t l hl0 D cI cL o tS sc ob w g f a (xs (x4 + 1).toNatClampNeg) ht
    have e5 := m_register hM a (xs (x4 + 1).toNatClampNeg)
    rw [ht] at e5
    have kc5 := kX5_register l D cI o F a (xs (x4 + 1).toNatClampNeg)
    rw [e5] at kc5
    dsimp only at kc5
    refine lv_aload_n hx hb dL_law_308 rfl (lv_at hl 1 rfl) ?_
    refine lv_aload_n hx hb dL_law_309 rfl (lv_at hl 0 rfl) ?_
    refine lv_iload hx hb dL_law_310 (lv_at hl 4 rfl) ?_
    refine lv_iconst (v := 1) hx hb dL_law_312 (by decide) ?_
    refine lv_iadd hx hb dL_law_313 ?_
    refine va_sld hx hb hX hbl hbA hS h1 dL_law_314 ?_
    refine lv_aload_n hx hb dL_law_315 rfl (lv_at hl 3 rfl) ?_
    refine KL.callS (rest := []) (wt := wL cI cL o ob g f a F a w) kcL (vx_cwSW 3 hts gL_law_L_register rfl rfl rfl (by decide +kernel) ⟨Nat.le_of_ble_eq_true rfl, Nat.le_of_ble_eq_true rfl⟩) ⟨hx, hb, hml, hown, hts⟩ hK hL hP hD hS hA0 hG [0, 1, 2, 3, 4, 5, 6, 7, 8, 9, 10, 18] [11, 12, 13, 14, 15, 16, 17] [7, 8, 9, 10, 11, 12, 13, 14, 15, 16, 17, 0, 1, 2, 3, 4, 5, 6, 18] (by decide) rfl (wr := [_, _, _, _, _, _, _]) rfl (by decide) (by decide) (by decide) rfl rfl hl.1 rfl (Nat.le_of_ble_eq_true rfl) dL_law_316 hf1 (fun H locs hP hD hS => ?_)
    refine lv_istore (lv' := [(5, .int 1), (0, .ref b), (1, .ref (o 10)), (2, .ref (o 20)), (3, .ref ob), (4, .int x4)]) hx hb dL_law_319 hl (by decide) rfl (fun ls hl => ?_)
    refine lv_aload_n hx hb dL_law_321 rfl (lv_at hl 3 rfl) ?_
    refine lv_aload_n hx hb dL_law_322 rfl (lv_at hl 1 rfl) ?_
    refine lv_iload hx hb dL_law_323 (lv_at hl 5 rfl) ?_
    refine lv_iconst (v := 1) hx hb dL_law_325 (by decide) ?_
    refine lv_iadd hx hb dL_law_326 ?_
    refine va_sld hx hb hX hbl hbA hS h1 dL_law_327 ?_
    refine KC.calli (ci := 5) (rest := []) (wt := wL cI cL o ob g f a (upd F 11 (Cd true)) a w) kc5 (cwV 1 hts gL_law_X5_register rfl rfl rfl (by decide +kernel) ⟨Nat.le_of_ble_eq_true rfl, Nat.le_of_ble_eq_true rfl⟩) ⟨hx, hb, hml, hown, hts⟩ hK hP hD hS hA0 rfl rfl rfl [11, 12, 13, 14, 15, 16, 17] [0, 1, 2, 3, 4, 5, 6, 7, 8, 9, 10, 18] [0, 1, 2, 3, 4, 5, 6, 7, 8, 9, 10, 12, 13, 14, 15, 16, 17, 18, 11] (by decide) rfl (wr := [_, _, _, _, _, _, _, _, _, _, _, _]) rfl (by decide) (by decide) (by decide) rfl rfl hl.1 rfl (Nat.le_of_ble_eq_true rfl) dL_law_328 hf1 (fun H locs hP hD hS => ?_)
    refine lv_istore (lv' := [(6, .int (xRegister g f a (xs (x4 + 1).toNatClampNeg))), (5, .int 1), (0, .ref b), (1, .ref (o 10)), (2, .ref (o 20)), (3, .ref ob), (4, .int x4)]) hx hb dL_law_331 hl (by decide) rfl (fun ls hl => ?_)
    refine lv_aload_n hx hb dL_law_333 rfl (lv_at hl 4 rfl) ?_
    have kcT := kX5_thrown l D cI o (upd F 11 (Cd true)) a
    refine KC.calli (ci := 5) (rest := []) (wt := wL cI cL o ob g f a (upd F 11 (Cd true)) a w) kcT (cwV 0 hts gL_law_X5_thrown rfl rfl rfl (by decide +kernel) ⟨Nat.le_of_ble_eq_true rfl, Nat.le_of_ble_eq_true rfl⟩) ⟨hx, hb, hml, hown, hts⟩ hK hP hD hS hA0 rfl rfl rfl [11, 12, 13, 14, 15, 16, 17] [0, 1, 2, 3, 4, 5, 6, 7, 8, 9, 10, 18] [0, 1, 2, 3, 4, 5, 6, 7, 8, 9, 10, 12, 13, 14, 15, 16, 17, 18, 11] (by decide) rfl (wr := [_, _, _, _, _, _, _, _, _, _, _, _]) rfl (by decide) (by decide) (by decide) rfl rfl hl.1 rfl (Nat.le_of_ble_eq_true rfl) dL_law_334 hf1 (fun H locs hP hD hS => ?_)
    refine lv_iload hx hb dL_law_337 (lv_at hl 1 rfl) ?_
    refine lv_icmp_eq (tgt := 344) hx hb dL_law_339 (by decide) (fun _ => ?_) (fun c9 => absurd ((th_cd F (Cd true))) c9)
    refine lv_iload hx hb dL_law_344 (lv_at hl 1 rfl) ?_
    refine lv_if_ne (tgt := 361) hx hb dL_law_346 (by decide) (fun _ => ?_) (fun c9 => absurd c9 (by decide))
    refine lv_goto (tgt := 667) hx hb dL_law_361 (by decide) ?_
    exact kk g f (upd F 11 (Cd true)) a w H locs _ (hM.cd _) hA hP hD hS (lv_sub hl [2, 3, 4, 5, 6] rfl)
  | false =>
    have kcL := kL_register_f l hl0 D cI cL o tS sc ob w g f a (xs (x4 + 1).toNatClampNeg) ht
    have e5 := m_register hM a (xs (x4 + 1).toNatClampNeg)
    rw [ht] at e5
    have kc5 := kX5_register l D cI o F a (xs (x4 + 1).toNatClampNeg)
    rw [e5] at kc5
    dsimp only at kc5
    refine lv_aload_n hx hb dL_law_308 rfl (lv_at hl 1 rfl) ?_
    refine lv_aload_n hx hb dL_law_309 rfl (lv_at hl 0 rfl) ?_
    refine lv_iload hx hb dL_law_310 (lv_at hl 4 rfl) ?_
    refine lv_iconst (v := 1) hx hb dL_law_312 (by decide) ?_
    refine lv_iadd hx hb dL_law_313 ?_
    refine va_sld hx hb hX hbl hbA hS h1 dL_law_314 ?_
    refine lv_aload_n hx hb dL_law_315 rfl (lv_at hl 3 rfl) ?_
    refine KL.callS (rest := []) (wt := wL cI cL o ob g f a F a (vp_updL w (0 : Int32).toNatClampNeg ((xRegister g f a (xs (x4 + 1).toNatClampNeg))).toInt64)) kcL (vx_cwSW 3 hts gL_law_L_register rfl rfl rfl (by decide +kernel) ⟨Nat.le_of_ble_eq_true rfl, Nat.le_of_ble_eq_true rfl⟩) ⟨hx, hb, hml, hown, hts⟩ hK hL hP hD hS hA0 hG [0, 1, 2, 3, 4, 5, 6, 7, 8, 9, 10, 18] [11, 12, 13, 14, 15, 16, 17] [7, 8, 9, 10, 11, 12, 13, 14, 15, 16, 17, 0, 1, 2, 3, 4, 5, 6, 18] (by decide) rfl (wr := [_, _, _, _, _, _, _]) rfl (by decide) (by decide) (by decide) rfl rfl hl.1 rfl (Nat.le_of_ble_eq_true rfl) dL_law_316 hf1 (fun H locs hP hD hS => ?_)
    refine lv_istore (lv' := [(5, .int 0), (0, .ref b), (1, .ref (o 10)), (2, .ref (o 20)), (3, .ref ob), (4, .int x4)]) hx hb dL_law_319 hl (by decide) rfl (fun ls hl => ?_)
    refine lv_aload_n hx hb dL_law_321 rfl (lv_at hl 3 rfl) ?_
    refine lv_aload_n hx hb dL_law_322 rfl (lv_at hl 1 rfl) ?_
    refine lv_iload hx hb dL_law_323 (lv_at hl 5 rfl) ?_
    refine lv_iconst (v := 1) hx hb dL_law_325 (by decide) ?_
    refine lv_iadd hx hb dL_law_326 ?_
    refine va_sld hx hb hX hbl hbA hS h1 dL_law_327 ?_
    refine KC.calli (ci := 5) (rest := []) (wt := wL cI cL o ob g f a (upd F 11 (Cd false)) a (vp_updL w (0 : Int32).toNatClampNeg ((xRegister g f a (xs (x4 + 1).toNatClampNeg))).toInt64)) kc5 (cwV 1 hts gL_law_X5_register rfl rfl rfl (by decide +kernel) ⟨Nat.le_of_ble_eq_true rfl, Nat.le_of_ble_eq_true rfl⟩) ⟨hx, hb, hml, hown, hts⟩ hK hP hD hS hA0 rfl rfl rfl [11, 12, 13, 14, 15, 16, 17] [0, 1, 2, 3, 4, 5, 6, 7, 8, 9, 10, 18] [0, 1, 2, 3, 4, 5, 6, 7, 8, 9, 10, 12, 13, 14, 15, 16, 17, 18, 11] (by decide) rfl (wr := [_, _, _, _, _, _, _, _, _, _, _, _]) rfl (by decide) (by decide) (by decide) rfl rfl hl.1 rfl (Nat.le_of_ble_eq_true rfl) dL_law_328 hf1 (fun H locs hP hD hS => ?_)
    refine lv_istore (lv' := [(6, .int (xRegister g f a (xs (x4 + 1).toNatClampNeg))), (5, .int 0), (0, .ref b), (1, .ref (o 10)), (2, .ref (o 20)), (3, .ref ob), (4, .int x4)]) hx hb dL_law_331 hl (by decide) rfl (fun ls hl => ?_)
    refine lv_aload_n hx hb dL_law_333 rfl (lv_at hl 4 rfl) ?_
    have kcT := kX5_thrown l D cI o (upd F 11 (Cd false)) a
    refine KC.calli (ci := 5) (rest := []) (wt := wL cI cL o ob g f a (upd F 11 (Cd false)) a (vp_updL w (0 : Int32).toNatClampNeg ((xRegister g f a (xs (x4 + 1).toNatClampNeg))).toInt64)) kcT (cwV 0 hts gL_law_X5_thrown rfl rfl rfl (by decide +kernel) ⟨Nat.le_of_ble_eq_true rfl, Nat.le_of_ble_eq_true rfl⟩) ⟨hx, hb, hml, hown, hts⟩ hK hP hD hS hA0 rfl rfl rfl [11, 12, 13, 14, 15, 16, 17] [0, 1, 2, 3, 4, 5, 6, 7, 8, 9, 10, 18] [0, 1, 2, 3, 4, 5, 6, 7, 8, 9, 10, 12, 13, 14, 15, 16, 17, 18, 11] (by decide) rfl (wr := [_, _, _, _, _, _, _, _, _, _, _, _]) rfl (by decide) (by decide) (by decide) rfl rfl hl.1 rfl (Nat.le_of_ble_eq_true rfl) dL_law_334 hf1 (fun H locs hP hD hS => ?_)
    refine lv_iload hx hb dL_law_337 (lv_at hl 1 rfl) ?_
    refine lv_icmp_eq (tgt := 344) hx hb dL_law_339 (by decide) (fun _ => ?_) (fun c9 => absurd ((th_cd F (Cd false))) c9)
    refine lv_iload hx hb dL_law_344 (lv_at hl 1 rfl) ?_
    refine lv_if_ne (tgt := 361) hx hb dL_law_346 (by decide) (fun c9 => absurd rfl c9) (fun _ => ?_)
    refine lv_aload_n hx hb dL_law_349 rfl (lv_at hl 5 rfl) ?_
    refine lv_iconst (v := 0) hx hb dL_law_350 (by decide) ?_
    refine va_lald (tys := [(cL, .long)]) hx hb hL hP 18 0 rfl rfl vp_in01 dL_law_351 ?_
    refine lv_iload hx hb dL_law_352 (lv_at hl 0 rfl) ?_
    refine lv_i2l hx hb dL_law_354 rfl ?_
    refine lw_lcmp0 hx hb (th_out w _) dL_law_355 ?_
    refine lv_if_eq (tgt := 361) hx hb dL_law_356 (by decide) (fun _ => ?_) (fun c9 => absurd rfl c9)
    refine lv_goto (tgt := 667) hx hb dL_law_361 (by decide) ?_
    exact kk g f (upd F 11 (Cd false)) a (vp_updL w (0 : Int32).toNatClampNeg ((xRegister g f a (xs (x4 + 1).toNatClampNeg))).toInt64) H locs _ (hM.cd _) hA hP hD hS (lv_sub hl [2, 3, 4, 5, 6] rfl)
set_option maxHeartbeats 4000000 in
set_option maxRecDepth 100000 in
theorem law_dot {p : Program} {l : Launch} {e : Env} {s : State} {m : MethodId} {below : List Frame} {meth : Method} {c : Code} {D : va_G} {cI cL : ClassId} {tS : Nat} {sc : Nat → Nat} {b L : Nat} {xs : Nat → Int32} {o : Nat → Nat} {ob : Nat} {x4 : Int32} {cells slots : Nat} {Q : State → Prop} (C : LC p l s m c D cI cL tS sc b L xs) (hf1 : cells + 1 ≤ room_1.cells ∧ slots + 6 ≤ room_1.slots) {g f F : Nat → Int32} {a : Nat → Nat → Int32} {w : Nat → Int64} {H : Heap} {locs : List Loc} {ls : Array Slot} (hM : Mid g f F) (hA : OkA a)
    (hP : va_P D vwCl (wL cI cL o ob g f a F a w) H) (hD : va_D (fun q : Nat => s.heap.size ≤ q) (wL cI cL o ob g f a F a w)) (hS : va_S (fun q : Nat => s.heap.size ≤ q) s.heap H locs) (hl : lv_has ls 7 [(0, .ref b), (1, .ref (o 10)), (2, .ref (o 20)), (3, .ref ob), (4, .int x4)]) (h1 : vp_in (x4 + 1) L) (h2 : vp_in (x4 + 2) L)
    (kk : LN p l e s m below meth c D cI cL o ob b x4 (cells + 1) (slots + 6) Q) : W p l e room_1 s m #[Value.ref b] below meth c H locs cells slots Q (F0 m 426 ls []) := by
  obtain ⟨hl0, hx, hb, hml, hown, hts, hX, hbl, hK, hL, hG⟩ := C
  have hA0 : ∀ q : Nat, s.heap.size ≤ q → (fun q : Nat => s.heap.size ≤ q) q := fun _ h => h
  have hbA : ¬ (fun q : Nat => s.heap.size ≤ q) b := Nat.not_le.mpr hbl
  have hf0 : cells ≤ room_1.cells ∧ slots ≤ room_1.slots := ⟨Nat.le_trans (Nat.le_add_right _ 1) hf1.1, Nat.le_trans (Nat.le_add_right _ 6) hf1.2⟩
  cases ht : xDotX g f a (xs (x4 + 1).toNatClampNeg) (xs (x4 + 2).toNatClampNeg) with
  | true =>
    have kcL := kL_dot_t l hl0 D cI cL o tS sc ob w g f a (xs (x4 + 1).toNatClampNeg) (xs (x4 + 2).toNatClampNeg) ht
    have e5 := m_dot (g := g) (f := f) (F := F) hA (xs (x4 + 1).toNatClampNeg) (xs (x4 + 2).toNatClampNeg)
    rw [ht] at e5
    have kc5 := kX5_dot l D cI o F a (xs (x4 + 1).toNatClampNeg) (xs (x4 + 2).toNatClampNeg)
    rw [e5] at kc5
    dsimp only at kc5
    refine lv_aload_n hx hb dL_law_426 rfl (lv_at hl 1 rfl) ?_
    refine lv_aload_n hx hb dL_law_427 rfl (lv_at hl 0 rfl) ?_
    refine lv_iload hx hb dL_law_428 (lv_at hl 4 rfl) ?_
    refine lv_iconst (v := 1) hx hb dL_law_430 (by decide) ?_
    refine lv_iadd hx hb dL_law_431 ?_
    refine va_sld hx hb hX hbl hbA hS h1 dL_law_432 ?_
    refine lv_aload_n hx hb dL_law_433 rfl (lv_at hl 0 rfl) ?_
    refine lv_iload hx hb dL_law_434 (lv_at hl 4 rfl) ?_
    refine lv_iconst (v := 2) hx hb dL_law_436 (by decide) ?_
    refine lv_iadd hx hb dL_law_437 ?_
    refine va_sld hx hb hX hbl hbA hS h2 dL_law_438 ?_
    refine lv_aload_n hx hb dL_law_439 rfl (lv_at hl 3 rfl) ?_
    refine KL.callS (rest := []) (wt := wL cI cL o ob g f a F a w) kcL (vx_cwSW 4 hts gL_law_L_dot rfl rfl rfl (by decide +kernel) ⟨Nat.le_of_ble_eq_true rfl, Nat.le_of_ble_eq_true rfl⟩) ⟨hx, hb, hml, hown, hts⟩ hK hL hP hD hS hA0 hG [0, 1, 2, 3, 4, 5, 6, 7, 8, 9, 10, 18] [11, 12, 13, 14, 15, 16, 17] [7, 8, 9, 10, 11, 12, 13, 14, 15, 16, 17, 0, 1, 2, 3, 4, 5, 6, 18] (by decide) rfl (wr := [_, _, _, _, _, _, _]) rfl (by decide) (by decide) (by decide) rfl rfl hl.1 rfl (Nat.le_of_ble_eq_true rfl) dL_law_440 hf1 (fun H locs hP hD hS => ?_)
    refine lv_istore (lv' := [(5, .int 1), (0, .ref b), (1, .ref (o 10)), (2, .ref (o 20)), (3, .ref ob), (4, .int x4)]) hx hb dL_law_443 hl (by decide) rfl (fun ls hl => ?_)
    refine lv_aload_n hx hb dL_law_445 rfl (lv_at hl 3 rfl) ?_
    refine lv_aload_n hx hb dL_law_446 rfl (lv_at hl 1 rfl) ?_
    refine lv_iload hx hb dL_law_447 (lv_at hl 5 rfl) ?_
    refine lv_iconst (v := 1) hx hb dL_law_449 (by decide) ?_
    refine lv_iadd hx hb dL_law_450 ?_
    refine va_sld hx hb hX hbl hbA hS h1 dL_law_451 ?_
    refine lv_aload_n hx hb dL_law_452 rfl (lv_at hl 1 rfl) ?_
    refine lv_iload hx hb dL_law_453 (lv_at hl 5 rfl) ?_
    refine lv_iconst (v := 2) hx hb dL_law_455 (by decide) ?_
    refine lv_iadd hx hb dL_law_456 ?_
    refine va_sld hx hb hX hbl hbA hS h2 dL_law_457 ?_
    refine KC.calli (ci := 5) (rest := []) (wt := wL cI cL o ob g f a (upd F 11 (Cd true)) a w) kc5 (cwV 2 hts gL_law_X5_dot rfl rfl rfl (by decide +kernel) ⟨Nat.le_of_ble_eq_true rfl, Nat.le_of_ble_eq_true rfl⟩) ⟨hx, hb, hml, hown, hts⟩ hK hP hD hS hA0 rfl rfl rfl [11, 12, 13, 14, 15, 16, 17] [0, 1, 2, 3, 4, 5, 6, 7, 8, 9, 10, 18] [0, 1, 2, 3, 4, 5, 6, 7, 8, 9, 10, 12, 13, 14, 15, 16, 17, 18, 11] (by decide) rfl (wr := [_, _, _, _, _, _, _, _, _, _, _, _]) rfl (by decide) (by decide) (by decide) rfl rfl hl.1 rfl (Nat.le_of_ble_eq_true rfl) dL_law_458 hf1 (fun H locs hP hD hS => ?_)
    refine lv_istore (lv' := [(6, .int (xDot g f a (xs (x4 + 1).toNatClampNeg) (xs (x4 + 2).toNatClampNeg))), (5, .int 1), (0, .ref b), (1, .ref (o 10)), (2, .ref (o 20)), (3, .ref ob), (4, .int x4)]) hx hb dL_law_461 hl (by decide) rfl (fun ls hl => ?_)
    refine lv_aload_n hx hb dL_law_463 rfl (lv_at hl 4 rfl) ?_
    have kcT := kX5_thrown l D cI o (upd F 11 (Cd true)) a
    refine KC.calli (ci := 5) (rest := []) (wt := wL cI cL o ob g f a (upd F 11 (Cd true)) a w) kcT (cwV 0 hts gL_law_X5_thrown rfl rfl rfl (by decide +kernel) ⟨Nat.le_of_ble_eq_true rfl, Nat.le_of_ble_eq_true rfl⟩) ⟨hx, hb, hml, hown, hts⟩ hK hP hD hS hA0 rfl rfl rfl [11, 12, 13, 14, 15, 16, 17] [0, 1, 2, 3, 4, 5, 6, 7, 8, 9, 10, 18] [0, 1, 2, 3, 4, 5, 6, 7, 8, 9, 10, 12, 13, 14, 15, 16, 17, 18, 11] (by decide) rfl (wr := [_, _, _, _, _, _, _, _, _, _, _, _]) rfl (by decide) (by decide) (by decide) rfl rfl hl.1 rfl (Nat.le_of_ble_eq_true rfl) dL_law_464 hf1 (fun H locs hP hD hS => ?_)
    refine lv_iload hx hb dL_law_467 (lv_at hl 1 rfl) ?_
    refine lv_icmp_eq (tgt := 474) hx hb dL_law_469 (by decide) (fun _ => ?_) (fun c9 => absurd ((th_cd F (Cd true))) c9)
    refine lv_iload hx hb dL_law_474 (lv_at hl 1 rfl) ?_
    refine lv_if_ne (tgt := 491) hx hb dL_law_476 (by decide) (fun _ => ?_) (fun c9 => absurd c9 (by decide))
    refine lv_goto (tgt := 667) hx hb dL_law_491 (by decide) ?_
    exact kk g f (upd F 11 (Cd true)) a w H locs _ (hM.cd _) hA hP hD hS (lv_sub hl [2, 3, 4, 5, 6] rfl)
  | false =>
    have kcL := kL_dot_f l hl0 D cI cL o tS sc ob w g f a (xs (x4 + 1).toNatClampNeg) (xs (x4 + 2).toNatClampNeg) ht
    have e5 := m_dot (g := g) (f := f) (F := F) hA (xs (x4 + 1).toNatClampNeg) (xs (x4 + 2).toNatClampNeg)
    rw [ht] at e5
    have kc5 := kX5_dot l D cI o F a (xs (x4 + 1).toNatClampNeg) (xs (x4 + 2).toNatClampNeg)
    rw [e5] at kc5
    dsimp only at kc5
    refine lv_aload_n hx hb dL_law_426 rfl (lv_at hl 1 rfl) ?_
    refine lv_aload_n hx hb dL_law_427 rfl (lv_at hl 0 rfl) ?_
    refine lv_iload hx hb dL_law_428 (lv_at hl 4 rfl) ?_
    refine lv_iconst (v := 1) hx hb dL_law_430 (by decide) ?_
    refine lv_iadd hx hb dL_law_431 ?_
    refine va_sld hx hb hX hbl hbA hS h1 dL_law_432 ?_
    refine lv_aload_n hx hb dL_law_433 rfl (lv_at hl 0 rfl) ?_
    refine lv_iload hx hb dL_law_434 (lv_at hl 4 rfl) ?_
    refine lv_iconst (v := 2) hx hb dL_law_436 (by decide) ?_
    refine lv_iadd hx hb dL_law_437 ?_
    refine va_sld hx hb hX hbl hbA hS h2 dL_law_438 ?_
    refine lv_aload_n hx hb dL_law_439 rfl (lv_at hl 3 rfl) ?_
    refine KL.callS (rest := []) (wt := wL cI cL o ob g f a F a (vp_updL w (0 : Int32).toNatClampNeg ((xDot g f a (xs (x4 + 1).toNatClampNeg) (xs (x4 + 2).toNatClampNeg))).toInt64)) kcL (vx_cwSW 4 hts gL_law_L_dot rfl rfl rfl (by decide +kernel) ⟨Nat.le_of_ble_eq_true rfl, Nat.le_of_ble_eq_true rfl⟩) ⟨hx, hb, hml, hown, hts⟩ hK hL hP hD hS hA0 hG [0, 1, 2, 3, 4, 5, 6, 7, 8, 9, 10, 18] [11, 12, 13, 14, 15, 16, 17] [7, 8, 9, 10, 11, 12, 13, 14, 15, 16, 17, 0, 1, 2, 3, 4, 5, 6, 18] (by decide) rfl (wr := [_, _, _, _, _, _, _]) rfl (by decide) (by decide) (by decide) rfl rfl hl.1 rfl (Nat.le_of_ble_eq_true rfl) dL_law_440 hf1 (fun H locs hP hD hS => ?_)
    refine lv_istore (lv' := [(5, .int 0), (0, .ref b), (1, .ref (o 10)), (2, .ref (o 20)), (3, .ref ob), (4, .int x4)]) hx hb dL_law_443 hl (by decide) rfl (fun ls hl => ?_)
    refine lv_aload_n hx hb dL_law_445 rfl (lv_at hl 3 rfl) ?_
    refine lv_aload_n hx hb dL_law_446 rfl (lv_at hl 1 rfl) ?_
    refine lv_iload hx hb dL_law_447 (lv_at hl 5 rfl) ?_
    refine lv_iconst (v := 1) hx hb dL_law_449 (by decide) ?_
    refine lv_iadd hx hb dL_law_450 ?_
    refine va_sld hx hb hX hbl hbA hS h1 dL_law_451 ?_
    refine lv_aload_n hx hb dL_law_452 rfl (lv_at hl 1 rfl) ?_
    refine lv_iload hx hb dL_law_453 (lv_at hl 5 rfl) ?_
    refine lv_iconst (v := 2) hx hb dL_law_455 (by decide) ?_
    refine lv_iadd hx hb dL_law_456 ?_
    refine va_sld hx hb hX hbl hbA hS h2 dL_law_457 ?_
    refine KC.calli (ci := 5) (rest := []) (wt := wL cI cL o ob g f a (upd F 11 (Cd false)) a (vp_updL w (0 : Int32).toNatClampNeg ((xDot g f a (xs (x4 + 1).toNatClampNeg) (xs (x4 + 2).toNatClampNeg))).toInt64)) kc5 (cwV 2 hts gL_law_X5_dot rfl rfl rfl (by decide +kernel) ⟨Nat.le_of_ble_eq_true rfl, Nat.le_of_ble_eq_true rfl⟩) ⟨hx, hb, hml, hown, hts⟩ hK hP hD hS hA0 rfl rfl rfl [11, 12, 13, 14, 15, 16, 17] [0, 1, 2, 3, 4, 5, 6, 7, 8, 9, 10, 18] [0, 1, 2, 3, 4, 5, 6, 7, 8, 9, 10, 12, 13, 14, 15, 16, 17, 18, 11] (by decide) rfl (wr := [_, _, _, _, _, _, _, _, _, _, _, _]) rfl (by decide) (by decide) (by decide) rfl rfl hl.1 rfl (Nat.le_of_ble_eq_true rfl) dL_law_458 hf1 (fun H locs hP hD hS => ?_)
    refine lv_istore (lv' := [(6, .int (xDot g f a (xs (x4 + 1).toNatClampNeg) (xs (x4 + 2).toNatClampNeg))), (5, .int 0), (0, .ref b), (1, .ref (o 10)), (2, .ref (o 20)), (3, .ref ob), (4, .int x4)]) hx hb dL_law_461 hl (by decide) rfl (fun ls hl => ?_)
    refine lv_aload_n hx hb dL_law_463 rfl (lv_at hl 4 rfl) ?_
    have kcT := kX5_thrown l D cI o (upd F 11 (Cd false)) a
    refine KC.calli (ci := 5) (rest := []) (wt := wL cI cL o ob g f a (upd F 11 (Cd false)) a (vp_updL w (0 : Int32).toNatClampNeg ((xDot g f a (xs (x4 + 1).toNatClampNeg) (xs (x4 + 2).toNatClampNeg))).toInt64)) kcT (cwV 0 hts gL_law_X5_thrown rfl rfl rfl (by decide +kernel) ⟨Nat.le_of_ble_eq_true rfl, Nat.le_of_ble_eq_true rfl⟩) ⟨hx, hb, hml, hown, hts⟩ hK hP hD hS hA0 rfl rfl rfl [11, 12, 13, 14, 15, 16, 17] [0, 1, 2, 3, 4, 5, 6, 7, 8, 9, 10, 18] [0, 1, 2, 3, 4, 5, 6, 7, 8, 9, 10, 12, 13, 14, 15, 16, 17, 18, 11] (by decide) rfl (wr := [_, _, _, _, _, _, _, _, _, _, _, _]) rfl (by decide) (by decide) (by decide) rfl rfl hl.1 rfl (Nat.le_of_ble_eq_true rfl) dL_law_464 hf1 (fun H locs hP hD hS => ?_)
    refine lv_iload hx hb dL_law_467 (lv_at hl 1 rfl) ?_
    refine lv_icmp_eq (tgt := 474) hx hb dL_law_469 (by decide) (fun _ => ?_) (fun c9 => absurd ((th_cd F (Cd false))) c9)
    refine lv_iload hx hb dL_law_474 (lv_at hl 1 rfl) ?_
    refine lv_if_ne (tgt := 491) hx hb dL_law_476 (by decide) (fun c9 => absurd rfl c9) (fun _ => ?_)
    refine lv_aload_n hx hb dL_law_479 rfl (lv_at hl 5 rfl) ?_
    refine lv_iconst (v := 0) hx hb dL_law_480 (by decide) ?_
    refine va_lald (tys := [(cL, .long)]) hx hb hL hP 18 0 rfl rfl vp_in01 dL_law_481 ?_
    refine lv_iload hx hb dL_law_482 (lv_at hl 0 rfl) ?_
    refine lv_i2l hx hb dL_law_484 rfl ?_
    refine lw_lcmp0 hx hb (th_out w _) dL_law_485 ?_
    refine lv_if_eq (tgt := 491) hx hb dL_law_486 (by decide) (fun _ => ?_) (fun c9 => absurd rfl c9)
    refine lv_goto (tgt := 667) hx hb dL_law_491 (by decide) ?_
    exact kk g f (upd F 11 (Cd false)) a (vp_updL w (0 : Int32).toNatClampNeg ((xDot g f a (xs (x4 + 1).toNatClampNeg) (xs (x4 + 2).toNatClampNeg))).toInt64) H locs _ (hM.cd _) hA hP hD hS (lv_sub hl [2, 3, 4, 5, 6] rfl)
set_option maxHeartbeats 4000000 in
set_option maxRecDepth 100000 in
theorem law_state {p : Program} {l : Launch} {e : Env} {s : State} {m : MethodId} {below : List Frame} {meth : Method} {c : Code} {D : va_G} {cI cL : ClassId} {tS : Nat} {sc : Nat → Nat} {b L : Nat} {xs : Nat → Int32} {o : Nat → Nat} {ob : Nat} {x4 : Int32} {cells slots : Nat} {Q : State → Prop} (C : LC p l s m c D cI cL tS sc b L xs) (hf1 : cells + 1 ≤ room_1.cells ∧ slots + 6 ≤ room_1.slots) {g f F : Nat → Int32} {a : Nat → Nat → Int32} {w : Nat → Int64} {H : Heap} {locs : List Loc} {ls : Array Slot} (hM : Mid g f F) (hA : OkA a)
    (hP : va_P D vwCl (wL cI cL o ob g f a F a w) H) (hD : va_D (fun q : Nat => s.heap.size ≤ q) (wL cI cL o ob g f a F a w)) (hS : va_S (fun q : Nat => s.heap.size ≤ q) s.heap H locs) (hl : lv_has ls 7 [(0, .ref b), (1, .ref (o 10)), (2, .ref (o 20)), (3, .ref ob), (4, .int x4)]) (h1 : vp_in (x4 + 1) L)
    (kk : LN p l e s m below meth c D cI cL o ob b x4 (cells + 1) (slots + 6) Q) : W p l e room_1 s m #[Value.ref b] below meth c H locs cells slots Q (F0 m 555 ls []) := by
  obtain ⟨hl0, hx, hb, hml, hown, hts, hX, hbl, hK, hL, hG⟩ := C
  have hA0 : ∀ q : Nat, s.heap.size ≤ q → (fun q : Nat => s.heap.size ≤ q) q := fun _ h => h
  have hbA : ¬ (fun q : Nat => s.heap.size ≤ q) b := Nat.not_le.mpr hbl
  have hf0 : cells ≤ room_1.cells ∧ slots ≤ room_1.slots := ⟨Nat.le_trans (Nat.le_add_right _ 1) hf1.1, Nat.le_trans (Nat.le_add_right _ 6) hf1.2⟩
  cases ht : xStateX g f a (xs (x4 + 1).toNatClampNeg) with
  | true =>
    have kcL := kL_state_t l hl0 D cI cL o tS sc ob w g f a (xs (x4 + 1).toNatClampNeg) ht
    have e5 := m_state hM a (xs (x4 + 1).toNatClampNeg)
    rw [ht] at e5
    have kc5 := kX5_state l D cI o F a (xs (x4 + 1).toNatClampNeg)
    rw [e5] at kc5
    dsimp only at kc5
    refine lv_aload_n hx hb dL_law_555 rfl (lv_at hl 1 rfl) ?_
    refine lv_aload_n hx hb dL_law_556 rfl (lv_at hl 0 rfl) ?_
    refine lv_iload hx hb dL_law_557 (lv_at hl 4 rfl) ?_
    refine lv_iconst (v := 1) hx hb dL_law_559 (by decide) ?_
    refine lv_iadd hx hb dL_law_560 ?_
    refine va_sld hx hb hX hbl hbA hS h1 dL_law_561 ?_
    refine lv_aload_n hx hb dL_law_562 rfl (lv_at hl 3 rfl) ?_
    refine KL.callS (rest := []) (wt := wL cI cL o ob g f a F a w) kcL (vx_cwSW 3 hts gL_law_L_state rfl rfl rfl (by decide +kernel) ⟨Nat.le_of_ble_eq_true rfl, Nat.le_of_ble_eq_true rfl⟩) ⟨hx, hb, hml, hown, hts⟩ hK hL hP hD hS hA0 hG [0, 1, 2, 3, 4, 5, 6, 7, 8, 9, 10, 18] [11, 12, 13, 14, 15, 16, 17] [7, 8, 9, 10, 11, 12, 13, 14, 15, 16, 17, 0, 1, 2, 3, 4, 5, 6, 18] (by decide) rfl (wr := [_, _, _, _, _, _, _]) rfl (by decide) (by decide) (by decide) rfl rfl hl.1 rfl (Nat.le_of_ble_eq_true rfl) dL_law_563 hf1 (fun H locs hP hD hS => ?_)
    refine lv_istore (lv' := [(5, .int 1), (0, .ref b), (1, .ref (o 10)), (2, .ref (o 20)), (3, .ref ob), (4, .int x4)]) hx hb dL_law_566 hl (by decide) rfl (fun ls hl => ?_)
    refine lv_aload_n hx hb dL_law_568 rfl (lv_at hl 3 rfl) ?_
    refine lv_aload_n hx hb dL_law_569 rfl (lv_at hl 1 rfl) ?_
    refine lv_iload hx hb dL_law_570 (lv_at hl 5 rfl) ?_
    refine lv_iconst (v := 1) hx hb dL_law_572 (by decide) ?_
    refine lv_iadd hx hb dL_law_573 ?_
    refine va_sld hx hb hX hbl hbA hS h1 dL_law_574 ?_
    refine KC.calli (ci := 5) (rest := []) (wt := wL cI cL o ob g f a (upd F 11 (Cd true)) a w) kc5 (cwV 1 hts gL_law_X5_state rfl rfl rfl (by decide +kernel) ⟨Nat.le_of_ble_eq_true rfl, Nat.le_of_ble_eq_true rfl⟩) ⟨hx, hb, hml, hown, hts⟩ hK hP hD hS hA0 rfl rfl rfl [11, 12, 13, 14, 15, 16, 17] [0, 1, 2, 3, 4, 5, 6, 7, 8, 9, 10, 18] [0, 1, 2, 3, 4, 5, 6, 7, 8, 9, 10, 12, 13, 14, 15, 16, 17, 18, 11] (by decide) rfl (wr := [_, _, _, _, _, _, _, _, _, _, _, _]) rfl (by decide) (by decide) (by decide) rfl rfl hl.1 rfl (Nat.le_of_ble_eq_true rfl) dL_law_575 hf1 (fun H locs hP hD hS => ?_)
    refine lv_istore (lv' := [(6, .int (xState g f a (xs (x4 + 1).toNatClampNeg))), (5, .int 1), (0, .ref b), (1, .ref (o 10)), (2, .ref (o 20)), (3, .ref ob), (4, .int x4)]) hx hb dL_law_578 hl (by decide) rfl (fun ls hl => ?_)
    refine lv_aload_n hx hb dL_law_580 rfl (lv_at hl 4 rfl) ?_
    have kcT := kX5_thrown l D cI o (upd F 11 (Cd true)) a
    refine KC.calli (ci := 5) (rest := []) (wt := wL cI cL o ob g f a (upd F 11 (Cd true)) a w) kcT (cwV 0 hts gL_law_X5_thrown rfl rfl rfl (by decide +kernel) ⟨Nat.le_of_ble_eq_true rfl, Nat.le_of_ble_eq_true rfl⟩) ⟨hx, hb, hml, hown, hts⟩ hK hP hD hS hA0 rfl rfl rfl [11, 12, 13, 14, 15, 16, 17] [0, 1, 2, 3, 4, 5, 6, 7, 8, 9, 10, 18] [0, 1, 2, 3, 4, 5, 6, 7, 8, 9, 10, 12, 13, 14, 15, 16, 17, 18, 11] (by decide) rfl (wr := [_, _, _, _, _, _, _, _, _, _, _, _]) rfl (by decide) (by decide) (by decide) rfl rfl hl.1 rfl (Nat.le_of_ble_eq_true rfl) dL_law_581 hf1 (fun H locs hP hD hS => ?_)
    refine lv_iload hx hb dL_law_584 (lv_at hl 1 rfl) ?_
    refine lv_icmp_eq (tgt := 591) hx hb dL_law_586 (by decide) (fun _ => ?_) (fun c9 => absurd ((th_cd F (Cd true))) c9)
    refine lv_iload hx hb dL_law_591 (lv_at hl 1 rfl) ?_
    refine lv_if_ne (tgt := 608) hx hb dL_law_593 (by decide) (fun _ => ?_) (fun c9 => absurd c9 (by decide))
    refine lv_goto (tgt := 667) hx hb dL_law_608 (by decide) ?_
    exact kk g f (upd F 11 (Cd true)) a w H locs _ (hM.cd _) hA hP hD hS (lv_sub hl [2, 3, 4, 5, 6] rfl)
  | false =>
    have kcL := kL_state_f l hl0 D cI cL o tS sc ob w g f a (xs (x4 + 1).toNatClampNeg) ht
    have e5 := m_state hM a (xs (x4 + 1).toNatClampNeg)
    rw [ht] at e5
    have kc5 := kX5_state l D cI o F a (xs (x4 + 1).toNatClampNeg)
    rw [e5] at kc5
    dsimp only at kc5
    refine lv_aload_n hx hb dL_law_555 rfl (lv_at hl 1 rfl) ?_
    refine lv_aload_n hx hb dL_law_556 rfl (lv_at hl 0 rfl) ?_
    refine lv_iload hx hb dL_law_557 (lv_at hl 4 rfl) ?_
    refine lv_iconst (v := 1) hx hb dL_law_559 (by decide) ?_
    refine lv_iadd hx hb dL_law_560 ?_
    refine va_sld hx hb hX hbl hbA hS h1 dL_law_561 ?_
    refine lv_aload_n hx hb dL_law_562 rfl (lv_at hl 3 rfl) ?_
    refine KL.callS (rest := []) (wt := wL cI cL o ob g f a F a (vp_updL w (0 : Int32).toNatClampNeg ((xState g f a (xs (x4 + 1).toNatClampNeg))).toInt64)) kcL (vx_cwSW 3 hts gL_law_L_state rfl rfl rfl (by decide +kernel) ⟨Nat.le_of_ble_eq_true rfl, Nat.le_of_ble_eq_true rfl⟩) ⟨hx, hb, hml, hown, hts⟩ hK hL hP hD hS hA0 hG [0, 1, 2, 3, 4, 5, 6, 7, 8, 9, 10, 18] [11, 12, 13, 14, 15, 16, 17] [7, 8, 9, 10, 11, 12, 13, 14, 15, 16, 17, 0, 1, 2, 3, 4, 5, 6, 18] (by decide) rfl (wr := [_, _, _, _, _, _, _]) rfl (by decide) (by decide) (by decide) rfl rfl hl.1 rfl (Nat.le_of_ble_eq_true rfl) dL_law_563 hf1 (fun H locs hP hD hS => ?_)
    refine lv_istore (lv' := [(5, .int 0), (0, .ref b), (1, .ref (o 10)), (2, .ref (o 20)), (3, .ref ob), (4, .int x4)]) hx hb dL_law_566 hl (by decide) rfl (fun ls hl => ?_)
    refine lv_aload_n hx hb dL_law_568 rfl (lv_at hl 3 rfl) ?_
    refine lv_aload_n hx hb dL_law_569 rfl (lv_at hl 1 rfl) ?_
    refine lv_iload hx hb dL_law_570 (lv_at hl 5 rfl) ?_
    refine lv_iconst (v := 1) hx hb dL_law_572 (by decide) ?_
    refine lv_iadd hx hb dL_law_573 ?_
    refine va_sld hx hb hX hbl hbA hS h1 dL_law_574 ?_
    refine KC.calli (ci := 5) (rest := []) (wt := wL cI cL o ob g f a (upd F 11 (Cd false)) a (vp_updL w (0 : Int32).toNatClampNeg ((xState g f a (xs (x4 + 1).toNatClampNeg))).toInt64)) kc5 (cwV 1 hts gL_law_X5_state rfl rfl rfl (by decide +kernel) ⟨Nat.le_of_ble_eq_true rfl, Nat.le_of_ble_eq_true rfl⟩) ⟨hx, hb, hml, hown, hts⟩ hK hP hD hS hA0 rfl rfl rfl [11, 12, 13, 14, 15, 16, 17] [0, 1, 2, 3, 4, 5, 6, 7, 8, 9, 10, 18] [0, 1, 2, 3, 4, 5, 6, 7, 8, 9, 10, 12, 13, 14, 15, 16, 17, 18, 11] (by decide) rfl (wr := [_, _, _, _, _, _, _, _, _, _, _, _]) rfl (by decide) (by decide) (by decide) rfl rfl hl.1 rfl (Nat.le_of_ble_eq_true rfl) dL_law_575 hf1 (fun H locs hP hD hS => ?_)
    refine lv_istore (lv' := [(6, .int (xState g f a (xs (x4 + 1).toNatClampNeg))), (5, .int 0), (0, .ref b), (1, .ref (o 10)), (2, .ref (o 20)), (3, .ref ob), (4, .int x4)]) hx hb dL_law_578 hl (by decide) rfl (fun ls hl => ?_)
    refine lv_aload_n hx hb dL_law_580 rfl (lv_at hl 4 rfl) ?_
    have kcT := kX5_thrown l D cI o (upd F 11 (Cd false)) a
    refine KC.calli (ci := 5) (rest := []) (wt := wL cI cL o ob g f a (upd F 11 (Cd false)) a (vp_updL w (0 : Int32).toNatClampNeg ((xState g f a (xs (x4 + 1).toNatClampNeg))).toInt64)) kcT (cwV 0 hts gL_law_X5_thrown rfl rfl rfl (by decide +kernel) ⟨Nat.le_of_ble_eq_true rfl, Nat.le_of_ble_eq_true rfl⟩) ⟨hx, hb, hml, hown, hts⟩ hK hP hD hS hA0 rfl rfl rfl [11, 12, 13, 14, 15, 16, 17] [0, 1, 2, 3, 4, 5, 6, 7, 8, 9, 10, 18] [0, 1, 2, 3, 4, 5, 6, 7, 8, 9, 10, 12, 13, 14, 15, 16, 17, 18, 11] (by decide) rfl (wr := [_, _, _, _, _, _, _, _, _, _, _, _]) rfl (by decide) (by decide) (by decide) rfl rfl hl.1 rfl (Nat.le_of_ble_eq_true rfl) dL_law_581 hf1 (fun H locs hP hD hS => ?_)
    refine lv_iload hx hb dL_law_584 (lv_at hl 1 rfl) ?_
    refine lv_icmp_eq (tgt := 591) hx hb dL_law_586 (by decide) (fun _ => ?_) (fun c9 => absurd ((th_cd F (Cd false))) c9)
    refine lv_iload hx hb dL_law_591 (lv_at hl 1 rfl) ?_
    refine lv_if_ne (tgt := 608) hx hb dL_law_593 (by decide) (fun c9 => absurd rfl c9) (fun _ => ?_)
    refine lv_aload_n hx hb dL_law_596 rfl (lv_at hl 5 rfl) ?_
    refine lv_iconst (v := 0) hx hb dL_law_597 (by decide) ?_
    refine va_lald (tys := [(cL, .long)]) hx hb hL hP 18 0 rfl rfl vp_in01 dL_law_598 ?_
    refine lv_iload hx hb dL_law_599 (lv_at hl 0 rfl) ?_
    refine lv_i2l hx hb dL_law_601 rfl ?_
    refine lw_lcmp0 hx hb (th_out w _) dL_law_602 ?_
    refine lv_if_eq (tgt := 608) hx hb dL_law_603 (by decide) (fun _ => ?_) (fun c9 => absurd rfl c9)
    refine lv_goto (tgt := 667) hx hb dL_law_608 (by decide) ?_
    exact kk g f (upd F 11 (Cd false)) a (vp_updL w (0 : Int32).toNatClampNeg ((xState g f a (xs (x4 + 1).toNatClampNeg))).toInt64) H locs _ (hM.cd _) hA hP hD hS (lv_sub hl [2, 3, 4, 5, 6] rfl)
set_option maxHeartbeats 4000000 in
set_option maxRecDepth 100000 in
theorem law_sounds {p : Program} {l : Launch} {e : Env} {s : State} {m : MethodId} {below : List Frame} {meth : Method} {c : Code} {D : va_G} {cI cL : ClassId} {tS : Nat} {sc : Nat → Nat} {b L : Nat} {xs : Nat → Int32} {o : Nat → Nat} {ob : Nat} {x4 : Int32} {cells slots : Nat} {Q : State → Prop} (C : LC p l s m c D cI cL tS sc b L xs) (hf1 : cells + 1 ≤ room_1.cells ∧ slots + 6 ≤ room_1.slots) {g f F : Nat → Int32} {a : Nat → Nat → Int32} {w : Nat → Int64} {H : Heap} {locs : List Loc} {ls : Array Slot} (hM : Mid g f F) (hA : OkA a)
    (hP : va_P D vwCl (wL cI cL o ob g f a F a w) H) (hD : va_D (fun q : Nat => s.heap.size ≤ q) (wL cI cL o ob g f a F a w)) (hS : va_S (fun q : Nat => s.heap.size ≤ q) s.heap H locs) (hl : lv_has ls 7 [(0, .ref b), (1, .ref (o 10)), (2, .ref (o 20)), (3, .ref ob), (4, .int x4)]) (h1 : vp_in (x4 + 1) L)
    (kk : LN p l e s m below meth c D cI cL o ob b x4 (cells + 1) (slots + 6) Q) : W p l e room_1 s m #[Value.ref b] below meth c H locs cells slots Q (F0 m 611 ls []) := by
  obtain ⟨hl0, hx, hb, hml, hown, hts, hX, hbl, hK, hL, hG⟩ := C
  have hA0 : ∀ q : Nat, s.heap.size ≤ q → (fun q : Nat => s.heap.size ≤ q) q := fun _ h => h
  have hbA : ¬ (fun q : Nat => s.heap.size ≤ q) b := Nat.not_le.mpr hbl
  have hf0 : cells ≤ room_1.cells ∧ slots ≤ room_1.slots := ⟨Nat.le_trans (Nat.le_add_right _ 1) hf1.1, Nat.le_trans (Nat.le_add_right _ 6) hf1.2⟩
  cases ht : xSoundsX g f a (xs (x4 + 1).toNatClampNeg) with
  | true =>
    have kcL := kL_sounds_t l hl0 D cI cL o tS sc ob w g f a (xs (x4 + 1).toNatClampNeg) ht
    have e5 := m_sounds g f F a (xs (x4 + 1).toNatClampNeg)
    rw [ht] at e5
    have kc5 := kX5_sounds l D cI o F a (xs (x4 + 1).toNatClampNeg)
    rw [e5] at kc5
    dsimp only at kc5
    refine lv_aload_n hx hb dL_law_611 rfl (lv_at hl 1 rfl) ?_
    refine lv_aload_n hx hb dL_law_612 rfl (lv_at hl 0 rfl) ?_
    refine lv_iload hx hb dL_law_613 (lv_at hl 4 rfl) ?_
    refine lv_iconst (v := 1) hx hb dL_law_615 (by decide) ?_
    refine lv_iadd hx hb dL_law_616 ?_
    refine va_sld hx hb hX hbl hbA hS h1 dL_law_617 ?_
    refine lv_aload_n hx hb dL_law_618 rfl (lv_at hl 3 rfl) ?_
    refine KL.callS (rest := []) (wt := wL cI cL o ob g f a F a w) kcL (vx_cwSW 3 hts gL_law_L_sounds rfl rfl rfl (by decide +kernel) ⟨Nat.le_of_ble_eq_true rfl, Nat.le_of_ble_eq_true rfl⟩) ⟨hx, hb, hml, hown, hts⟩ hK hL hP hD hS hA0 hG [0, 1, 2, 3, 4, 5, 6, 7, 8, 9, 10, 18] [11, 12, 13, 14, 15, 16, 17] [7, 8, 9, 10, 11, 12, 13, 14, 15, 16, 17, 0, 1, 2, 3, 4, 5, 6, 18] (by decide) rfl (wr := [_, _, _, _, _, _, _]) rfl (by decide) (by decide) (by decide) rfl rfl hl.1 rfl (Nat.le_of_ble_eq_true rfl) dL_law_619 hf1 (fun H locs hP hD hS => ?_)
    refine lv_istore (lv' := [(5, .int 1), (0, .ref b), (1, .ref (o 10)), (2, .ref (o 20)), (3, .ref ob), (4, .int x4)]) hx hb dL_law_622 hl (by decide) rfl (fun ls hl => ?_)
    refine lv_aload_n hx hb dL_law_624 rfl (lv_at hl 3 rfl) ?_
    refine lv_aload_n hx hb dL_law_625 rfl (lv_at hl 1 rfl) ?_
    refine lv_iload hx hb dL_law_626 (lv_at hl 5 rfl) ?_
    refine lv_iconst (v := 1) hx hb dL_law_628 (by decide) ?_
    refine lv_iadd hx hb dL_law_629 ?_
    refine va_sld hx hb hX hbl hbA hS h1 dL_law_630 ?_
    refine KC.calli (ci := 5) (rest := []) (wt := wL cI cL o ob g f a (upd F 11 (Cd true)) a w) kc5 (cwV 1 hts gL_law_X5_sounds rfl rfl rfl (by decide +kernel) ⟨Nat.le_of_ble_eq_true rfl, Nat.le_of_ble_eq_true rfl⟩) ⟨hx, hb, hml, hown, hts⟩ hK hP hD hS hA0 rfl rfl rfl [11, 12, 13, 14, 15, 16, 17] [0, 1, 2, 3, 4, 5, 6, 7, 8, 9, 10, 18] [0, 1, 2, 3, 4, 5, 6, 7, 8, 9, 10, 12, 13, 14, 15, 16, 17, 18, 11] (by decide) rfl (wr := [_, _, _, _, _, _, _, _, _, _, _, _]) rfl (by decide) (by decide) (by decide) rfl rfl hl.1 rfl (Nat.le_of_ble_eq_true rfl) dL_law_631 hf1 (fun H locs hP hD hS => ?_)
    refine lv_istore (lv' := [(6, .int (xSounds g f a (xs (x4 + 1).toNatClampNeg))), (5, .int 1), (0, .ref b), (1, .ref (o 10)), (2, .ref (o 20)), (3, .ref ob), (4, .int x4)]) hx hb dL_law_634 hl (by decide) rfl (fun ls hl => ?_)
    refine lv_aload_n hx hb dL_law_636 rfl (lv_at hl 4 rfl) ?_
    have kcT := kX5_thrown l D cI o (upd F 11 (Cd true)) a
    refine KC.calli (ci := 5) (rest := []) (wt := wL cI cL o ob g f a (upd F 11 (Cd true)) a w) kcT (cwV 0 hts gL_law_X5_thrown rfl rfl rfl (by decide +kernel) ⟨Nat.le_of_ble_eq_true rfl, Nat.le_of_ble_eq_true rfl⟩) ⟨hx, hb, hml, hown, hts⟩ hK hP hD hS hA0 rfl rfl rfl [11, 12, 13, 14, 15, 16, 17] [0, 1, 2, 3, 4, 5, 6, 7, 8, 9, 10, 18] [0, 1, 2, 3, 4, 5, 6, 7, 8, 9, 10, 12, 13, 14, 15, 16, 17, 18, 11] (by decide) rfl (wr := [_, _, _, _, _, _, _, _, _, _, _, _]) rfl (by decide) (by decide) (by decide) rfl rfl hl.1 rfl (Nat.le_of_ble_eq_true rfl) dL_law_637 hf1 (fun H locs hP hD hS => ?_)
    refine lv_iload hx hb dL_law_640 (lv_at hl 1 rfl) ?_
    refine lv_icmp_eq (tgt := 647) hx hb dL_law_642 (by decide) (fun _ => ?_) (fun c9 => absurd ((th_cd F (Cd true))) c9)
    refine lv_iload hx hb dL_law_647 (lv_at hl 1 rfl) ?_
    refine lv_if_ne (tgt := 664) hx hb dL_law_649 (by decide) (fun _ => ?_) (fun c9 => absurd c9 (by decide))
    refine lv_goto (tgt := 667) hx hb dL_law_664 (by decide) ?_
    exact kk g f (upd F 11 (Cd true)) a w H locs _ (hM.cd _) hA hP hD hS (lv_sub hl [2, 3, 4, 5, 6] rfl)
  | false =>
    have kcL := kL_sounds_f l hl0 D cI cL o tS sc ob w g f a (xs (x4 + 1).toNatClampNeg) ht
    have e5 := m_sounds g f F a (xs (x4 + 1).toNatClampNeg)
    rw [ht] at e5
    have kc5 := kX5_sounds l D cI o F a (xs (x4 + 1).toNatClampNeg)
    rw [e5] at kc5
    dsimp only at kc5
    refine lv_aload_n hx hb dL_law_611 rfl (lv_at hl 1 rfl) ?_
    refine lv_aload_n hx hb dL_law_612 rfl (lv_at hl 0 rfl) ?_
    refine lv_iload hx hb dL_law_613 (lv_at hl 4 rfl) ?_
    refine lv_iconst (v := 1) hx hb dL_law_615 (by decide) ?_
    refine lv_iadd hx hb dL_law_616 ?_
    refine va_sld hx hb hX hbl hbA hS h1 dL_law_617 ?_
    refine lv_aload_n hx hb dL_law_618 rfl (lv_at hl 3 rfl) ?_
    refine KL.callS (rest := []) (wt := wL cI cL o ob g f a F a (vp_updL w (0 : Int32).toNatClampNeg ((xSounds g f a (xs (x4 + 1).toNatClampNeg))).toInt64)) kcL (vx_cwSW 3 hts gL_law_L_sounds rfl rfl rfl (by decide +kernel) ⟨Nat.le_of_ble_eq_true rfl, Nat.le_of_ble_eq_true rfl⟩) ⟨hx, hb, hml, hown, hts⟩ hK hL hP hD hS hA0 hG [0, 1, 2, 3, 4, 5, 6, 7, 8, 9, 10, 18] [11, 12, 13, 14, 15, 16, 17] [7, 8, 9, 10, 11, 12, 13, 14, 15, 16, 17, 0, 1, 2, 3, 4, 5, 6, 18] (by decide) rfl (wr := [_, _, _, _, _, _, _]) rfl (by decide) (by decide) (by decide) rfl rfl hl.1 rfl (Nat.le_of_ble_eq_true rfl) dL_law_619 hf1 (fun H locs hP hD hS => ?_)
    refine lv_istore (lv' := [(5, .int 0), (0, .ref b), (1, .ref (o 10)), (2, .ref (o 20)), (3, .ref ob), (4, .int x4)]) hx hb dL_law_622 hl (by decide) rfl (fun ls hl => ?_)
    refine lv_aload_n hx hb dL_law_624 rfl (lv_at hl 3 rfl) ?_
    refine lv_aload_n hx hb dL_law_625 rfl (lv_at hl 1 rfl) ?_
    refine lv_iload hx hb dL_law_626 (lv_at hl 5 rfl) ?_
    refine lv_iconst (v := 1) hx hb dL_law_628 (by decide) ?_
    refine lv_iadd hx hb dL_law_629 ?_
    refine va_sld hx hb hX hbl hbA hS h1 dL_law_630 ?_
    refine KC.calli (ci := 5) (rest := []) (wt := wL cI cL o ob g f a (upd F 11 (Cd false)) a (vp_updL w (0 : Int32).toNatClampNeg ((xSounds g f a (xs (x4 + 1).toNatClampNeg))).toInt64)) kc5 (cwV 1 hts gL_law_X5_sounds rfl rfl rfl (by decide +kernel) ⟨Nat.le_of_ble_eq_true rfl, Nat.le_of_ble_eq_true rfl⟩) ⟨hx, hb, hml, hown, hts⟩ hK hP hD hS hA0 rfl rfl rfl [11, 12, 13, 14, 15, 16, 17] [0, 1, 2, 3, 4, 5, 6, 7, 8, 9, 10, 18] [0, 1, 2, 3, 4, 5, 6, 7, 8, 9, 10, 12, 13, 14, 15, 16, 17, 18, 11] (by decide) rfl (wr := [_, _, _, _, _, _, _, _, _, _, _, _]) rfl (by decide) (by decide) (by decide) rfl rfl hl.1 rfl (Nat.le_of_ble_eq_true rfl) dL_law_631 hf1 (fun H locs hP hD hS => ?_)
    refine lv_istore (lv' := [(6, .int (xSounds g f a (xs (x4 + 1).toNatClampNeg))), (5, .int 0), (0, .ref b), (1, .ref (o 10)), (2, .ref (o 20)), (3, .ref ob), (4, .int x4)]) hx hb dL_law_634 hl (by decide) rfl (fun ls hl => ?_)
    refine lv_aload_n hx hb dL_law_636 rfl (lv_at hl 4 rfl) ?_
    have kcT := kX5_thrown l D cI o (upd F 11 (Cd false)) a
    refine KC.calli (ci := 5) (rest := []) (wt := wL cI cL o ob g f a (upd F 11 (Cd false)) a (vp_updL w (0 : Int32).toNatClampNeg ((xSounds g f a (xs (x4 + 1).toNatClampNeg))).toInt64)) kcT (cwV 0 hts gL_law_X5_thrown rfl rfl rfl (by decide +kernel) ⟨Nat.le_of_ble_eq_true rfl, Nat.le_of_ble_eq_true rfl⟩) ⟨hx, hb, hml, hown, hts⟩ hK hP hD hS hA0 rfl rfl rfl [11, 12, 13, 14, 15, 16, 17] [0, 1, 2, 3, 4, 5, 6, 7, 8, 9, 10, 18] [0, 1, 2, 3, 4, 5, 6, 7, 8, 9, 10, 12, 13, 14, 15, 16, 17, 18, 11] (by decide) rfl (wr := [_, _, _, _, _, _, _, _, _, _, _, _]) rfl (by decide) (by decide) (by decide) rfl rfl hl.1 rfl (Nat.le_of_ble_eq_true rfl) dL_law_637 hf1 (fun H locs hP hD hS => ?_)
    refine lv_iload hx hb dL_law_640 (lv_at hl 1 rfl) ?_
    refine lv_icmp_eq (tgt := 647) hx hb dL_law_642 (by decide) (fun _ => ?_) (fun c9 => absurd ((th_cd F (Cd false))) c9)
    refine lv_iload hx hb dL_law_647 (lv_at hl 1 rfl) ?_
    refine lv_if_ne (tgt := 664) hx hb dL_law_649 (by decide) (fun c9 => absurd rfl c9) (fun _ => ?_)
    refine lv_aload_n hx hb dL_law_652 rfl (lv_at hl 5 rfl) ?_
    refine lv_iconst (v := 0) hx hb dL_law_653 (by decide) ?_
    refine va_lald (tys := [(cL, .long)]) hx hb hL hP 18 0 rfl rfl vp_in01 dL_law_654 ?_
    refine lv_iload hx hb dL_law_655 (lv_at hl 0 rfl) ?_
    refine lv_i2l hx hb dL_law_657 rfl ?_
    refine lw_lcmp0 hx hb (th_out w _) dL_law_658 ?_
    refine lv_if_eq (tgt := 664) hx hb dL_law_659 (by decide) (fun _ => ?_) (fun c9 => absurd rfl c9)
    refine lv_goto (tgt := 667) hx hb dL_law_664 (by decide) ?_
    exact kk g f (upd F 11 (Cd false)) a (vp_updL w (0 : Int32).toNatClampNeg ((xSounds g f a (xs (x4 + 1).toNatClampNeg))).toInt64) H locs _ (hM.cd _) hA hP hD hS (lv_sub hl [2, 3, 4, 5, 6] rfl)
