set_option maxHeartbeats 4000000 in
set_option maxRecDepth 100000 in
theorem law_reset {p : Program} {l : Launch} {e : Env} {s : State} {m : MethodId} {below : List Frame} {meth : Method} {c : Code} {D : va_G} {cI cL : ClassId} {tS : Nat} {sc : Nat → Nat} {b L : Nat} {xs : Nat → Int32} {o : Nat → Nat} {ob : Nat} {x4 : Int32} {cells slots : Nat} {Q : State → Prop} (C : LC p l s m c D cI cL tS sc b L xs) (hf1 : cells + 1 ≤ room_1.cells ∧ slots + 6 ≤ room_1.slots) {g f F : Nat → Int32} {a : Nat → Nat → Int32} {w : Nat → Int64} {H : Heap} {locs : List Loc} {ls : Array Slot} (hM : Mid g f F) (hA : OkA a)
    (hP : va_P D vwCl (wL cI cL o ob g f a F a w) H) (hD : va_D (fun q : Nat => s.heap.size ≤ q) (wL cI cL o ob g f a F a w)) (hS : va_S (fun q : Nat => s.heap.size ≤ q) s.heap H locs) (hl : lv_has ls 7 [(0, .ref b), (1, .ref (o 10)), (2, .ref (o 20)), (3, .ref ob), (4, .int x4)])
    (kk : LN p l e s m below meth c D cI cL o ob b x4 (cells + 1) (slots + 6) Q) : W p l e room_1 s m #[Value.ref b] below meth c H locs cells slots Q (F0 m 180 ls []) := by
  obtain ⟨hl0, hx, hb, hml, hown, hts, hX, hbl, hK, hL, hG⟩ := C
  have hA0 : ∀ q : Nat, s.heap.size ≤ q → (fun q : Nat => s.heap.size ≤ q) q := fun _ h => h
  have hbA : ¬ (fun q : Nat => s.heap.size ≤ q) b := Nat.not_le.mpr hbl
  have hf0 : cells ≤ room_1.cells ∧ slots ≤ room_1.slots := ⟨Nat.le_trans (Nat.le_add_right _ 1) hf1.1, Nat.le_trans (Nat.le_add_right _ 6) hf1.2⟩
  obtain ⟨g2, f2, F2, a2, e1, e2, hM2, hA2⟩ := m_reset hM hA
  have kcX := kX4_reset l D cI o g f a
  rw [e1] at kcX
  dsimp only at kcX
  have kc5 := kX5_reset l D cI o F a
  rw [e2] at kc5
  dsimp only at kc5
  refine lv_aload_n hx hb dL_law_180 rfl (lv_at hl 1 rfl) ?_
  refine KC.callv (ci := 4) (rest := []) (wt := wL cI cL o ob g2 f2 a2 F a w) kcX (cwV 0 hts gL_law_X4_reset rfl rfl rfl (by decide +kernel) ⟨Nat.le_of_ble_eq_true rfl, Nat.le_of_ble_eq_true rfl⟩) ⟨hx, hb, hml, hown, hts⟩ hK hP hD hS hA0 rfl rfl rfl [0, 1, 2, 3, 4, 5, 6, 7, 8, 9, 10] [11, 12, 13, 14, 15, 16, 17, 18] [8, 9, 10, 11, 12, 13, 14, 15, 16, 17, 18, 0, 1, 2, 3, 4, 5, 6, 7] (by decide) rfl (wr := [_, _, _, _, _, _, _, _]) rfl (by decide) (by decide) (by decide) rfl rfl hl.1 rfl (Nat.le_of_ble_eq_true rfl) dL_law_181 hf0 (fun H locs hP hD hS => ?_)
  refine lv_aload_n hx hb dL_law_184 rfl (lv_at hl 2 rfl) ?_
  refine KC.callv (ci := 5) (rest := []) (wt := wL cI cL o ob g2 f2 a2 F2 a2 w) kc5 (cwV 0 hts gL_law_X5_reset rfl rfl rfl (by decide +kernel) ⟨Nat.le_of_ble_eq_true rfl, Nat.le_of_ble_eq_true rfl⟩) ⟨hx, hb, hml, hown, hts⟩ hK hP hD hS hA0 rfl rfl rfl [11, 12, 13, 14, 15, 16, 17] [0, 1, 2, 3, 4, 5, 6, 7, 8, 9, 10, 18] [0, 1, 2, 3, 4, 5, 6, 7, 8, 9, 10, 12, 13, 14, 15, 16, 17, 18, 11] (by decide) rfl (wr := [_, _, _, _, _, _, _, _, _, _, _, _]) rfl (by decide) (by decide) (by decide) rfl rfl hl.1 rfl (Nat.le_of_ble_eq_true rfl) dL_law_185 hf0 (fun H locs hP hD hS => ?_)
  refine lv_goto (tgt := 667) hx hb dL_law_188 (by decide) ?_
  refine W.widen (k := cells + 1) (n := slots + 6) (Nat.le_add_right _ 1) (Nat.le_add_right _ 6) ?_
  exact kk g2 f2 F2 a2 w H locs _ hM2 hA2 hP hD hS (lv_sub hl [0, 1, 2, 3, 4] rfl)
set_option maxHeartbeats 4000000 in
set_option maxRecDepth 100000 in
theorem law_step {p : Program} {l : Launch} {e : Env} {s : State} {m : MethodId} {below : List Frame} {meth : Method} {c : Code} {D : va_G} {cI cL : ClassId} {tS : Nat} {sc : Nat → Nat} {b L : Nat} {xs : Nat → Int32} {o : Nat → Nat} {ob : Nat} {x4 : Int32} {cells slots : Nat} {Q : State → Prop} (C : LC p l s m c D cI cL tS sc b L xs) (hf1 : cells + 1 ≤ room_1.cells ∧ slots + 6 ≤ room_1.slots) {g f F : Nat → Int32} {a : Nat → Nat → Int32} {w : Nat → Int64} {H : Heap} {locs : List Loc} {ls : Array Slot} (hM : Mid g f F) (hA : OkA a)
    (hP : va_P D vwCl (wL cI cL o ob g f a F a w) H) (hD : va_D (fun q : Nat => s.heap.size ≤ q) (wL cI cL o ob g f a F a w)) (hS : va_S (fun q : Nat => s.heap.size ≤ q) s.heap H locs) (hl : lv_has ls 7 [(0, .ref b), (1, .ref (o 10)), (2, .ref (o 20)), (3, .ref ob), (4, .int x4)])
    (kk : LN p l e s m below meth c D cI cL o ob b x4 (cells + 1) (slots + 6) Q) : W p l e room_1 s m #[Value.ref b] below meth c H locs cells slots Q (F0 m 239 ls []) := by
  obtain ⟨hl0, hx, hb, hml, hown, hts, hX, hbl, hK, hL, hG⟩ := C
  have hA0 : ∀ q : Nat, s.heap.size ≤ q → (fun q : Nat => s.heap.size ≤ q) q := fun _ h => h
  have hbA : ¬ (fun q : Nat => s.heap.size ≤ q) b := Nat.not_le.mpr hbl
  have hf0 : cells ≤ room_1.cells ∧ slots ≤ room_1.slots := ⟨Nat.le_trans (Nat.le_add_right _ 1) hf1.1, Nat.le_trans (Nat.le_add_right _ 6) hf1.2⟩
  obtain ⟨v, g2, f2, F2, a2, e1, e2, hM2, hA2, -, -⟩ := m_step hM hA
  have kcX := kX4_step l D cI o tS sc g f a
  have e1 : xStep g f a = (v, g2, f2, a2) := by
    unfold xStep
    rw [e1]
  rw [e1] at kcX
  dsimp only at kcX
  have kc5 := kX5_step l D cI o F a (th_rd hA) (th_bt hM.2.2.2.1.2.1)
  rw [e2] at kc5
  dsimp only at kc5
  refine lv_aload_n hx hb dL_law_239 rfl (lv_at hl 1 rfl) ?_
  refine KG.calli (ci := 4) (rest := []) (wt := wL cI cL o ob g2 f2 a2 F a w) kcX (cwV 0 hts gL_law_X4_step rfl rfl rfl (by decide +kernel) ⟨Nat.le_of_ble_eq_true rfl, Nat.le_of_ble_eq_true rfl⟩) ⟨hx, hb, hml, hown, hts⟩ hK hP hD hS hA0 hG rfl rfl rfl [0, 1, 2, 3, 4, 5, 6, 7, 8, 9, 10] [11, 12, 13, 14, 15, 16, 17, 18] [8, 9, 10, 11, 12, 13, 14, 15, 16, 17, 18, 0, 1, 2, 3, 4, 5, 6, 7] (by decide) rfl (wr := [_, _, _, _, _, _, _, _]) rfl (by decide) (by decide) (by decide) rfl rfl hl.1 rfl (Nat.le_of_ble_eq_true rfl) dL_law_240 hf0 (fun H locs hP hD hS => ?_)
  refine lv_aload_n hx hb dL_law_243 rfl (lv_at hl 2 rfl) ?_
  refine KC.calli (ci := 5) (rest := [.int v]) (wt := wL cI cL o ob g2 f2 a2 F2 a2 w) kc5 (cwV 0 hts gL_law_X5_step rfl rfl rfl (by decide +kernel) ⟨Nat.le_of_ble_eq_true rfl, Nat.le_of_ble_eq_true rfl⟩) ⟨hx, hb, hml, hown, hts⟩ hK hP hD hS hA0 rfl rfl rfl [11, 12, 13, 14, 15, 16, 17] [0, 1, 2, 3, 4, 5, 6, 7, 8, 9, 10, 18] [0, 1, 2, 3, 4, 5, 6, 7, 8, 9, 10, 12, 13, 14, 15, 16, 17, 18, 11] (by decide) rfl (wr := [_, _, _, _, _, _, _, _, _, _, _, _]) rfl (by decide) (by decide) (by decide) rfl rfl hl.1 rfl (Nat.le_of_ble_eq_true rfl) dL_law_244 hf0 (fun H locs hP hD hS => ?_)
  refine lv_icmp_eq (tgt := 667) hx hb dL_law_247 (by decide) (fun _ => ?_) (fun c9 => absurd rfl c9)
  refine W.widen (k := cells + 1) (n := slots + 6) (Nat.le_add_right _ 1) (Nat.le_add_right _ 6) ?_
  exact kk g2 f2 F2 a2 w H locs _ hM2 hA2 hP hD hS (lv_sub hl [0, 1, 2, 3, 4] rfl)
set_option maxHeartbeats 4000000 in
set_option maxRecDepth 100000 in
theorem law_memory {p : Program} {l : Launch} {e : Env} {s : State} {m : MethodId} {below : List Frame} {meth : Method} {c : Code} {D : va_G} {cI cL : ClassId} {tS : Nat} {sc : Nat → Nat} {b L : Nat} {xs : Nat → Int32} {o : Nat → Nat} {ob : Nat} {x4 : Int32} {cells slots : Nat} {Q : State → Prop} (C : LC p l s m c D cI cL tS sc b L xs) (hf1 : cells + 1 ≤ room_1.cells ∧ slots + 6 ≤ room_1.slots) {g f F : Nat → Int32} {a : Nat → Nat → Int32} {w : Nat → Int64} {H : Heap} {locs : List Loc} {ls : Array Slot} (hM : Mid g f F) (hA : OkA a)
    (hP : va_P D vwCl (wL cI cL o ob g f a F a w) H) (hD : va_D (fun q : Nat => s.heap.size ≤ q) (wL cI cL o ob g f a F a w)) (hS : va_S (fun q : Nat => s.heap.size ≤ q) s.heap H locs) (hl : lv_has ls 7 [(0, .ref b), (1, .ref (o 10)), (2, .ref (o 20)), (3, .ref ob), (4, .int x4)]) (h1 : vp_in (x4 + 1) L)
    (kk : LN p l e s m below meth c D cI cL o ob b x4 (cells + 1) (slots + 6) Q) : W p l e room_1 s m #[Value.ref b] below meth c H locs cells slots Q (F0 m 364 ls []) := by
  obtain ⟨hl0, hx, hb, hml, hown, hts, hX, hbl, hK, hL, hG⟩ := C
  have hA0 : ∀ q : Nat, s.heap.size ≤ q → (fun q : Nat => s.heap.size ≤ q) q := fun _ h => h
  have hbA : ¬ (fun q : Nat => s.heap.size ≤ q) b := Nat.not_le.mpr hbl
  have hf0 : cells ≤ room_1.cells ∧ slots ≤ room_1.slots := ⟨Nat.le_trans (Nat.le_add_right _ 1) hf1.1, Nat.le_trans (Nat.le_add_right _ 6) hf1.2⟩
  have e5 := m_memory g f F a (xs (x4 + 1).toNatClampNeg)
  have kc5 := kX5_memory l D cI o F a (xs (x4 + 1).toNatClampNeg)
  rw [e5] at kc5
  dsimp only at kc5
  refine lv_aload_n hx hb dL_law_364 rfl (lv_at hl 1 rfl) ?_
  refine lv_aload_n hx hb dL_law_365 rfl (lv_at hl 0 rfl) ?_
  refine lv_iload hx hb dL_law_366 (lv_at hl 4 rfl) ?_
  refine lv_iconst (v := 1) hx hb dL_law_368 (by decide) ?_
  refine lv_iadd hx hb dL_law_369 ?_
  refine va_sld hx hb hX hbl hbA hS h1 dL_law_370 ?_
  refine KC.calli (ci := 4) (rest := []) (wt := wL cI cL o ob g f a F a w) (kX4_memory l D cI o g f a (xs (x4 + 1).toNatClampNeg)) (cwV 1 hts gL_law_X4_memory rfl rfl rfl (by decide +kernel) ⟨Nat.le_of_ble_eq_true rfl, Nat.le_of_ble_eq_true rfl⟩) ⟨hx, hb, hml, hown, hts⟩ hK hP hD hS hA0 rfl rfl rfl [0, 1, 2, 3, 4, 5, 6, 7, 8, 9, 10] [11, 12, 13, 14, 15, 16, 17, 18] [8, 9, 10, 11, 12, 13, 14, 15, 16, 17, 18, 0, 1, 2, 3, 4, 5, 6, 7] (by decide) rfl (wr := [_, _, _, _, _, _, _, _]) rfl (by decide) (by decide) (by decide) rfl rfl hl.1 rfl (Nat.le_of_ble_eq_true rfl) dL_law_371 hf0 (fun H locs hP hD hS => ?_)
  refine lv_aload_n hx hb dL_law_374 rfl (lv_at hl 2 rfl) ?_
  refine lv_aload_n hx hb dL_law_375 rfl (lv_at hl 0 rfl) ?_
  refine lv_iload hx hb dL_law_376 (lv_at hl 4 rfl) ?_
  refine lv_iconst (v := 1) hx hb dL_law_378 (by decide) ?_
  refine lv_iadd hx hb dL_law_379 ?_
  refine va_sld hx hb hX hbl hbA hS h1 dL_law_380 ?_
  refine KC.calli (ci := 5) (rest := [.int (xMemory g f a (xs (x4 + 1).toNatClampNeg))]) (wt := wL cI cL o ob g f a (upd F 11 (0 : Int32)) a w) kc5 (cwV 1 hts gL_law_X5_memory rfl rfl rfl (by decide +kernel) ⟨Nat.le_of_ble_eq_true rfl, Nat.le_of_ble_eq_true rfl⟩) ⟨hx, hb, hml, hown, hts⟩ hK hP hD hS hA0 rfl rfl rfl [11, 12, 13, 14, 15, 16, 17] [0, 1, 2, 3, 4, 5, 6, 7, 8, 9, 10, 18] [0, 1, 2, 3, 4, 5, 6, 7, 8, 9, 10, 12, 13, 14, 15, 16, 17, 18, 11] (by decide) rfl (wr := [_, _, _, _, _, _, _, _, _, _, _, _]) rfl (by decide) (by decide) (by decide) rfl rfl hl.1 rfl (Nat.le_of_ble_eq_true rfl) dL_law_381 hf0 (fun H locs hP hD hS => ?_)
  refine lv_icmp_eq (tgt := 667) hx hb dL_law_384 (by decide) (fun _ => ?_) (fun c9 => absurd rfl c9)
  refine W.widen (k := cells + 1) (n := slots + 6) (Nat.le_add_right _ 1) (Nat.le_add_right _ 6) ?_
  exact kk g f (upd F 11 (0 : Int32)) a w H locs _ (hM.cd _) hA hP hD hS (lv_sub hl [0, 1, 2, 3, 4] rfl)
set_option maxHeartbeats 4000000 in
set_option maxRecDepth 100000 in
theorem law_poke {p : Program} {l : Launch} {e : Env} {s : State} {m : MethodId} {below : List Frame} {meth : Method} {c : Code} {D : va_G} {cI cL : ClassId} {tS : Nat} {sc : Nat → Nat} {b L : Nat} {xs : Nat → Int32} {o : Nat → Nat} {ob : Nat} {x4 : Int32} {cells slots : Nat} {Q : State → Prop} (C : LC p l s m c D cI cL tS sc b L xs) (hf1 : cells + 1 ≤ room_1.cells ∧ slots + 6 ≤ room_1.slots) {g f F : Nat → Int32} {a : Nat → Nat → Int32} {w : Nat → Int64} {H : Heap} {locs : List Loc} {ls : Array Slot} (hM : Mid g f F) (hA : OkA a)
    (hP : va_P D vwCl (wL cI cL o ob g f a F a w) H) (hD : va_D (fun q : Nat => s.heap.size ≤ q) (wL cI cL o ob g f a F a w)) (hS : va_S (fun q : Nat => s.heap.size ≤ q) s.heap H locs) (hl : lv_has ls 7 [(0, .ref b), (1, .ref (o 10)), (2, .ref (o 20)), (3, .ref ob), (4, .int x4)]) (h1 : vp_in (x4 + 1) L) (h2 : vp_in (x4 + 2) L)
    (kk : LN p l e s m below meth c D cI cL o ob b x4 (cells + 1) (slots + 6) Q) : W p l e room_1 s m #[Value.ref b] below meth c H locs cells slots Q (F0 m 389 ls []) := by
  obtain ⟨hl0, hx, hb, hml, hown, hts, hX, hbl, hK, hL, hG⟩ := C
  have hA0 : ∀ q : Nat, s.heap.size ≤ q → (fun q : Nat => s.heap.size ≤ q) q := fun _ h => h
  have hbA : ¬ (fun q : Nat => s.heap.size ≤ q) b := Nat.not_le.mpr hbl
  have hf0 : cells ≤ room_1.cells ∧ slots ≤ room_1.slots := ⟨Nat.le_trans (Nat.le_add_right _ 1) hf1.1, Nat.le_trans (Nat.le_add_right _ 6) hf1.2⟩
  have e5 := m_poke g f F hA (xs (x4 + 1).toNatClampNeg) (xs (x4 + 2).toNatClampNeg)
  have kc5 := kX5_poke l D cI o F a (xs (x4 + 1).toNatClampNeg) (xs (x4 + 2).toNatClampNeg)
  rw [e5.1] at kc5
  dsimp only at kc5
  refine lv_aload_n hx hb dL_law_389 rfl (lv_at hl 1 rfl) ?_
  refine lv_aload_n hx hb dL_law_390 rfl (lv_at hl 0 rfl) ?_
  refine lv_iload hx hb dL_law_391 (lv_at hl 4 rfl) ?_
  refine lv_iconst (v := 1) hx hb dL_law_393 (by decide) ?_
  refine lv_iadd hx hb dL_law_394 ?_
  refine va_sld hx hb hX hbl hbA hS h1 dL_law_395 ?_
  refine lv_aload_n hx hb dL_law_396 rfl (lv_at hl 0 rfl) ?_
  refine lv_iload hx hb dL_law_397 (lv_at hl 4 rfl) ?_
  refine lv_iconst (v := 2) hx hb dL_law_399 (by decide) ?_
  refine lv_iadd hx hb dL_law_400 ?_
  refine va_sld hx hb hX hbl hbA hS h2 dL_law_401 ?_
  refine KC.calli (ci := 4) (rest := []) (wt := wL cI cL o ob g f (ua a 1 ((xPoke g f a (xs (x4 + 1).toNatClampNeg) (xs (x4 + 2).toNatClampNeg)).2)) F a w) (kX4_poke l D cI o g f a (xs (x4 + 1).toNatClampNeg) (xs (x4 + 2).toNatClampNeg)) (cwV 2 hts gL_law_X4_poke rfl rfl rfl (by decide +kernel) ⟨Nat.le_of_ble_eq_true rfl, Nat.le_of_ble_eq_true rfl⟩) ⟨hx, hb, hml, hown, hts⟩ hK hP hD hS hA0 rfl rfl rfl [0, 1, 2, 3, 4, 5, 6, 7, 8, 9, 10] [11, 12, 13, 14, 15, 16, 17, 18] [8, 9, 10, 11, 12, 13, 14, 15, 16, 17, 18, 0, 1, 2, 3, 4, 5, 6, 7] (by decide) rfl (wr := [_, _, _, _, _, _, _, _]) rfl (by decide) (by decide) (by decide) rfl rfl hl.1 rfl (Nat.le_of_ble_eq_true rfl) dL_law_402 hf0 (fun H locs hP hD hS => ?_)
  refine lv_aload_n hx hb dL_law_405 rfl (lv_at hl 2 rfl) ?_
  refine lv_aload_n hx hb dL_law_406 rfl (lv_at hl 0 rfl) ?_
  refine lv_iload hx hb dL_law_407 (lv_at hl 4 rfl) ?_
  refine lv_iconst (v := 1) hx hb dL_law_409 (by decide) ?_
  refine lv_iadd hx hb dL_law_410 ?_
  refine va_sld hx hb hX hbl hbA hS h1 dL_law_411 ?_
  refine lv_aload_n hx hb dL_law_412 rfl (lv_at hl 0 rfl) ?_
  refine lv_iload hx hb dL_law_413 (lv_at hl 4 rfl) ?_
  refine lv_iconst (v := 2) hx hb dL_law_415 (by decide) ?_
  refine lv_iadd hx hb dL_law_416 ?_
  refine va_sld hx hb hX hbl hbA hS h2 dL_law_417 ?_
  refine KC.calli (ci := 5) (rest := [.int ((xPoke g f a (xs (x4 + 1).toNatClampNeg) (xs (x4 + 2).toNatClampNeg)).1)]) (wt := wL cI cL o ob g f (ua a 1 ((xPoke g f a (xs (x4 + 1).toNatClampNeg) (xs (x4 + 2).toNatClampNeg)).2)) (upd F 11 (0 : Int32)) (ua a 1 ((xPoke g f a (xs (x4 + 1).toNatClampNeg) (xs (x4 + 2).toNatClampNeg)).2)) w) kc5 (cwV 2 hts gL_law_X5_poke rfl rfl rfl (by decide +kernel) ⟨Nat.le_of_ble_eq_true rfl, Nat.le_of_ble_eq_true rfl⟩) ⟨hx, hb, hml, hown, hts⟩ hK hP hD hS hA0 rfl rfl rfl [11, 12, 13, 14, 15, 16, 17] [0, 1, 2, 3, 4, 5, 6, 7, 8, 9, 10, 18] [0, 1, 2, 3, 4, 5, 6, 7, 8, 9, 10, 12, 13, 14, 15, 16, 17, 18, 11] (by decide) rfl (wr := [_, _, _, _, _, _, _, _, _, _, _, _]) rfl (by decide) (by decide) (by decide) rfl rfl hl.1 rfl (Nat.le_of_ble_eq_true rfl) dL_law_418 hf0 (fun H locs hP hD hS => ?_)
  refine lv_icmp_eq (tgt := 667) hx hb dL_law_421 (by decide) (fun _ => ?_) (fun c9 => absurd rfl c9)
  refine W.widen (k := cells + 1) (n := slots + 6) (Nat.le_add_right _ 1) (Nat.le_add_right _ 6) ?_
  exact kk g f (upd F 11 (0 : Int32)) (ua a 1 ((xPoke g f a (xs (x4 + 1).toNatClampNeg) (xs (x4 + 2).toNatClampNeg)).2)) w H locs _ (hM.cd _) e5.2 hP hD hS (lv_sub hl [0, 1, 2, 3, 4] rfl)
set_option maxHeartbeats 4000000 in
set_option maxRecDepth 100000 in
theorem law_lit {p : Program} {l : Launch} {e : Env} {s : State} {m : MethodId} {below : List Frame} {meth : Method} {c : Code} {D : va_G} {cI cL : ClassId} {tS : Nat} {sc : Nat → Nat} {b L : Nat} {xs : Nat → Int32} {o : Nat → Nat} {ob : Nat} {x4 : Int32} {cells slots : Nat} {Q : State → Prop} (C : LC p l s m c D cI cL tS sc b L xs) (hf1 : cells + 1 ≤ room_1.cells ∧ slots + 6 ≤ room_1.slots) {g f F : Nat → Int32} {a : Nat → Nat → Int32} {w : Nat → Int64} {H : Heap} {locs : List Loc} {ls : Array Slot} (hM : Mid g f F) (hA : OkA a)
    (hP : va_P D vwCl (wL cI cL o ob g f a F a w) H) (hD : va_D (fun q : Nat => s.heap.size ≤ q) (wL cI cL o ob g f a F a w)) (hS : va_S (fun q : Nat => s.heap.size ≤ q) s.heap H locs) (hl : lv_has ls 7 [(0, .ref b), (1, .ref (o 10)), (2, .ref (o 20)), (3, .ref ob), (4, .int x4)]) (h1 : vp_in (x4 + 1) L) (h2 : vp_in (x4 + 2) L) (h3 : vp_in (x4 + 3) L) (h4 : vp_in (x4 + 4) L)
    (kk : LN p l e s m below meth c D cI cL o ob b x4 (cells + 1) (slots + 6) Q) : W p l e room_1 s m #[Value.ref b] below meth c H locs cells slots Q (F0 m 494 ls []) := by
  obtain ⟨hl0, hx, hb, hml, hown, hts, hX, hbl, hK, hL, hG⟩ := C
  have hA0 : ∀ q : Nat, s.heap.size ≤ q → (fun q : Nat => s.heap.size ≤ q) q := fun _ h => h
  have hbA : ¬ (fun q : Nat => s.heap.size ≤ q) b := Nat.not_le.mpr hbl
  have hf0 : cells ≤ room_1.cells ∧ slots ≤ room_1.slots := ⟨Nat.le_trans (Nat.le_add_right _ 1) hf1.1, Nat.le_trans (Nat.le_add_right _ 6) hf1.2⟩
  have e5 := m_lit g f F hA (xs (x4 + 1).toNatClampNeg) (xs (x4 + 2).toNatClampNeg) (xs (x4 + 3).toNatClampNeg) (xs (x4 + 4).toNatClampNeg)
  have kc5 := kX5_lit l D cI o F a (xs (x4 + 1).toNatClampNeg) (xs (x4 + 2).toNatClampNeg) (xs (x4 + 3).toNatClampNeg) (xs (x4 + 4).toNatClampNeg)
  rw [e5] at kc5
  dsimp only at kc5
  refine lv_aload_n hx hb dL_law_494 rfl (lv_at hl 1 rfl) ?_
  refine lv_aload_n hx hb dL_law_495 rfl (lv_at hl 0 rfl) ?_
  refine lv_iload hx hb dL_law_496 (lv_at hl 4 rfl) ?_
  refine lv_iconst (v := 1) hx hb dL_law_498 (by decide) ?_
  refine lv_iadd hx hb dL_law_499 ?_
  refine va_sld hx hb hX hbl hbA hS h1 dL_law_500 ?_
  refine lv_aload_n hx hb dL_law_501 rfl (lv_at hl 0 rfl) ?_
  refine lv_iload hx hb dL_law_502 (lv_at hl 4 rfl) ?_
  refine lv_iconst (v := 2) hx hb dL_law_504 (by decide) ?_
  refine lv_iadd hx hb dL_law_505 ?_
  refine va_sld hx hb hX hbl hbA hS h2 dL_law_506 ?_
  refine lv_aload_n hx hb dL_law_507 rfl (lv_at hl 0 rfl) ?_
  refine lv_iload hx hb dL_law_508 (lv_at hl 4 rfl) ?_
  refine lv_iconst (v := 3) hx hb dL_law_510 (by decide) ?_
  refine lv_iadd hx hb dL_law_511 ?_
  refine va_sld hx hb hX hbl hbA hS h3 dL_law_512 ?_
  refine lv_aload_n hx hb dL_law_513 rfl (lv_at hl 0 rfl) ?_
  refine lv_iload hx hb dL_law_514 (lv_at hl 4 rfl) ?_
  refine lv_iconst (v := 4) hx hb dL_law_516 (by decide) ?_
  refine lv_iadd hx hb dL_law_517 ?_
  refine va_sld hx hb hX hbl hbA hS h4 dL_law_518 ?_
  refine KC.calli (ci := 4) (rest := []) (wt := wL cI cL o ob g f a F a w) (kX4_lit l D cI o g f a (xs (x4 + 1).toNatClampNeg) (xs (x4 + 2).toNatClampNeg) (xs (x4 + 3).toNatClampNeg) (xs (x4 + 4).toNatClampNeg)) (cwV 4 hts gL_law_X4_lit rfl rfl rfl (by decide +kernel) ⟨Nat.le_of_ble_eq_true rfl, Nat.le_of_ble_eq_true rfl⟩) ⟨hx, hb, hml, hown, hts⟩ hK hP hD hS hA0 rfl rfl rfl [0, 1, 2, 3, 4, 5, 6, 7, 8, 9, 10] [11, 12, 13, 14, 15, 16, 17, 18] [8, 9, 10, 11, 12, 13, 14, 15, 16, 17, 18, 0, 1, 2, 3, 4, 5, 6, 7] (by decide) rfl (wr := [_, _, _, _, _, _, _, _]) rfl (by decide) (by decide) (by decide) rfl rfl hl.1 rfl (Nat.le_of_ble_eq_true rfl) dL_law_519 hf0 (fun H locs hP hD hS => ?_)
  refine lv_aload_n hx hb dL_law_522 rfl (lv_at hl 2 rfl) ?_
  refine lv_aload_n hx hb dL_law_523 rfl (lv_at hl 0 rfl) ?_
  refine lv_iload hx hb dL_law_524 (lv_at hl 4 rfl) ?_
  refine lv_iconst (v := 1) hx hb dL_law_526 (by decide) ?_
  refine lv_iadd hx hb dL_law_527 ?_
  refine va_sld hx hb hX hbl hbA hS h1 dL_law_528 ?_
  refine lv_aload_n hx hb dL_law_529 rfl (lv_at hl 0 rfl) ?_
  refine lv_iload hx hb dL_law_530 (lv_at hl 4 rfl) ?_
  refine lv_iconst (v := 2) hx hb dL_law_532 (by decide) ?_
  refine lv_iadd hx hb dL_law_533 ?_
  refine va_sld hx hb hX hbl hbA hS h2 dL_law_534 ?_
  refine lv_aload_n hx hb dL_law_535 rfl (lv_at hl 0 rfl) ?_
  refine lv_iload hx hb dL_law_536 (lv_at hl 4 rfl) ?_
  refine lv_iconst (v := 3) hx hb dL_law_538 (by decide) ?_
  refine lv_iadd hx hb dL_law_539 ?_
  refine va_sld hx hb hX hbl hbA hS h3 dL_law_540 ?_
  refine lv_aload_n hx hb dL_law_541 rfl (lv_at hl 0 rfl) ?_
  refine lv_iload hx hb dL_law_542 (lv_at hl 4 rfl) ?_
  refine lv_iconst (v := 4) hx hb dL_law_544 (by decide) ?_
  refine lv_iadd hx hb dL_law_545 ?_
  refine va_sld hx hb hX hbl hbA hS h4 dL_law_546 ?_
  refine KC.calli (ci := 5) (rest := [.int (xLit g f a (xs (x4 + 1).toNatClampNeg) (xs (x4 + 2).toNatClampNeg) (xs (x4 + 3).toNatClampNeg) (xs (x4 + 4).toNatClampNeg))]) (wt := wL cI cL o ob g f a (upd F 11 (0 : Int32)) a w) kc5 (cwV 4 hts gL_law_X5_lit rfl rfl rfl (by decide +kernel) ⟨Nat.le_of_ble_eq_true rfl, Nat.le_of_ble_eq_true rfl⟩) ⟨hx, hb, hml, hown, hts⟩ hK hP hD hS hA0 rfl rfl rfl [11, 12, 13, 14, 15, 16, 17] [0, 1, 2, 3, 4, 5, 6, 7, 8, 9, 10, 18] [0, 1, 2, 3, 4, 5, 6, 7, 8, 9, 10, 12, 13, 14, 15, 16, 17, 18, 11] (by decide) rfl (wr := [_, _, _, _, _, _, _, _, _, _, _, _]) rfl (by decide) (by decide) (by decide) rfl rfl hl.1 rfl (Nat.le_of_ble_eq_true rfl) dL_law_547 hf0 (fun H locs hP hD hS => ?_)
  refine lv_icmp_eq (tgt := 667) hx hb dL_law_550 (by decide) (fun _ => ?_) (fun c9 => absurd rfl c9)
  refine W.widen (k := cells + 1) (n := slots + 6) (Nat.le_add_right _ 1) (Nat.le_add_right _ 6) ?_
  exact kk g f (upd F 11 (0 : Int32)) a w H locs _ (hM.cd _) hA hP hD hS (lv_sub hl [0, 1, 2, 3, 4] rfl)
