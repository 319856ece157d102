set_option maxHeartbeats 4000000 in
set_option maxRecDepth 100000 in
/-- THE LAW, from its entry -/
theorem whole_start {p : Program} {e : Env} {s : State} {m : MethodId} {below : List Frame} {meth : Method} {c : Code} (l : Launch) (hl0 : l.stackTraces = false) {b L : Nat} {xs : Nat → Int32} (hL : L ≤ 2560) (C0 : lw_At p s m meth c b L xs) : W p l e room_1 s m #[Value.ref b] below meth c s.heap [] 0 0 (lw_Z below #[Value.ref b] s) (entryFrame m ([Value.ref b] : List Value).toArray 7) := by
  obtain ⟨hx, hb, hr, hml, hown, hts, hX, hbl, hlocks, hgv⟩ := id C0
  obtain ⟨tS, sc, hG⟩ := st_G hts hgv
  obtain ⟨D, cI, hK⟩ := st_K hts
  have hI := st_I hts
  have hb : c.code = cL_law := hb
  have hown : s.vm.findClass RL = some m.cls := hown
  have htl : ∀ w ∈ wsL_law, w.before #[Value.ref b] s = true := fun w h => hts w (wsL_law_in w h)
  have hA : ∀ q : Nat, s.heap.size ≤ q → (fun q : Nat => s.heap.size ≤ q) q := fun _ h => h
  have hS : va_S (fun q : Nat => s.heap.size ≤ q) s.heap s.heap [] := va_S.rf
  have hP : va_P D vwCl [] s.heap := fun k q h => by simp at h
  have hD : va_D (fun q : Nat => s.heap.size ≤ q) [] := ⟨fun i j p q h => by simp at h, fun k q h => by simp at h⟩
  have hl := lv_entry ([.ref b]) (n := 7) (Nat.le_of_ble_eq_true rfl)
  rw [lg_entry_eq]
  generalize (lg_sl ([.ref b]) ++ List.replicate (7 - (lg_sl ([.ref b])).length) Slot.unset).toArray = ls at hl ⊢
  have hl : lv_has ls 7 [(0, .ref b)] := hl
  refine va_new (ci := 4) (fs := [.null, .null, .null, .null]) (C := RX4) (T := TX4) (N := 4) hx hb hts luX4 tyX4 tyX4_ok hown (hts (.classLink RL 8 RX4) (lt1 _ (List.mem_of_getElem? (i := 14) rfl))) (hts (.instantiable RX4 4) (lt1 _ (List.mem_of_getElem? (i := 15) rfl))) (hts (.initialized RX4) (lt1 _ (List.mem_of_getElem? (i := 1) rfl))) hK hP hD hS hA rfl (fun j hj => by rcases (show j = 0 ∨ j = 1 ∨ j = 2 ∨ j = 3 by omega) with rfl | rfl | rfl | rfl <;> rfl) (Nat.le_of_ble_eq_true rfl) (Nat.le_of_ble_eq_true rfl) dL_law_0 (fun q1 H hP hD hS => ?_)
  have hP : va_P D vwCl [(q1, .inr (4, [.null, .null, .null, .null]))] H := hP
  have hD : va_D (fun q : Nat => s.heap.size ≤ q) [(q1, .inr (4, [.null, .null, .null, .null]))] := hD
  refine W.widen (k := 1) (n := 4) (by omega) (by omega) ?_
  refine lv_dup hx hb dL_law_3 rfl ?_
  refine KI.callI (As := []) (rest := [.ref q1]) (kX4_init l D cI q1) (cwI 0 htl gL_law_X4_init rfl rfl rfl (hts (.initialized RX4) (lt1 _ (List.mem_of_getElem? (i := 1) rfl))) (hts (.methodLink RL 38 yX4_init) (lt1 _ (List.mem_of_getElem? (i := 16) rfl))) (hts (.instanceMethod yX4_init) (lt1 _ (List.mem_of_getElem? (i := 17) rfl))) rfl (by decide +kernel) ⟨Nat.le_of_ble_eq_true rfl, Nat.le_of_ble_eq_true rfl⟩) ⟨hx, hb, hml, hown, htl⟩ (fun _ _ hv h => sI_.same hv h) (fun U hW => sI_.warm hW hI) hK hP hD hS hA [0] [] (by decide) rfl (wr := []) rfl (by decide) (by decide) rfl hl.1 rfl (Nat.le_of_ble_eq_true rfl) dL_law_4 ⟨Nat.le_of_ble_eq_true rfl, Nat.le_of_ble_eq_true rfl⟩ (fun u1 H locs hP hD hS => ?_)
  have hP : va_P D vwCl (wX cI (fun k => if k = 10 then q1 else u1 k) zI (upd zI 11 (2 : Int32)) (fun _ => zI)) H := hP
  have hD : va_D (fun q : Nat => s.heap.size ≤ q) (wX cI (fun k => if k = 10 then q1 else u1 k) zI (upd zI 11 (2 : Int32)) (fun _ => zI)) := hD
  refine W.widen (k := 11) (n := 10293) (Nat.le_of_ble_eq_true rfl) (Nat.le_of_ble_eq_true rfl) ?_
  refine lv_astore_n (lv' := [(1, .ref q1), (0, .ref b)]) hx hb dL_law_7 rfl hl (by decide) rfl (fun ls hl => ?_)
  refine va_new (ci := 5) (fs := [.int 0, .null, .null, .null, .int 0, .int 0, .int 0, .int 0, .int 0, .int 0, .int 0, .int 0, .int 0, .int 0, .int 0, .int 0, .null, .int 0, .int 0, .null, .null, .int 0, .int 0, .int 0]) (C := RX5) (T := TX5) (N := 24) hx hb hts luX5 tyX5 tyX5_ok hown (hts (.classLink RL 39 RX5) (lt3 _ (List.mem_of_getElem? (i := 87) rfl))) (hts (.instantiable RX5 24) (lt3 _ (List.mem_of_getElem? (i := 88) rfl))) (hts (.initialized RX5) (lt1 _ (List.mem_of_getElem? (i := 6) rfl))) hK hP hD hS hA rfl (fun j hj => by rcases (show j = 0 ∨ j = 1 ∨ j = 2 ∨ j = 3 ∨ j = 4 ∨ j = 5 ∨ j = 6 ∨ j = 7 ∨ j = 8 ∨ j = 9 ∨ j = 10 ∨ j = 11 ∨ j = 12 ∨ j = 13 ∨ j = 14 ∨ j = 15 ∨ j = 16 ∨ j = 17 ∨ j = 18 ∨ j = 19 ∨ j = 20 ∨ j = 21 ∨ j = 22 ∨ j = 23 by omega) with rfl | rfl | rfl | rfl | rfl | rfl | rfl | rfl | rfl | rfl | rfl | rfl | rfl | rfl | rfl | rfl | rfl | rfl | rfl | rfl | rfl | rfl | rfl | rfl <;> rfl) (Nat.le_of_ble_eq_true rfl) (Nat.le_of_ble_eq_true rfl) dL_law_8 (fun q2 H hP hD hS => ?_)
  have hP : va_P D vwCl (wX cI (fun k => if k = 10 then q1 else u1 k) zI (upd zI 11 (2 : Int32)) (fun _ => zI) ++ [(q2, .inr (5, [.int 0, .null, .null, .null, .int 0, .int 0, .int 0, .int 0, .int 0, .int 0, .int 0, .int 0, .int 0, .int 0, .int 0, .int 0, .null, .int 0, .int 0, .null, .null, .int 0, .int 0, .int 0]))]) H := hP
  have hD : va_D (fun q : Nat => s.heap.size ≤ q) (wX cI (fun k => if k = 10 then q1 else u1 k) zI (upd zI 11 (2 : Int32)) (fun _ => zI) ++ [(q2, .inr (5, [.int 0, .null, .null, .null, .int 0, .int 0, .int 0, .int 0, .int 0, .int 0, .int 0, .int 0, .int 0, .int 0, .int 0, .int 0, .null, .int 0, .int 0, .null, .null, .int 0, .int 0, .int 0]))]) := hD
  refine W.widen (k := 12) (n := 10317) (Nat.le_of_ble_eq_true rfl) (Nat.le_of_ble_eq_true rfl) ?_
  refine lv_dup hx hb dL_law_11 rfl ?_
  refine KI.callI (As := []) (rest := [.ref q2]) (kX5_init l D cI q2) (cwI 0 htl gL_law_X5_init rfl rfl rfl (hts (.initialized RX5) (lt1 _ (List.mem_of_getElem? (i := 6) rfl))) (hts (.methodLink RL 41 yX5_init) (lt3 _ (List.mem_of_getElem? (i := 89) rfl))) (hts (.instanceMethod yX5_init) (lt3 _ (List.mem_of_getElem? (i := 90) rfl))) rfl (by decide +kernel) ⟨Nat.le_of_ble_eq_true rfl, Nat.le_of_ble_eq_true rfl⟩) ⟨hx, hb, hml, hown, htl⟩ (fun _ _ _ h => h) (fun _ _ => trivial) hK hP hD hS hA [11] [0, 1, 2, 3, 4, 5, 6, 7, 8, 9, 10] (by decide) rfl (wr := [_, _, _, _, _, _, _, _, _, _, _]) rfl (by decide) (by decide) rfl hl.1 rfl (Nat.le_of_ble_eq_true rfl) dL_law_12 ⟨Nat.le_of_ble_eq_true rfl, Nat.le_of_ble_eq_true rfl⟩ (fun u2 H locs hP hD hS => ?_)
  have hP : va_P D vwCl (wX cI (fun k => if k = 10 then q1 else u1 k) zI (upd zI 11 (2 : Int32)) (fun _ => zI) ++ wR cI (fun k => if k = 20 then q2 else u2 k) zI (fun _ => zI)) H := hP
  have hD : va_D (fun q : Nat => s.heap.size ≤ q) (wX cI (fun k => if k = 10 then q1 else u1 k) zI (upd zI 11 (2 : Int32)) (fun _ => zI) ++ wR cI (fun k => if k = 20 then q2 else u2 k) zI (fun _ => zI)) := hD
  refine W.widen (k := 18) (n := 20586) (Nat.le_of_ble_eq_true rfl) (Nat.le_of_ble_eq_true rfl) ?_
  refine lv_astore_n (lv' := [(2, .ref q2), (1, .ref q1), (0, .ref b)]) hx hb dL_law_15 rfl hl (by decide) rfl (fun ls hl => ?_)
  refine lv_iconst (v := 1) hx hb dL_law_16 (by decide) ?_
  refine va_newa (atype := .long) (ty := .long) (N' := 1) (a0 := (1, .inr (.inl (fun _ => 0)))) hx hb (hts (.arrayClass .long) (lt4 _ (List.mem_of_getElem? (i := 110) rfl))) rfl hK hP hD hS hA (fun _ => rfl) (by decide) (by decide) (by decide) (Nat.le_of_ble_eq_true rfl) (Nat.le_of_ble_eq_true rfl) dL_law_17 (fun ob cL H hK1 hP hD hS => ?_)
  have hL9 : va_K D vwCl [(cL, .long)] s := hK1.sub [1] rfl
  obtain ⟨o, ho⟩ : ∃ o : Nat → Nat, o = fun k => if k = 10 then q1 else if k < 20 then u1 k else if k = 20 then q2 else u2 k := ⟨_, rfl⟩
  have o0 : o 0 = u1 0 := by rw [ho]; rfl
  have o1 : o 1 = u1 1 := by rw [ho]; rfl
  have o2 : o 2 = u1 2 := by rw [ho]; rfl
  have o3 : o 3 = u1 3 := by rw [ho]; rfl
  have o4 : o 4 = u1 4 := by rw [ho]; rfl
  have o5 : o 5 = u1 5 := by rw [ho]; rfl
  have o6 : o 6 = u1 6 := by rw [ho]; rfl
  have o7 : o 7 = u1 7 := by rw [ho]; rfl
  have o8 : o 8 = u1 8 := by rw [ho]; rfl
  have o9 : o 9 = u1 9 := by rw [ho]; rfl
  have o10 : o 10 = q1 := by rw [ho]; rfl
  have o20 : o 20 = q2 := by rw [ho]; rfl
  have o21 : o 21 = u2 21 := by rw [ho]; rfl
  have o22 : o 22 = u2 22 := by rw [ho]; rfl
  have o23 : o 23 = u2 23 := by rw [ho]; rfl
  have o24 : o 24 = u2 24 := by rw [ho]; rfl
  have o25 : o 25 = u2 25 := by rw [ho]; rfl
  have o26 : o 26 = u2 26 := by rw [ho]; rfl
  have hw : (wX cI (fun k => if k = 10 then q1 else u1 k) zI (upd zI 11 (2 : Int32)) (fun _ => zI) ++ wR cI (fun k => if k = 20 then q2 else u2 k) zI (fun _ => zI)) ++ [(ob, .inl (cL, (1, .inr (.inl (fun _ => 0)))))] = wL cI cL o ob zI (upd zI 11 (2 : Int32)) (fun _ => zI) zI (fun _ => zI) (fun _ => 0) := by
    unfold wL wX wR
    rw [o0, o1, o2, o3, o4, o5, o6, o7, o8, o9, o10, o20, o21, o22, o23, o24, o25, o26]
    rfl
  rw [hw] at hP hD
  refine W.widen (k := 19) (n := 20587) (Nat.le_of_ble_eq_true rfl) (Nat.le_of_ble_eq_true rfl) ?_
  refine lv_astore_n (lv' := [(3, .ref ob), (2, .ref q2), (1, .ref q1), (0, .ref b)]) hx hb dL_law_19 rfl hl (by decide) rfl (fun ls hl => ?_)
  refine lv_iconst (v := 0) hx hb dL_law_20 (by decide) ?_
  refine lv_istore (lv' := [(4, .int 0), (3, .ref ob), (2, .ref q2), (1, .ref q1), (0, .ref b)]) hx hb dL_law_21 hl (by decide) rfl (fun ls hl => ?_)
  have hl := lv_sub (l' := [(0, .ref b), (1, .ref q1), (2, .ref q2), (3, .ref ob), (4, .int 0)]) hl [4, 3, 2, 1, 0] rfl
  rw [← o10, ← o20] at hl
  exact law_loop (o := o) hL ⟨hl0, hx, hb, hml, hown, htl, hX, hbl, hK, hL9, hG⟩ hr hlocks (L + 1) 0 (Nat.zero_le _) (by omega) _ _ _ _ _ _ _ _ mid0 oka0 hP hD hS hl
