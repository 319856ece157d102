def xOn  (p1 : Int64) (p2 : Int32) : Int32 :=
  (if (if p2.toInt64 < p1 then p2.toInt64 else p1) < (0 : Int64) then (0 : Int64) else (if p2.toInt64 < p1 then p2.toInt64 else p1)).toInt32
set_option maxHeartbeats 4000000 in
set_option maxRecDepth 100000 in
theorem kX4_onScreen (l : Launch) (D : va_G) (cI : ClassId)  (p1 : Int64) (p2 : Int32) : KC l yX4_onScreen wsX4_onScreen 1 [.long p1, .int p2] D cI ([]) ([]) (some (.int (xOn p1 p2))) := by
  refine KC.of (cc := cX4_onScreen) (maxL := 3) (by decide) rfl (Nat.le_of_ble_eq_true rfl) ?_
  intro p e s m below meth c A hx hb hr hts hown hlocks hml hK hP hD hS hA ls hl
  have hl : lv_has ls 3 [(0, .long p1), (2, .int p2)] := hl
  have hown : s.vm.findClass RX4 = some m.cls := hown
  refine lv_lconst (v := 0) hx hb dX4_onScreen_0 (by decide) ?_
  refine lv_lload_n hx hb dX4_onScreen_1 rfl (lv_at hl 0 rfl) ?_
  refine lv_iload_n hx hb dX4_onScreen_2 rfl (lv_at hl 1 rfl) ?_
  refine lv_i2l hx hb dX4_onScreen_3 rfl ?_
  refine va_mmin_long hx hb (hml.trans hl.1.symm) hown (hts (.methodLink RX4 161 Lib.MathLoose.min_long.x) (List.mem_cons_of_mem _ (List.mem_of_getElem? (i := 0) rfl))) (hts (.static Lib.MathLoose.min_long.x) (List.mem_cons_of_mem _ (List.mem_of_getElem? (i := 1) rfl))) (hts (.initialized "java/lang/Math") (List.mem_cons_of_mem _ (List.mem_of_getElem? (i := 2) rfl))) (hts (.code Lib.MathLoose.min_long.x Lib.MathLoose.min_long.code 4 (some .long)) (List.mem_cons_of_mem _ (List.mem_of_getElem? (i := 3) rfl))) (Nat.le_of_ble_eq_true rfl) (Nat.le_of_ble_eq_true rfl) (Nat.zero_le _) (Nat.zero_le _) dX4_onScreen_4 ?_
  refine va_mmax_long hx hb (hml.trans hl.1.symm) hown (hts (.methodLink RX4 164 Lib.MathLoose.max_long.x) (List.mem_cons_of_mem _ (List.mem_of_getElem? (i := 4) rfl))) (hts (.static Lib.MathLoose.max_long.x) (List.mem_cons_of_mem _ (List.mem_of_getElem? (i := 5) rfl))) (hts (.initialized "java/lang/Math") (List.mem_cons_of_mem _ (List.mem_of_getElem? (i := 2) rfl))) (hts (.code Lib.MathLoose.max_long.x Lib.MathLoose.max_long.code 4 (some .long)) (List.mem_cons_of_mem _ (List.mem_of_getElem? (i := 6) rfl))) (Nat.le_of_ble_eq_true rfl) (Nat.le_of_ble_eq_true rfl) (Nat.zero_le _) (Nat.zero_le _) dX4_onScreen_7 ?_
  refine lv_l2i hx hb dX4_onScreen_10 rfl ?_
  have hF : xOn p1 p2 = (if (if p2.toInt64 < p1 then p2.toInt64 else p1) < (0 : Int64) then (0 : Int64) else (if p2.toInt64 < p1 then p2.toInt64 else p1)).toInt32 := rfl
  rw [hF]
  exact KC.reti hx hb hr hlocks hK hP hD hS dX4_onScreen_11 rfl
def xLitL (a : Nat → Nat → Int32) (rt tp bt : Int32) : Nat → Nat → Int32 → Int32
  | 0, _, sm => sm
  | n + 1, k, sm => if rt ≤ nI k then sm else xLitL a rt tp bt n (k + 1) (sm + xDots a (nI k) tp bt)
set_option maxHeartbeats 4000000 in
set_option maxRecDepth 100000 in
theorem lpX4_lit {l : Launch} {D : va_G} {cI : ClassId} {o : Nat → Nat} {g f : Nat → Int32} {a : Nat → Nat → Int32} {rt tp bt : Int32} {r : Nat} {p : Program} {e : Env} {s : State} {m : MethodId} {args : Array Value} {below : List Frame} {meth : Method} {c : Code} {A : Nat → Prop} (hx : p.tables.exec = Jvm.exec) (hb : c.code = cX4_lit) (hr : meth.sig.returnType = (some .int)) (hts : ∀ w ∈ wsX4_lit, w.before args s = true) (hown : s.vm.findClass RX4 = some m.cls) (hlocks : meth.locks = false) (hml : c.maxLocals = 11) (hK : va_K D vwCl [(cI, .int)] s) (hA : ∀ q : Nat, s.heap.size ≤ q → A q) (hR : rt = nI r) :
    ∀ (n k : Nat), r ≤ k + n → k + n ≤ 1000 → ∀ (sm : Int32) (H : Heap) (locs : List Loc), va_P D vwCl (wX cI o g f a) H → va_D A (wX cI o g f a) → va_S A s.heap H locs → ∀ ls : Array Slot, lv_has ls 11 [(10, .int (nI k)), (9, .int sm), (8, .int bt), (7, .int tp), (6, .int rt), (0, .ref (o 10))] → W p l e (rmD 2) s m args below meth c H locs 0 0 (MQ below (kq_ D cI (some (.int (xLitL a rt tp bt n k sm))) (wX cI o g f a) A) args s 0 0 A) (F0 m 54 ls []) := by
  have hi4 : ∀ w ∈ u_ws RX4 TX4 4, w ∈ wsX4_lit := fun w h => List.mem_cons_of_mem _ (List.mem_append_left _ (List.mem_append_right _ h))
  intro n
  induction n with
  | zero =>
    intro k hk hk2 sm H locs hP hD hS ls hl
    refine lv_iload hx hb dX4_lit_54 (lv_at hl 0 rfl) ?_
    refine lv_iload hx hb dX4_lit_56 (lv_at hl 4 rfl) ?_
    refine lv_icmp_ge (tgt := 85) hx hb dX4_lit_58 (by decide) (fun c_1 => ?_) (fun c_1 => ?_)
    · refine lv_iload hx hb dX4_lit_85 (lv_at hl 1 rfl) ?_
      exact KC.reti hx hb hr hlocks hK hP hD hS dX4_lit_87 rfl
    · exact absurd (by rw [hR]; exact nI_le (by omega) (by omega)) c_1
  | succ n ih =>
    intro k hk hk2 sm H locs hP hD hS ls hl
    refine lv_iload hx hb dX4_lit_54 (lv_at hl 0 rfl) ?_
    refine lv_iload hx hb dX4_lit_56 (lv_at hl 4 rfl) ?_
    refine lv_icmp_ge (tgt := 85) hx hb dX4_lit_58 (by decide) (fun c_2 => ?_) (fun c_2 => ?_)
    · refine lv_iload hx hb dX4_lit_85 (lv_at hl 1 rfl) ?_
      have hF : xLitL a rt tp bt (n + 1) k sm = sm := by
        rw [xLitL]
        exact if_pos c_2
      rw [hF]
      exact KC.reti hx hb hr hlocks hK hP hD hS dX4_lit_87 rfl
    · refine lv_iload hx hb dX4_lit_61 (lv_at hl 1 rfl) ?_
      refine lv_aload_n hx hb dX4_lit_63 rfl (lv_at hl 5 rfl) ?_
      refine va_get (ci := 4) (v := .ref (o 2)) (C := RX4) (T := TX4) (N := 4) hx hb hts hi4 hown hK hP 0 rfl rfl 0 (by decide) (hts (.fieldLink RX4 10 "InvaderBoard" "store" "LInvaderBoard$Memory;") (List.mem_cons_of_mem _ (List.mem_append_left _ (List.mem_append_left _ (List.mem_append_left _ (List.mem_of_getElem? (i := 0) rfl)))))) (fun _ h9 => h9) rfl dX4_lit_64 ?_
      refine lv_iload hx hb dX4_lit_67 (lv_at hl 0 rfl) ?_
      refine lv_iload hx hb dX4_lit_69 (lv_at hl 3 rfl) ?_
      refine lv_iload hx hb dX4_lit_71 (lv_at hl 2 rfl) ?_
      refine KC.calli (ci := 1) (rest := [.int sm]) (wt := wX cI o g f a) (kX1_dotsInColumn l D cI o a (nI k) tp bt) (cwV 3 hts gX4_lit_X1_dotsInColumn rfl rfl rfl (by decide +kernel) ⟨Nat.le_of_ble_eq_true rfl, Nat.le_of_ble_eq_true rfl⟩) ⟨hx, hb, hml, hown, hts⟩ hK hP hD hS hA rfl rfl rfl [4, 5, 6] [0, 1, 2, 3, 7, 8, 9, 10] [0, 1, 2, 3, 8, 9, 10, 4, 5, 6, 7] (by decide) rfl (wr := [_, _, _, _, _, _, _, _]) rfl (by decide) (by decide) (by decide) rfl rfl hl.1 rfl (Nat.le_of_ble_eq_true rfl) dX4_lit_73 ⟨Nat.zero_le _, Nat.zero_le _⟩ (fun H locs hP hD hS => ?_)
      refine lv_iadd hx hb dX4_lit_76 ?_
      refine lv_istore (lv' := [(9, .int _), (10, .int _), (8, .int _), (7, .int _), (6, .int _), (0, .ref _)]) hx hb dX4_lit_77 hl (by decide) rfl (fun ls hl => ?_)
      refine lv_iinc (v := (nI k) + (1 : Int32)) (lv' := [(10, .int _), (9, .int _), (8, .int _), (7, .int _), (6, .int _), (0, .ref _)]) hx hb dX4_lit_79 hl (k := 1) rfl rfl (by decide) rfl (fun ls hl => ?_)
      refine lv_goto (tgt := 54) hx hb dX4_lit_82 (by decide) ?_
      rw [nI_1] at hl
      have hF : xLitL a rt tp bt (n + 1) k sm = xLitL a rt tp bt n (k + 1) (sm + (xDots a (nI k) tp bt)) := by
        rw [xLitL]
        exact if_neg c_2
      rw [hF]
      exact ih (k + 1) (by omega) (by omega) _ H locs hP hD hS ls (lv_sub hl [0, 1, 2, 3, 4, 5] rfl)
theorem xOn_int (e : Int64) {n : Nat} (hn : n ≤ 300) : xOn e (nI n) = nI (min (n : Int) e.toInt).toNat := by
  have hN : (nI n).toInt64.toInt = (n : Int) := by rw [Int32.toInt_toInt64, nI_toInt (by omega)]
  have h0 : (0 : Int64).toInt = 0 := by decide
  unfold xOn
  generalize (nI n).toInt64 = N at hN
  have hv : ∀ v : Int64, v.toInt = min (n : Int) e.toInt → (if v < (0 : Int64) then (0 : Int64) else v).toInt32 = nI (min (n : Int) e.toInt).toNat := by
    intro v hv
    apply Int32.toInt_inj.mp
    rw [nI_toInt (by omega)]
    by_cases q : v < (0 : Int64)
    · rw [if_pos q]
      have q2 : v.toInt < 0 := by rw [← h0]; exact Int64.lt_iff_toInt_lt.mp q
      rw [show ((0 : Int64).toInt32).toInt = 0 from by decide]
      omega
    · rw [if_neg q]
      have q2 : ¬ v.toInt < 0 := fun z => q (Int64.lt_iff_toInt_lt.mpr (by rw [h0]; exact z))
      rw [Int64.toInt_toInt32, Int.bmod_eq_of_le (by omega) (by omega)]
      omega
  by_cases q : N < e
  · rw [if_pos q]
    refine hv N ?_
    have := Int64.lt_iff_toInt_lt.mp q
    omega
  · rw [if_neg q]
    refine hv e ?_
    have : ¬ N.toInt < e.toInt := fun z => q (Int64.lt_iff_toInt_lt.mpr z)
    omega
theorem xOn_nat (e : Int64) {n : Nat} (hn : n ≤ 300) : ∃ j : Nat, j ≤ n ∧ xOn e (nI n) = nI j := ⟨_, by omega, xOn_int e hn⟩
def xLit (g : Nat → Int32) (f : Nat → Int32) (a : Nat → Nat → Int32) (p1 : Int32) (p2 : Int32) (p3 : Int32) (p4 : Int32) : Int32 :=
  xLitL a (xOn (p1.toInt64 + p3.toInt64) (224 : Int32)) (xOn p2.toInt64 (256 : Int32)) (xOn (p2.toInt64 + p4.toInt64) (256 : Int32)) 224 (xOn p1.toInt64 (224 : Int32)).toNatClampNeg (0 : Int32)
set_option maxHeartbeats 4000000 in
set_option maxRecDepth 100000 in
theorem kX4_lit (l : Launch) (D : va_G) (cI : ClassId) (o : Nat → Nat) (g : Nat → Int32) (f : Nat → Int32) (a : Nat → Nat → Int32) (p1 : Int32) (p2 : Int32) (p3 : Int32) (p4 : Int32) : KC l yX4_lit wsX4_lit 2 [.ref (o 10), .int p1, .int p2, .int p3, .int p4] D cI (wX cI o g f a) (wX cI o g f a) (some (.int (xLit g f a p1 p2 p3 p4))) := by
  refine KC.of (cc := cX4_lit) (maxL := 11) (by decide) rfl (Nat.le_of_ble_eq_true rfl) ?_
  intro p e s m below meth c A hx hb hr hts hown hlocks hml hK hP hD hS hA ls hl
  have hl : lv_has ls 11 [(0, .ref (o 10)), (1, .int p1), (2, .int p2), (3, .int p3), (4, .int p4)] := hl
  have hown : s.vm.findClass RX4 = some m.cls := hown
  refine lv_iload_n hx hb dX4_lit_0 rfl (lv_at hl 1 rfl) ?_
  refine lv_i2l hx hb dX4_lit_1 rfl ?_
  refine lv_sipush (v := 224) hx hb dX4_lit_2 (by decide) ?_
  refine KC.callS (rest := []) (kX4_onScreen l D cI p1.toInt64 (224 : Int32)) (va_cwS 2 hts gX4_lit_X4_onScreen rfl rfl rfl (by decide +kernel) ⟨Nat.le_of_ble_eq_true rfl, Nat.le_of_ble_eq_true rfl⟩) ⟨hx, hb, hml, hown, hts⟩ hK hP hD hS hA rfl hl.1 rfl (Nat.le_of_ble_eq_true rfl) dX4_lit_5 ⟨Nat.zero_le _, Nat.zero_le _⟩ (fun H locs hP hD hS => ?_)
  refine lv_istore (lv' := [(5, .int _), (0, .ref _), (1, .int _), (2, .int _), (3, .int _), (4, .int _)]) hx hb dX4_lit_8 hl (by decide) rfl (fun ls hl => ?_)
  refine lv_iload_n hx hb dX4_lit_10 rfl (lv_at hl 2 rfl) ?_
  refine lv_i2l hx hb dX4_lit_11 rfl ?_
  refine lv_iload_n hx hb dX4_lit_12 rfl (lv_at hl 4 rfl) ?_
  refine lv_i2l hx hb dX4_lit_13 rfl ?_
  refine lv_ladd hx hb dX4_lit_14 ?_
  refine lv_sipush (v := 224) hx hb dX4_lit_15 (by decide) ?_
  refine KC.callS (rest := []) (kX4_onScreen l D cI (p1.toInt64 + p3.toInt64) (224 : Int32)) (va_cwS 2 hts gX4_lit_X4_onScreen rfl rfl rfl (by decide +kernel) ⟨Nat.le_of_ble_eq_true rfl, Nat.le_of_ble_eq_true rfl⟩) ⟨hx, hb, hml, hown, hts⟩ hK hP hD hS hA rfl hl.1 rfl (Nat.le_of_ble_eq_true rfl) dX4_lit_18 ⟨Nat.zero_le _, Nat.zero_le _⟩ (fun H locs hP hD hS => ?_)
  refine lv_istore (lv' := [(6, .int _), (5, .int _), (0, .ref _), (1, .int _), (2, .int _), (3, .int _), (4, .int _)]) hx hb dX4_lit_21 hl (by decide) rfl (fun ls hl => ?_)
  refine lv_iload_n hx hb dX4_lit_23 rfl (lv_at hl 4 rfl) ?_
  refine lv_i2l hx hb dX4_lit_24 rfl ?_
  refine lv_sipush (v := 256) hx hb dX4_lit_25 (by decide) ?_
  refine KC.callS (rest := []) (kX4_onScreen l D cI p2.toInt64 (256 : Int32)) (va_cwS 2 hts gX4_lit_X4_onScreen rfl rfl rfl (by decide +kernel) ⟨Nat.le_of_ble_eq_true rfl, Nat.le_of_ble_eq_true rfl⟩) ⟨hx, hb, hml, hown, hts⟩ hK hP hD hS hA rfl hl.1 rfl (Nat.le_of_ble_eq_true rfl) dX4_lit_28 ⟨Nat.zero_le _, Nat.zero_le _⟩ (fun H locs hP hD hS => ?_)
  refine lv_istore (lv' := [(7, .int _), (6, .int _), (5, .int _), (0, .ref _), (1, .int _), (2, .int _), (3, .int _), (4, .int _)]) hx hb dX4_lit_31 hl (by decide) rfl (fun ls hl => ?_)
  refine lv_iload_n hx hb dX4_lit_33 rfl (lv_at hl 5 rfl) ?_
  refine lv_i2l hx hb dX4_lit_34 rfl ?_
  refine lv_iload hx hb dX4_lit_35 (lv_at hl 7 rfl) ?_
  refine lv_i2l hx hb dX4_lit_37 rfl ?_
  refine lv_ladd hx hb dX4_lit_38 ?_
  refine lv_sipush (v := 256) hx hb dX4_lit_39 (by decide) ?_
  refine KC.callS (rest := []) (kX4_onScreen l D cI (p2.toInt64 + p4.toInt64) (256 : Int32)) (va_cwS 2 hts gX4_lit_X4_onScreen rfl rfl rfl (by decide +kernel) ⟨Nat.le_of_ble_eq_true rfl, Nat.le_of_ble_eq_true rfl⟩) ⟨hx, hb, hml, hown, hts⟩ hK hP hD hS hA rfl hl.1 rfl (Nat.le_of_ble_eq_true rfl) dX4_lit_42 ⟨Nat.zero_le _, Nat.zero_le _⟩ (fun H locs hP hD hS => ?_)
  refine lv_istore (lv' := [(8, .int _), (7, .int _), (6, .int _), (5, .int _), (0, .ref _), (1, .int _), (2, .int _), (3, .int _), (4, .int _)]) hx hb dX4_lit_45 hl (by decide) rfl (fun ls hl => ?_)
  refine lv_iconst (v := 0) hx hb dX4_lit_47 (by decide) ?_
  refine lv_istore (lv' := [(9, .int _), (8, .int _), (7, .int _), (6, .int _), (5, .int _), (0, .ref _), (1, .int _), (2, .int _), (3, .int _), (4, .int _)]) hx hb dX4_lit_48 hl (by decide) rfl (fun ls hl => ?_)
  refine lv_iload hx hb dX4_lit_50 (lv_at hl 4 rfl) ?_
  refine lv_istore (lv' := [(10, .int _), (9, .int _), (8, .int _), (7, .int _), (6, .int _), (5, .int _), (0, .ref _), (1, .int _), (2, .int _), (3, .int _), (4, .int _)]) hx hb dX4_lit_52 hl (by decide) rfl (fun ls hl => ?_)
  have hF : xLit g f a p1 p2 p3 p4 = xLitL a (xOn (p1.toInt64 + p3.toInt64) (224 : Int32)) (xOn p2.toInt64 (256 : Int32)) (xOn (p2.toInt64 + p4.toInt64) (256 : Int32)) 224 (xOn p1.toInt64 (224 : Int32)).toNatClampNeg (0 : Int32) := rfl
  rw [hF]
  obtain ⟨j5, hj5, e5⟩ := xOn_nat (p1.toInt64) (n := 224) (by decide)
  obtain ⟨j6, hj6, e6⟩ := xOn_nat ((p1.toInt64) + (p3.toInt64)) (n := 224) (by decide)
  have e5 : xOn p1.toInt64 (224 : Int32) = nI j5 := e5
  have e6 : xOn (p1.toInt64 + p3.toInt64) (224 : Int32) = nI j6 := e6
  rw [e5] at hl ⊢
  rw [nI_clamp (by omega)]
  exact lpX4_lit hx hb hr hts hown hlocks hml hK hA e6 224 j5 (by omega) (by omega) (0 : Int32) _ _ hP hD hS ls (lv_sub hl [0, 1, 2, 3, 4, 6] rfl)
