def xLoadL (a : Nat → Nat → Int32) (p1 p2 p3 : Int32) : Nat → Nat → (Nat → Int32) → Nat → Int32
  | 0, _, r => r
  | n + 1, k, r => xLoadL a p1 p2 p3 n (k + 1) (xBurn (ua a 0 r) (p1 + (nI k)) (p2 >>> (((8 : Int32) * ((p3 - (1 : Int32)) - (nI k))) &&& 31)))
set_option maxHeartbeats 4000000 in
set_option maxRecDepth 100000 in
theorem lpX4_load {l : Launch} {D : va_G} {cI : ClassId} {o : Nat → Nat} {g f : Nat → Int32} {a : Nat → Nat → Int32} {p1 p2 p3 : Int32} {N : Nat} {thr : Prop} {XC : String → State → State → Prop} {p : Program} {e : Env} {s : State} {m : MethodId} {args : Array Value} {below : List Frame} {meth : Method} {c : Code} {A : Nat → Prop} (hx : p.tables.exec = Jvm.exec) (hb : c.code = cX4_load) (hr : meth.sig.returnType = (some .int)) (hts : ∀ w ∈ wsX4_load, w.before args s = true) (hown : s.vm.findClass RX4 = some m.cls) (hlocks : meth.locks = false) (hml : c.maxLocals = 5) (hK : va_K D vwCl [(cI, .int)] s) (hA : ∀ q : Nat, s.heap.size ≤ q → A q) (hN : p3 = nI N) (hN4 : N ≤ 4) (hnt : ¬ thr) :
    ∀ (n k : Nat), k + n = N → ∀ (r : Nat → Int32), ∀ (H : Heap) (locs : List Loc), va_P D vwCl (wX cI o g f (ua a 0 r)) H → va_D A (wX cI o g f (ua a 0 r)) → va_S A s.heap H locs → ∀ ls : Array Slot, lv_has ls 5 [(4, .int (nI k)), (0, .ref (o 10)), (1, .int p1), (2, .int p2), (3, .int p3)] → W p l e (rmX 7) s m args below meth c H locs 0 0 (vx_MQ below (kx_ D cI thr (some (.int (p1 + p3))) (wX cI o g f (ua a 0 (xLoadL a p1 p2 p3 n k r))) A) XC args s 1 6 A) (F0 m 46 ls []) := by
  have hi4 : ∀ w ∈ u_ws RX4 TX4 4, w ∈ wsX4_load := fun w h => List.mem_cons_of_mem _ (List.mem_append_left _ (List.mem_append_left _ (List.mem_append_right _ h)))
  intro n
  induction n with
  | zero =>
    intro k hk r H locs hP hD hS ls hl
    obtain rfl : k = N := by omega
    refine lv_iload hx hb dX4_load_46 (lv_at hl 0 rfl) ?_
    refine lv_iload_n hx hb dX4_load_48 rfl (lv_at hl 4 rfl) ?_
    refine lv_icmp_ge (tgt := 80) hx hb dX4_load_49 (by decide) (fun c_1 => ?_) (fun c_1 => ?_)
    · refine lv_iload_n hx hb dX4_load_80 rfl (lv_at hl 2 rfl) ?_
      refine lv_iload_n hx hb dX4_load_81 rfl (lv_at hl 4 rfl) ?_
      refine lv_iadd hx hb dX4_load_82 ?_
      exact KT.reti hx hb hr hlocks hK hP hD hS dX4_load_83 hnt rfl
    · exact absurd (by rw [hN]; exact nI_le (Nat.le_refl _) (by omega)) c_1
  | succ n ih =>
    intro k hk r H locs hP hD hS ls hl
    refine lv_iload hx hb dX4_load_46 (lv_at hl 0 rfl) ?_
    refine lv_iload_n hx hb dX4_load_48 rfl (lv_at hl 4 rfl) ?_
    refine lv_icmp_ge (tgt := 80) hx hb dX4_load_49 (by decide) (fun c_2 => ?_) (fun c_2 => ?_)
    · exact absurd c_2 (by rw [hN]; exact nI_ge (by omega) (by omega))
    · refine lv_aload_n hx hb dX4_load_52 rfl (lv_at hl 1 rfl) ?_
      refine va_get (ci := 4) (v := .ref (o 2)) (C := RX4) (T := TX4) (N := 4) hx hb hts hi4 hown hK hP 0 rfl rfl 0 (by decide) (hts (.fieldLink RX4 10 "InvaderBoard" "store" "LInvaderBoard$Memory;") (List.mem_cons_of_mem _ (List.mem_append_left _ (List.mem_append_left _ (List.mem_append_left _ (List.mem_of_getElem? (i := 2) rfl)))))) (fun _ h9 => h9) rfl dX4_load_53 ?_
      refine lv_iload_n hx hb dX4_load_56 rfl (lv_at hl 2 rfl) ?_
      refine lv_iload hx hb dX4_load_57 (lv_at hl 0 rfl) ?_
      refine lv_iadd hx hb dX4_load_59 ?_
      refine lv_iload_n hx hb dX4_load_60 rfl (lv_at hl 3 rfl) ?_
      refine lv_bipush (v := 8) hx hb dX4_load_61 (by decide) ?_
      refine lv_iload_n hx hb dX4_load_63 rfl (lv_at hl 4 rfl) ?_
      refine lv_iconst (v := 1) hx hb dX4_load_64 (by decide) ?_
      refine lv_isub hx hb dX4_load_65 ?_
      refine lv_iload hx hb dX4_load_66 (lv_at hl 0 rfl) ?_
      refine lv_isub hx hb dX4_load_68 ?_
      refine lv_imul hx hb dX4_load_69 ?_
      refine lv_ishr hx hb dX4_load_70 ?_
      refine KC.callv (ci := 1) (rest := []) (wt := wX cI o g f (ua (ua a 0 r) 0 (xBurn (ua a 0 r) (p1 + (nI k)) (p2 >>> (((8 : Int32) * ((p3 - (1 : Int32)) - (nI k))) &&& 31))))) (kX1_burn l D cI o (ua a 0 r) (p1 + (nI k)) (p2 >>> (((8 : Int32) * ((p3 - (1 : Int32)) - (nI k))) &&& 31))) (cwV 2 hts gX4_load_X1_burn rfl rfl rfl (by decide +kernel) ⟨Nat.le_of_ble_eq_true rfl, Nat.le_of_ble_eq_true rfl⟩) ⟨hx, hb, hml, hown, hts⟩ hK hP hD hS hA rfl rfl rfl [4, 5, 6] [0, 1, 2, 3, 7, 8, 9, 10] [0, 1, 2, 3, 8, 9, 10, 4, 5, 6, 7] (by decide) rfl (wr := [_, _, _, _, _, _, _, _]) rfl (by decide) (by decide) (by decide) rfl rfl hl.1 rfl (Nat.le_of_ble_eq_true rfl) dX4_load_71 ⟨Nat.zero_le _, Nat.zero_le _⟩ (fun H locs hP hD hS => ?_)
      refine lv_iinc (v := (nI k) + (1 : Int32)) (lv' := [(4, .int _), (0, .ref _), (1, .int _), (2, .int _), (3, .int _)]) hx hb dX4_load_74 hl (k := 0) rfl rfl (by decide) rfl (fun ls hl => ?_)
      refine lv_goto (tgt := 46) hx hb dX4_load_77 (by decide) ?_
      rw [nI_1] at hl
      have hP : va_P D vwCl (wX cI o g f (ua a 0 (xBurn (ua a 0 r) (p1 + (nI k)) (p2 >>> (((8 : Int32) * ((p3 - (1 : Int32)) - (nI k))) &&& 31))))) H := hP
      have hD : va_D A (wX cI o g f (ua a 0 (xBurn (ua a 0 r) (p1 + (nI k)) (p2 >>> (((8 : Int32) * ((p3 - (1 : Int32)) - (nI k))) &&& 31))))) := hD
      exact ih (k + 1) (by omega) _ H locs hP hD hS ls (lv_sub hl [0, 1, 2, 3, 4] rfl)
theorem ld_N {p3 : Int32} (c1 : ¬ p3 < (1 : Int32)) (c2 : p3 ≤ (4 : Int32)) : p3 = nI p3.toNatClampNeg ∧ p3.toNatClampNeg ≤ 4 := by
  have h0 : ¬ p3 < 0 := by
    rw [Int32.lt_iff_toInt_lt] at c1 ⊢
    have : (1 : Int32).toInt = 1 := by decide
    rw [Int32.toInt_zero]; omega
  obtain ⟨j, hj, rfl⟩ := nI_of h0
  rw [nI_clamp hj]
  refine ⟨rfl, ?_⟩
  exact (nI_leI hj (by decide)).mp (show nI j ≤ nI 4 from c2)
def xLoad (g : Nat → Int32) (f : Nat → Int32) (a : Nat → Nat → Int32) (p1 : Int32) (p2 : Int32) (p3 : Int32) : Int32 × (Nat → Int32) :=
  if p3 < (1 : Int32) then ((0 : Int32), a 0)
  else if p3 ≤ (4 : Int32) then if p1 < 0 then ((0 : Int32), a 0)
      else if p1 ≤ ((2048 : Int32) - p3) then (p1 + p3, xLoadL a p1 p2 p3 p3.toNatClampNeg 0 (a 0))
        else ((0 : Int32), a 0)
    else ((0 : Int32), a 0)
def xLoadX (g : Nat → Int32) (f : Nat → Int32) (a : Nat → Nat → Int32) (p1 : Int32) (p2 : Int32) (p3 : Int32) : Bool :=
  if p3 < (1 : Int32) then true
  else if p3 ≤ (4 : Int32) then if p1 < 0 then true
      else if p1 ≤ ((2048 : Int32) - p3) then false
        else true
    else true
set_option maxHeartbeats 4000000 in
set_option maxRecDepth 100000 in
theorem kX4_load (l : Launch) (hl0 : l.stackTraces = false) (D : va_G) (cI : ClassId) (o : Nat → Nat) (tS : Nat) (sc : Nat → Nat) (g : Nat → Int32) (f : Nat → Int32) (a : Nat → Nat → Int32) (p1 : Int32) (p2 : Int32) (p3 : Int32) : KT l yX4_load wsX4_load 7 tS sc [.ref (o 10), .int p1, .int p2, .int p3] D cI (wX cI o g f a) (xLoadX g f a p1 p2 p3 = true) "java/lang/IllegalArgumentException" (wX cI o g f (ua a 0 ((xLoad g f a p1 p2 p3).2))) (some (.int (xLoad g f a p1 p2 p3).1)) := by
  refine KT.of (cc := cX4_load) (maxL := 5) (by decide) rfl (Nat.le_of_ble_eq_true rfl) ?_
  intro p e s m below meth c A hx hb hr hts hown hlocks hml hne hK hP hD hS hA hG ls hl
  obtain ⟨hs41, hs46, hs58, hs68, hs70, hs83, hs114, hs116⟩ := hG.2.2.2.1
  obtain ⟨hn97, hn101, hn104, hn107, hn121, hn131⟩ := hG.2.2.1
  have hl : lv_has ls 5 [(0, .ref (o 10)), (1, .int p1), (2, .int p2), (3, .int p3)] := hl
  have hown : s.vm.findClass RX4 = some m.cls := hown
  refine lv_iload_n hx hb dX4_load_0 rfl (lv_at hl 3 rfl) ?_
  refine lv_iconst (v := 1) hx hb dX4_load_1 (by decide) ?_
  refine lv_icmp_lt (tgt := 10) hx hb dX4_load_2 (by decide) (fun c_1 => ?_) (fun c_1 => ?_)
  · have hT : xLoadX g f a p1 p2 p3 = true := by
      unfold xLoadX
      refine (if_pos c_1).trans ?_
      rfl
    exact KT.throw (sa := sc 0) hx hb hl0 hown (by decide +kernel) (hts (.classLink RX4 39 "java/lang/IllegalArgumentException") (List.mem_cons_of_mem _ (List.mem_append_left _ (List.mem_append_left _ (List.mem_append_left _ (List.mem_of_getElem? (i := 0) rfl)))))) (hts (.initialized "java/lang/IllegalArgumentException") (List.mem_cons_of_mem _ (List.mem_append_left _ (List.mem_append_left _ (List.mem_append_left _ (List.mem_of_getElem? (i := 1) rfl)))))) hs41 (hat_iae (fun w h => hts w ((fun w h => List.mem_cons_of_mem _ (List.mem_append_right _ h)) w h)) hG) good_iae hG hK hP hD hS (hl.1.trans hml.symm) hne hlocks (by decide) hT dX4_load_10 dX4_load_13 dX4_load_14 dX4_load_16 dX4_load_19
  · refine lv_iload_n hx hb dX4_load_5 rfl (lv_at hl 3 rfl) ?_
    refine lv_iconst (v := 4) hx hb dX4_load_6 (by decide) ?_
    refine lv_icmp_le (tgt := 20) hx hb dX4_load_7 (by decide) (fun c_2 => ?_) (fun c_2 => ?_)
    · refine lv_iload_n hx hb dX4_load_20 rfl (lv_at hl 1 rfl) ?_
      refine lv_if_lt (tgt := 33) hx hb dX4_load_21 (by decide) (fun c_3 => ?_) (fun c_3 => ?_)
      · have hT : xLoadX g f a p1 p2 p3 = true := by
          unfold xLoadX
          refine (if_neg c_1).trans ?_
          refine (if_pos c_2).trans ?_
          refine (if_pos c_3).trans ?_
          rfl
        exact KT.throw (sa := sc 1) hx hb hl0 hown (by decide +kernel) (hts (.classLink RX4 39 "java/lang/IllegalArgumentException") (List.mem_cons_of_mem _ (List.mem_append_left _ (List.mem_append_left _ (List.mem_append_left _ (List.mem_of_getElem? (i := 0) rfl)))))) (hts (.initialized "java/lang/IllegalArgumentException") (List.mem_cons_of_mem _ (List.mem_append_left _ (List.mem_append_left _ (List.mem_append_left _ (List.mem_of_getElem? (i := 1) rfl)))))) hs46 (hat_iae (fun w h => hts w ((fun w h => List.mem_cons_of_mem _ (List.mem_append_right _ h)) w h)) hG) good_iae hG hK hP hD hS (hl.1.trans hml.symm) hne hlocks (by decide) hT dX4_load_33 dX4_load_36 dX4_load_37 dX4_load_39 dX4_load_42
      · refine lv_iload_n hx hb dX4_load_24 rfl (lv_at hl 1 rfl) ?_
        refine lv_sipush (v := 2048) hx hb dX4_load_25 (by decide) ?_
        refine lv_iload_n hx hb dX4_load_28 rfl (lv_at hl 3 rfl) ?_
        refine lv_isub hx hb dX4_load_29 ?_
        refine lv_icmp_le (tgt := 43) hx hb dX4_load_30 (by decide) (fun c_4 => ?_) (fun c_4 => ?_)
        · refine lv_iconst (v := 0) hx hb dX4_load_43 (by decide) ?_
          refine lv_istore (lv' := [(4, .int _), (0, .ref _), (1, .int _), (2, .int _), (3, .int _)]) hx hb dX4_load_44 hl (by decide) rfl (fun ls hl => ?_)
          have hF : xLoad g f a p1 p2 p3 = (p1 + p3, xLoadL a p1 p2 p3 p3.toNatClampNeg 0 (a 0)) := by
            unfold xLoad
            refine (if_neg c_1).trans ?_
            refine (if_pos c_2).trans ?_
            refine (if_neg c_3).trans ?_
            refine (if_pos c_4).trans ?_
            rfl
          rw [hF]
          have hT : xLoadX g f a p1 p2 p3 = false := by
            unfold xLoadX
            refine (if_neg c_1).trans ?_
            refine (if_pos c_2).trans ?_
            refine (if_neg c_3).trans ?_
            refine (if_pos c_4).trans ?_
            rfl
          have hN := ld_N c_1 c_2
          exact lpX4_load hx hb hr hts hown hlocks hml hK hA hN.1 hN.2 (by rw [hT]; decide) _ 0 (Nat.zero_add _) (a 0) _ _ (show va_P D vwCl (wX cI o g f (ua a 0 (a 0))) _ from hP) (show va_D A (wX cI o g f (ua a 0 (a 0))) from hD) hS ls (lv_sub hl [0, 1, 2, 3, 4] rfl)
        · have hT : xLoadX g f a p1 p2 p3 = true := by
            unfold xLoadX
            refine (if_neg c_1).trans ?_
            refine (if_pos c_2).trans ?_
            refine (if_neg c_3).trans ?_
            refine (if_neg c_4).trans ?_
            rfl
          exact KT.throw (sa := sc 1) hx hb hl0 hown (by decide +kernel) (hts (.classLink RX4 39 "java/lang/IllegalArgumentException") (List.mem_cons_of_mem _ (List.mem_append_left _ (List.mem_append_left _ (List.mem_append_left _ (List.mem_of_getElem? (i := 0) rfl)))))) (hts (.initialized "java/lang/IllegalArgumentException") (List.mem_cons_of_mem _ (List.mem_append_left _ (List.mem_append_left _ (List.mem_append_left _ (List.mem_of_getElem? (i := 1) rfl)))))) hs46 (hat_iae (fun w h => hts w ((fun w h => List.mem_cons_of_mem _ (List.mem_append_right _ h)) w h)) hG) good_iae hG hK hP hD hS (hl.1.trans hml.symm) hne hlocks (by decide) hT dX4_load_33 dX4_load_36 dX4_load_37 dX4_load_39 dX4_load_42
    · have hT : xLoadX g f a p1 p2 p3 = true := by
        unfold xLoadX
        refine (if_neg c_1).trans ?_
        refine (if_neg c_2).trans ?_
        rfl
      exact KT.throw (sa := sc 0) hx hb hl0 hown (by decide +kernel) (hts (.classLink RX4 39 "java/lang/IllegalArgumentException") (List.mem_cons_of_mem _ (List.mem_append_left _ (List.mem_append_left _ (List.mem_append_left _ (List.mem_of_getElem? (i := 0) rfl)))))) (hts (.initialized "java/lang/IllegalArgumentException") (List.mem_cons_of_mem _ (List.mem_append_left _ (List.mem_append_left _ (List.mem_append_left _ (List.mem_of_getElem? (i := 1) rfl)))))) hs41 (hat_iae (fun w h => hts w ((fun w h => List.mem_cons_of_mem _ (List.mem_append_right _ h)) w h)) hG) good_iae hG hK hP hD hS (hl.1.trans hml.symm) hne hlocks (by decide) hT dX4_load_10 dX4_load_13 dX4_load_14 dX4_load_16 dX4_load_19
def nRun : Nat := 40000
def xRunL (p1 : Int32) : Nat → Nat → Int32 → (Nat → Int32) → (Nat → Int32) → (Nat → Nat → Int32) → Int32 × (Nat → Int32) × (Nat → Int32) × (Nat → Nat → Int32)
  | 0, _, sm, g, f, a => (sm, g, f, a)
  | n + 1, k, sm, g, f, a => if p1 ≤ sm then (sm, g, f, a) else (match xAdvance g f a (p1 - sm) with
    | (r, g1, f1, a1) => xRunL p1 n (k + 1) (sm + r) g1 f1 a1)
set_option maxHeartbeats 4000000 in
set_option maxRecDepth 100000 in
theorem lpX4_run {l : Launch} {D : va_G} {cI : ClassId} {o : Nat → Nat} {tS : Nat} {sc : Nat → Nat} {p1 : Int32} {thr : Prop} {XC : String → State → State → Prop} {p : Program} {e : Env} {s : State} {m : MethodId} {args : Array Value} {below : List Frame} {meth : Method} {c : Code} {A : Nat → Prop} (hx : p.tables.exec = Jvm.exec) (hb : c.code = cX4_run) (hr : meth.sig.returnType = (some .int)) (hts : ∀ w ∈ wsX4_run, w.before args s = true) (hown : s.vm.findClass RX4 = some m.cls) (hlocks : meth.locks = false) (hml : c.maxLocals = 4) (hK : va_K D vwCl [(cI, .int)] s) (hA : ∀ q : Nat, s.heap.size ≤ q → A q) (hG : sG tS sc A s s.heap) (hnt : ¬ thr) :
    ∀ (n k : Nat), k + n = nRun → ∀ (sm : Int32) (g : Nat → Int32) (f : Nat → Int32) (a : Nat → Nat → Int32), ∀ (H : Heap) (locs : List Loc), va_P D vwCl (wX cI o g f a) H → va_D A (wX cI o g f a) → va_S A s.heap H locs → ∀ ls : Array Slot, lv_has ls 4 [(3, .int (nI k)), (2, .int sm), (0, .ref (o 10)), (1, .int p1)] → W p l e (rmX 7) s m args below meth c H locs 0 0 (vx_MQ below (kx_ D cI thr (some (.int (xRunL p1 n k sm g f a).1)) (wX cI o (xRunL p1 n k sm g f a).2.1 (xRunL p1 n k sm g f a).2.2.1 (xRunL p1 n k sm g f a).2.2.2) A) XC args s 1 6 A) (F0 m 25 ls []) := by
  intro n
  induction n with
  | zero =>
    intro k hk sm g f a H locs hP hD hS ls hl
    obtain rfl : k = nRun := by omega
    refine lv_iload_n hx hb dX4_run_25 rfl (lv_at hl 0 rfl) ?_
    refine lv_ldc (v := 40000) hx hb hown (hts (.constant RX4 67 40000) (List.mem_cons_of_mem _ (List.mem_append_left _ (List.mem_append_left _ (List.mem_append_left _ (List.mem_append_left _ (List.mem_append_left _ (List.mem_append_left _ (List.mem_append_left _ (List.mem_of_getElem? (i := 2) rfl)))))))))) dX4_run_26 ?_
    refine lv_icmp_ge (tgt := 52) hx hb dX4_run_28 (by decide) (fun c_1 => ?_) (fun c_1 => ?_)
    · refine lv_iload_n hx hb dX4_run_52 rfl (lv_at hl 1 rfl) ?_
      exact KT.reti hx hb hr hlocks hK hP hD hS dX4_run_53 hnt rfl
    · exact absurd (show (40000 : Int32) ≤ nI nRun by decide) c_1
  | succ n ih =>
    intro k hk sm g f a H locs hP hD hS ls hl
    refine lv_iload_n hx hb dX4_run_25 rfl (lv_at hl 0 rfl) ?_
    refine lv_ldc (v := 40000) hx hb hown (hts (.constant RX4 67 40000) (List.mem_cons_of_mem _ (List.mem_append_left _ (List.mem_append_left _ (List.mem_append_left _ (List.mem_append_left _ (List.mem_append_left _ (List.mem_append_left _ (List.mem_append_left _ (List.mem_of_getElem? (i := 2) rfl)))))))))) dX4_run_26 ?_
    refine lv_icmp_ge (tgt := 52) hx hb dX4_run_28 (by decide) (fun c_2 => ?_) (fun c_2 => ?_)
    · exact absurd c_2 (show ¬ nI nRun ≤ nI k from nI_ge (by omega) (by decide))
    · refine lv_iload_n hx hb dX4_run_31 rfl (lv_at hl 1 rfl) ?_
      refine lv_iload_n hx hb dX4_run_32 rfl (lv_at hl 3 rfl) ?_
      refine lv_icmp_ge (tgt := 52) hx hb dX4_run_33 (by decide) (fun c_3 => ?_) (fun c_3 => ?_)
      · refine lv_iload_n hx hb dX4_run_52 rfl (lv_at hl 1 rfl) ?_
        have hF : xRunL p1 (n + 1) k sm g f a = (sm, g, f, a) := by
          rw [xRunL]
          exact if_pos c_3
        rw [hF]
        exact KT.reti hx hb hr hlocks hK hP hD hS dX4_run_53 hnt rfl
      · refine lv_iload_n hx hb dX4_run_36 rfl (lv_at hl 1 rfl) ?_
        refine lv_aload_n hx hb dX4_run_37 rfl (lv_at hl 2 rfl) ?_
        refine lv_iload_n hx hb dX4_run_38 rfl (lv_at hl 3 rfl) ?_
        refine lv_iload_n hx hb dX4_run_39 rfl (lv_at hl 1 rfl) ?_
        refine lv_isub hx hb dX4_run_40 ?_
        obtain ⟨r_4, g_4, f_4, a_4, hB_4⟩ := k_ex4 (xAdvance g f a (p1 - sm))
        have kc_4 := kX4_advance l D cI o tS sc g f a (p1 - sm)
        rw [hB_4] at kc_4; dsimp only at kc_4
        refine KG.calli (ci := 4) (rest := [.int sm]) (wt := wX cI o g_4 f_4 a_4) (kc_4) (cwV 1 hts gX4_run_X4_advance rfl rfl rfl (by decide +kernel) ⟨Nat.le_of_ble_eq_true rfl, Nat.le_of_ble_eq_true rfl⟩) ⟨hx, hb, hml, hown, hts⟩ hK hP hD hS hA hG rfl rfl rfl [0, 1, 2, 3, 4, 5, 6, 7, 8, 9, 10] [] [0, 1, 2, 3, 4, 5, 6, 7, 8, 9, 10] (by decide) rfl (wr := []) rfl (by decide) (by decide) (by decide) rfl rfl hl.1 rfl (Nat.le_of_ble_eq_true rfl) dX4_run_41 ⟨Nat.zero_le _, Nat.zero_le _⟩ (fun H locs hP hD hS => ?_)
        refine lv_iadd hx hb dX4_run_44 ?_
        refine lv_istore_n (lv' := [(2, .int _), (3, .int _), (0, .ref _), (1, .int _)]) hx hb dX4_run_45 rfl hl (by decide) rfl (fun ls hl => ?_)
        refine lv_iinc (v := (nI k) + (1 : Int32)) (lv' := [(3, .int _), (2, .int _), (0, .ref _), (1, .int _)]) hx hb dX4_run_46 hl (k := 1) rfl rfl (by decide) rfl (fun ls hl => ?_)
        refine lv_goto (tgt := 25) hx hb dX4_run_49 (by decide) ?_
        rw [nI_1] at hl
        have hF : xRunL p1 (n + 1) k sm g f a = xRunL p1 n (k + 1) (sm + r_4) g_4 f_4 a_4 := by
          rw [xRunL]
          refine (if_neg c_3).trans ?_
          rewrite [hB_4]
          rfl
        rw [hF]
        exact ih (k + 1) (by omega) _ _ _ _ H locs hP hD hS ls (lv_sub hl [0, 1, 2, 3] rfl)
def xRun (g : Nat → Int32) (f : Nat → Int32) (a : Nat → Nat → Int32) (p1 : Int32) : Int32 × (Nat → Int32) × (Nat → Int32) × (Nat → Nat → Int32) :=
  if p1 < (1 : Int32) then ((0 : Int32), g, f, a)
  else if p1 ≤ (40000 : Int32) then xRunL p1 nRun 0 (0 : Int32) g f a
    else ((0 : Int32), g, f, a)
def xRunX (g : Nat → Int32) (f : Nat → Int32) (a : Nat → Nat → Int32) (p1 : Int32) : Bool :=
  if p1 < (1 : Int32) then true
  else if p1 ≤ (40000 : Int32) then false
    else true
set_option maxHeartbeats 4000000 in
set_option maxRecDepth 100000 in
theorem kX4_run (l : Launch) (hl0 : l.stackTraces = false) (D : va_G) (cI : ClassId) (o : Nat → Nat) (tS : Nat) (sc : Nat → Nat) (g : Nat → Int32) (f : Nat → Int32) (a : Nat → Nat → Int32) (p1 : Int32) : KT l yX4_run wsX4_run 7 tS sc [.ref (o 10), .int p1] D cI (wX cI o g f a) (xRunX g f a p1 = true) "java/lang/IllegalArgumentException" (wX cI o ((xRun g f a p1).2.1) ((xRun g f a p1).2.2.1) ((xRun g f a p1).2.2.2)) (some (.int (xRun g f a p1).1)) := by
  refine KT.of (cc := cX4_run) (maxL := 4) (by decide) rfl (Nat.le_of_ble_eq_true rfl) ?_
  intro p e s m below meth c A hx hb hr hts hown hlocks hml hne hK hP hD hS hA hG ls hl
  obtain ⟨hs41, hs46, hs58, hs68, hs70, hs83, hs114, hs116⟩ := hG.2.2.2.1
  obtain ⟨hn97, hn101, hn104, hn107, hn121, hn131⟩ := hG.2.2.1
  have hl : lv_has ls 4 [(0, .ref (o 10)), (1, .int p1)] := hl
  have hown : s.vm.findClass RX4 = some m.cls := hown
  refine lv_iload_n hx hb dX4_run_0 rfl (lv_at hl 1 rfl) ?_
  refine lv_iconst (v := 1) hx hb dX4_run_1 (by decide) ?_
  refine lv_icmp_lt (tgt := 11) hx hb dX4_run_2 (by decide) (fun c_1 => ?_) (fun c_1 => ?_)
  · have hT : xRunX g f a p1 = true := by
      unfold xRunX
      refine (if_pos c_1).trans ?_
      rfl
    exact KT.throw (sa := sc 3) hx hb hl0 hown (by decide +kernel) (hts (.classLink RX4 39 "java/lang/IllegalArgumentException") (List.mem_cons_of_mem _ (List.mem_append_left _ (List.mem_append_left _ (List.mem_append_left _ (List.mem_append_left _ (List.mem_append_left _ (List.mem_append_left _ (List.mem_append_left _ (List.mem_of_getElem? (i := 0) rfl)))))))))) (hts (.initialized "java/lang/IllegalArgumentException") (List.mem_cons_of_mem _ (List.mem_append_left _ (List.mem_append_left _ (List.mem_append_left _ (List.mem_append_left _ (List.mem_append_left _ (List.mem_append_left _ (List.mem_append_left _ (List.mem_of_getElem? (i := 1) rfl)))))))))) hs68 (hat_iae (fun w h => hts w ((fun w h => List.mem_cons_of_mem _ (List.mem_append_right _ h)) w h)) hG) good_iae hG hK hP hD hS (hl.1.trans hml.symm) hne hlocks (by decide) hT dX4_run_11 dX4_run_14 dX4_run_15 dX4_run_17 dX4_run_20
  · refine lv_iload_n hx hb dX4_run_5 rfl (lv_at hl 1 rfl) ?_
    refine lv_ldc (v := 40000) hx hb hown (hts (.constant RX4 67 40000) (List.mem_cons_of_mem _ (List.mem_append_left _ (List.mem_append_left _ (List.mem_append_left _ (List.mem_append_left _ (List.mem_append_left _ (List.mem_append_left _ (List.mem_append_left _ (List.mem_of_getElem? (i := 2) rfl)))))))))) dX4_run_6 ?_
    refine lv_icmp_le (tgt := 21) hx hb dX4_run_8 (by decide) (fun c_2 => ?_) (fun c_2 => ?_)
    · refine lv_iconst (v := 0) hx hb dX4_run_21 (by decide) ?_
      refine lv_istore_n (lv' := [(2, .int _), (0, .ref _), (1, .int _)]) hx hb dX4_run_22 rfl hl (by decide) rfl (fun ls hl => ?_)
      refine lv_iconst (v := 0) hx hb dX4_run_23 (by decide) ?_
      refine lv_istore_n (lv' := [(3, .int _), (2, .int _), (0, .ref _), (1, .int _)]) hx hb dX4_run_24 rfl hl (by decide) rfl (fun ls hl => ?_)
      have hF : xRun g f a p1 = xRunL p1 nRun 0 (0 : Int32) g f a := by
        unfold xRun
        refine (if_neg c_1).trans ?_
        refine (if_pos c_2).trans ?_
        rfl
      rw [hF]
      have hT : xRunX g f a p1 = false := by
        unfold xRunX
        refine (if_neg c_1).trans ?_
        refine (if_pos c_2).trans ?_
        rfl
      exact lpX4_run hx hb hr hts hown hlocks hml hK hA hG (by rw [hT]; decide) nRun 0 (Nat.zero_add _) (0 : Int32) g f a _ _ hP hD hS ls (lv_sub hl [0, 1, 2, 3] rfl)
    · have hT : xRunX g f a p1 = true := by
        unfold xRunX
        refine (if_neg c_1).trans ?_
        refine (if_neg c_2).trans ?_
        rfl
      exact KT.throw (sa := sc 3) hx hb hl0 hown (by decide +kernel) (hts (.classLink RX4 39 "java/lang/IllegalArgumentException") (List.mem_cons_of_mem _ (List.mem_append_left _ (List.mem_append_left _ (List.mem_append_left _ (List.mem_append_left _ (List.mem_append_left _ (List.mem_append_left _ (List.mem_append_left _ (List.mem_of_getElem? (i := 0) rfl)))))))))) (hts (.initialized "java/lang/IllegalArgumentException") (List.mem_cons_of_mem _ (List.mem_append_left _ (List.mem_append_left _ (List.mem_append_left _ (List.mem_append_left _ (List.mem_append_left _ (List.mem_append_left _ (List.mem_append_left _ (List.mem_of_getElem? (i := 1) rfl)))))))))) hs68 (hat_iae (fun w h => hts w ((fun w h => List.mem_cons_of_mem _ (List.mem_append_right _ h)) w h)) hG) good_iae hG hK hP hD hS (hl.1.trans hml.symm) hne hlocks (by decide) hT dX4_run_11 dX4_run_14 dX4_run_15 dX4_run_17 dX4_run_20
