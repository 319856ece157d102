theorem xin_16 (x : Int32) (k : Nat) (hk : k < 8) : vp_in (((8 : Int32) * (x &&& (1 : Int32))) + nI k) 16 := by
  obtain ⟨j, hj, e⟩ := pk_andE x (m := 1) 1 (by decide)
  rw [e]
  have : ∀ j : Fin 2, ∀ k : Fin 8, vp_in (((8 : Int32) * nI j.val) + nI k.val) 16 := by unfold vp_in; decide
  exact this ⟨j, hj⟩ ⟨k, hk⟩
def xRises (rs p1 : Int32) : Nat → Nat → (Nat → Int32) → Nat → Int32
  | 0, _, r => r
  | n + 1, k, r => xRises rs p1 n (k + 1) (upd r (((8 : Int32) * (p1 &&& (1 : Int32))) + (nI k)).toNatClampNeg ((r (((8 : Int32) * (p1 &&& (1 : Int32))) + (nI k)).toNatClampNeg) + ((rs >>> ((nI k) &&& 31)) &&& (1 : Int32))))
set_option maxHeartbeats 4000000 in
set_option maxRecDepth 100000 in
theorem lpX2_setLatch {l : Launch} {D : va_G} {cI : ClassId} {o : Nat → Nat} {f : Nat → Int32} {a : Nat → Nat → Int32} {p1 p2 rs : Int32} {p : Program} {e : Env} {s : State} {m : MethodId} {args : Array Value} {below : List Frame} {meth : Method} {c : Code} {A : Nat → Prop} (hx : p.tables.exec = Jvm.exec) (hb : c.code = cX2_setLatch) (hr : meth.sig.returnType = none) (hts : ∀ w ∈ wsX2_setLatch, w.before args s = true) (hown : s.vm.findClass RX2 = some m.cls) (hlocks : meth.locks = false) (hml : c.maxLocals = 5) (hK : va_K D vwCl [(cI, .int)] s) (hA : ∀ q : Nat, s.heap.size ≤ q → A q) :
    ∀ (n k : Nat), k + n = 8 → ∀ (r : Nat → Int32), ∀ (H : Heap) (locs : List Loc), va_P D vwCl (wT cI o f (ua a 5 r)) H → va_D A (wT cI o f (ua a 5 r)) → va_S A s.heap H locs → ∀ ls : Array Slot, lv_has ls 5 [(4, .int (nI k)), (3, .int rs), (0, .ref (o 5)), (1, .int p1), (2, .int p2)] → W p l e (rmD 0) s m args below meth c H locs 0 0 (MQ below (kq_ D cI none (wT cI o f (ua (ua a 5 (xRises rs p1 n k r)) 4 (upd (a 4) (p1 &&& (1 : Int32)).toNatClampNeg p2))) A) args s 0 0 A) (F0 m 16 ls []) := by
  have hi2 : ∀ w ∈ u_ws RX2 TX2 6, w ∈ wsX2_setLatch := fun w h => List.mem_cons_of_mem _ (List.mem_append_right _ h)
  intro n
  induction n with
  | zero =>
    intro k hk r H locs hP hD hS ls hl
    obtain rfl : k = 8 := by omega
    refine lv_iload hx hb dX2_setLatch_16 (lv_at hl 0 rfl) ?_
    refine lv_bipush (v := 8) hx hb dX2_setLatch_18 (by decide) ?_
    refine lv_icmp_ge (tgt := 52) hx hb dX2_setLatch_20 (by decide) (fun c_1 => ?_) (fun c_1 => ?_)
    · refine lv_aload_n hx hb dX2_setLatch_52 rfl (lv_at hl 2 rfl) ?_
      refine va_get (ci := 2) (v := .ref (o 7)) (C := RX2) (T := TX2) (N := 6) hx hb hts hi2 hown hK hP 0 rfl rfl 1 (by decide) (hts (.fieldLink RX2 13 "InvaderBoard$Ports" "latches" "[I") (List.mem_cons_of_mem _ (List.mem_append_left _ (List.mem_of_getElem? (i := 0) rfl)))) (fun _ h9 => h9) rfl dX2_setLatch_53 ?_
      refine lv_iload_n hx hb dX2_setLatch_56 rfl (lv_at hl 3 rfl) ?_
      refine lv_iconst (v := 1) hx hb dX2_setLatch_57 (by decide) ?_
      refine lv_iand hx hb dX2_setLatch_58 ?_
      refine lv_iload_n hx hb dX2_setLatch_59 rfl (lv_at hl 4 rfl) ?_
      refine pu_T_a4 hx hb hK hP hD hS (pk_andIn _ 1 (by decide) (by decide)) dX2_setLatch_60 (fun H locs hP hD hS => ?_)
      exact KC.retv hx hb hr hlocks hK hP hD hS dX2_setLatch_61
    · exact absurd (show (8 : Int32) ≤ nI 8 by decide) c_1
  | succ n ih =>
    intro k hk r H locs hP hD hS ls hl
    refine lv_iload hx hb dX2_setLatch_16 (lv_at hl 0 rfl) ?_
    refine lv_bipush (v := 8) hx hb dX2_setLatch_18 (by decide) ?_
    refine lv_icmp_ge (tgt := 52) hx hb dX2_setLatch_20 (by decide) (fun c_2 => ?_) (fun c_2 => ?_)
    · exact absurd c_2 (show ¬ nI 8 ≤ nI k from nI_ge (by omega) (by decide))
    · refine lv_aload_n hx hb dX2_setLatch_23 rfl (lv_at hl 2 rfl) ?_
      refine va_get (ci := 2) (v := .ref (o 8)) (C := RX2) (T := TX2) (N := 6) hx hb hts hi2 hown hK hP 0 rfl rfl 2 (by decide) (hts (.fieldLink RX2 16 "InvaderBoard$Ports" "rises" "[I") (List.mem_cons_of_mem _ (List.mem_append_left _ (List.mem_of_getElem? (i := 1) rfl)))) (fun _ h9 => h9) rfl dX2_setLatch_24 ?_
      refine lv_bipush (v := 8) hx hb dX2_setLatch_27 (by decide) ?_
      refine lv_iload_n hx hb dX2_setLatch_29 rfl (lv_at hl 3 rfl) ?_
      refine lv_iconst (v := 1) hx hb dX2_setLatch_30 (by decide) ?_
      refine lv_iand hx hb dX2_setLatch_31 ?_
      refine lv_imul hx hb dX2_setLatch_32 ?_
      refine lv_iload hx hb dX2_setLatch_33 (lv_at hl 0 rfl) ?_
      refine lv_iadd hx hb dX2_setLatch_35 ?_
      refine lv_dup2_11 hx hb dX2_setLatch_36 rfl rfl ?_
      refine va_iald (f := r) hx hb hK hP 3 0 rfl rfl (xin_16 p1 k (by omega)) dX2_setLatch_37 ?_
      refine lv_iload_n hx hb dX2_setLatch_38 rfl (lv_at hl 1 rfl) ?_
      refine lv_iload hx hb dX2_setLatch_39 (lv_at hl 0 rfl) ?_
      refine lv_ishr hx hb dX2_setLatch_41 ?_
      refine lv_iconst (v := 1) hx hb dX2_setLatch_42 (by decide) ?_
      refine lv_iand hx hb dX2_setLatch_43 ?_
      refine lv_iadd hx hb dX2_setLatch_44 ?_
      refine pu_T_a5 hx hb hK hP hD hS (xin_16 p1 k (by omega)) dX2_setLatch_45 (fun H locs hP hD hS => ?_)
      have hP : va_P D vwCl (wT cI o f (ua (ua a 5 r) 5 (upd r (((8 : Int32) * (p1 &&& (1 : Int32))) + (nI k)).toNatClampNeg ((r (((8 : Int32) * (p1 &&& (1 : Int32))) + (nI k)).toNatClampNeg) + ((rs >>> ((nI k) &&& 31)) &&& (1 : Int32)))))) H := hP
      have hD : va_D A (wT cI o f (ua (ua a 5 r) 5 (upd r (((8 : Int32) * (p1 &&& (1 : Int32))) + (nI k)).toNatClampNeg ((r (((8 : Int32) * (p1 &&& (1 : Int32))) + (nI k)).toNatClampNeg) + ((rs >>> ((nI k) &&& 31)) &&& (1 : Int32)))))) := hD
      refine lv_iinc (v := (nI k) + (1 : Int32)) (lv' := [(4, .int _), (3, .int _), (0, .ref _), (1, .int _), (2, .int _)]) hx hb dX2_setLatch_46 hl (k := 0) rfl rfl (by decide) rfl (fun ls hl => ?_)
      refine lv_goto (tgt := 16) hx hb dX2_setLatch_49 (by decide) ?_
      rw [nI_1] at hl
      have hP : va_P D vwCl (wT cI o f (ua a 5 (upd r (((8 : Int32) * (p1 &&& (1 : Int32))) + (nI k)).toNatClampNeg ((r (((8 : Int32) * (p1 &&& (1 : Int32))) + (nI k)).toNatClampNeg) + ((rs >>> ((nI k) &&& 31)) &&& (1 : Int32)))))) H := hP
      have hD : va_D A (wT cI o f (ua a 5 (upd r (((8 : Int32) * (p1 &&& (1 : Int32))) + (nI k)).toNatClampNeg ((r (((8 : Int32) * (p1 &&& (1 : Int32))) + (nI k)).toNatClampNeg) + ((rs >>> ((nI k) &&& 31)) &&& (1 : Int32)))))) := hD
      exact ih (k + 1) (by omega) _ H locs hP hD hS ls (lv_sub hl [0, 1, 2, 3, 4] rfl)
def xSetLatch (f : Nat → Int32) (a : Nat → Nat → Int32) (p1 : Int32) (p2 : Int32) : (Nat → Int32) × (Nat → Int32) :=
  (xRises (p2 &&& (((a 4) (p1 &&& (1 : Int32)).toNatClampNeg) ^^^ (-1 : Int32))) p1 8 0 (a 5), upd (a 4) (p1 &&& (1 : Int32)).toNatClampNeg p2)
set_option maxHeartbeats 4000000 in
set_option maxRecDepth 100000 in
theorem kX2_setLatch (l : Launch) (D : va_G) (cI : ClassId) (o : Nat → Nat) (f : Nat → Int32) (a : Nat → Nat → Int32) (p1 : Int32) (p2 : Int32) : KC l yX2_setLatch wsX2_setLatch 0 [.ref (o 5), .int p1, .int p2] D cI (wT cI o f a) (wT cI o f (ua (ua a 5 ((xSetLatch f a p1 p2).1)) 4 ((xSetLatch f a p1 p2).2))) none := by
  refine KC.of (cc := cX2_setLatch) (maxL := 5) (by decide) rfl (Nat.le_of_ble_eq_true rfl) ?_
  intro p e s m below meth c A hx hb hr hts hown hlocks hml hK hP hD hS hA ls hl
  have hl : lv_has ls 5 [(0, .ref (o 5)), (1, .int p1), (2, .int p2)] := hl
  have hown : s.vm.findClass RX2 = some m.cls := hown
  have hi2 : ∀ w ∈ u_ws RX2 TX2 6, w ∈ wsX2_setLatch := fun w h => List.mem_cons_of_mem _ (List.mem_append_right _ h)
  refine lv_iload_n hx hb dX2_setLatch_0 rfl (lv_at hl 2 rfl) ?_
  refine lv_aload_n hx hb dX2_setLatch_1 rfl (lv_at hl 0 rfl) ?_
  refine va_get (ci := 2) (v := .ref (o 7)) (C := RX2) (T := TX2) (N := 6) hx hb hts hi2 hown hK hP 0 rfl rfl 1 (by decide) (hts (.fieldLink RX2 13 "InvaderBoard$Ports" "latches" "[I") (List.mem_cons_of_mem _ (List.mem_append_left _ (List.mem_of_getElem? (i := 0) rfl)))) (fun _ h9 => h9) rfl dX2_setLatch_2 ?_
  refine lv_iload_n hx hb dX2_setLatch_5 rfl (lv_at hl 1 rfl) ?_
  refine lv_iconst (v := 1) hx hb dX2_setLatch_6 (by decide) ?_
  refine lv_iand hx hb dX2_setLatch_7 ?_
  refine va_iald (f := a 4) hx hb hK hP 2 0 rfl rfl (pk_andIn _ 1 (by decide) (by decide)) dX2_setLatch_8 ?_
  refine lv_iconst (v := -1) hx hb dX2_setLatch_9 (by decide) ?_
  refine lv_ixor hx hb dX2_setLatch_10 ?_
  refine lv_iand hx hb dX2_setLatch_11 ?_
  refine lv_istore_n (lv' := [(3, .int _), (0, .ref _), (1, .int _), (2, .int _)]) hx hb dX2_setLatch_12 rfl hl (by decide) rfl (fun ls hl => ?_)
  refine lv_iconst (v := 0) hx hb dX2_setLatch_13 (by decide) ?_
  refine lv_istore (lv' := [(4, .int _), (3, .int _), (0, .ref _), (1, .int _), (2, .int _)]) hx hb dX2_setLatch_14 hl (by decide) rfl (fun ls hl => ?_)
  have hF : xSetLatch f a p1 p2 = (xRises (p2 &&& (((a 4) (p1 &&& (1 : Int32)).toNatClampNeg) ^^^ (-1 : Int32))) p1 8 0 (a 5), upd (a 4) (p1 &&& (1 : Int32)).toNatClampNeg p2) := rfl
  rw [hF]
  exact lpX2_setLatch hx hb hr hts hown hlocks hml hK hA 8 0 (by omega) (a 5) _ _ (show va_P D vwCl (wT cI o f (ua a 5 (a 5))) _ from hP) (show va_D A (wT cI o f (ua a 5 (a 5))) from hD) hS ls (lv_sub hl [0, 1, 2, 3, 4] rfl)
def xOut (f : Nat → Int32) (a : Nat → Nat → Int32) (p1 : Int32) (p2 : Int32) : Int32 × Int32 × Int32 × (Nat → Int32) × (Nat → Int32) :=
  if p1 = (2 : Int32) then (f 5, p2 &&& (7 : Int32), f 7, a 5, a 4)
  else if p1 = (3 : Int32) then (match xSetLatch f a (0 : Int32) p2 with
      | (a5_3, a4_3) => (f 5, f 6, f 7, a5_3, a4_3))
    else if p1 = (4 : Int32) then ((p2 <<< ((8 : Int32) &&& 31)) ||| ((f 5) >>> ((8 : Int32) &&& 31)), f 6, f 7, a 5, a 4)
      else if p1 = (5 : Int32) then (match xSetLatch f a (1 : Int32) p2 with
          | (a5_6, a4_6) => (f 5, f 6, f 7, a5_6, a4_6))
        else if p1 = (6 : Int32) then (f 5, f 6, (0 : Int32), a 5, a 4)
          else (f 5, f 6, f 7, a 5, a 4)
set_option maxHeartbeats 4000000 in
set_option maxRecDepth 100000 in
theorem kX2_out (l : Launch) (D : va_G) (cI : ClassId) (o : Nat → Nat) (f : Nat → Int32) (a : Nat → Nat → Int32) (p1 : Int32) (p2 : Int32) : KC l yX2_out wsX2_out 1 [.ref (o 5), .int p1, .int p2] D cI (wT cI o f a) (wT cI o (upd (upd (upd f 5 ((xOut f a p1 p2).1)) 6 ((xOut f a p1 p2).2.1)) 7 ((xOut f a p1 p2).2.2.1)) (ua (ua a 5 ((xOut f a p1 p2).2.2.2.1)) 4 ((xOut f a p1 p2).2.2.2.2))) none := by
  refine KC.of (cc := cX2_out) (maxL := 3) (by decide) rfl (Nat.le_of_ble_eq_true rfl) ?_
  intro p e s m below meth c A hx hb hr hts hown hlocks hml hK hP hD hS hA ls hl
  have hl : lv_has ls 3 [(0, .ref (o 5)), (1, .int p1), (2, .int p2)] := hl
  have hown : s.vm.findClass RX2 = some m.cls := hown
  have hi2 : ∀ w ∈ u_ws RX2 TX2 6, w ∈ wsX2_out := fun w h => List.mem_cons_of_mem _ (List.mem_append_right _ h)
  refine lv_iload_n hx hb dX2_out_0 rfl (lv_at hl 1 rfl) ?_
  by_cases c_1 : p1 = (2 : Int32)
  · refine k_tin (tgt := 36) hx hb (2 : Int32) c_1 dX2_out_1 (by decide) (by decide) rfl (by decide) ?_
    refine lv_aload_n hx hb dX2_out_36 rfl (lv_at hl 0 rfl) ?_
    refine lv_iload_n hx hb dX2_out_37 rfl (lv_at hl 2 rfl) ?_
    refine lv_bipush (v := 7) hx hb dX2_out_38 (by decide) ?_
    refine lv_iand hx hb dX2_out_40 ?_
    refine pu_T_f6 (v := p2 &&& (7 : Int32)) hx hb hts hi2 hown hK hP hD hS (hts (.fieldLink RX2 23 "InvaderBoard$Ports" "offset" "I") (List.mem_cons_of_mem _ (List.mem_append_left _ (List.mem_of_getElem? (i := 0) rfl)))) dX2_out_41 (fun H locs hP hD hS => ?_)
    refine lv_goto (tgt := 92) hx hb dX2_out_44 (by decide) ?_
    have hF : xOut f a p1 p2 = (f 5, p2 &&& (7 : Int32), f 7, a 5, a 4) := by
      unfold xOut
      refine (if_pos c_1).trans ?_
      rfl
    rw [hF]
    exact KC.retv hx hb hr hlocks hK hP hD hS dX2_out_92
  by_cases c_2 : p1 = (3 : Int32)
  · refine k_tin (tgt := 47) hx hb (3 : Int32) c_2 dX2_out_1 (by decide) (by decide) rfl (by decide) ?_
    refine lv_aload_n hx hb dX2_out_47 rfl (lv_at hl 0 rfl) ?_
    refine lv_iconst (v := 0) hx hb dX2_out_48 (by decide) ?_
    refine lv_iload_n hx hb dX2_out_49 rfl (lv_at hl 2 rfl) ?_
    obtain ⟨a5_3, a4_3, hB_3⟩ := k_ex2 (xSetLatch f a (0 : Int32) p2)
    have kc_3 := kX2_setLatch l D cI o f a (0 : Int32) p2
    rw [hB_3] at kc_3; dsimp only at kc_3
    refine KC.callv (ci := 2) (rest := []) (wt := wT cI o f (ua (ua a 5 a5_3) 4 a4_3)) (kc_3) (cwV 2 hts gX2_out_X2_setLatch rfl rfl rfl (by decide +kernel) ⟨Nat.le_of_ble_eq_true rfl, Nat.le_of_ble_eq_true rfl⟩) ⟨hx, hb, hml, hown, hts⟩ hK hP hD hS hA rfl rfl rfl [0, 1, 2, 3] [] [0, 1, 2, 3] (by decide) rfl (wr := []) rfl (by decide) (by decide) (by decide) rfl rfl hl.1 rfl (Nat.le_of_ble_eq_true rfl) dX2_out_50 ⟨Nat.zero_le _, Nat.zero_le _⟩ (fun H locs hP hD hS => ?_)
    refine lv_goto (tgt := 92) hx hb dX2_out_53 (by decide) ?_
    have hF : xOut f a p1 p2 = (f 5, f 6, f 7, a5_3, a4_3) := by
      unfold xOut
      refine (if_neg c_1).trans ?_
      refine (if_pos c_2).trans ?_
      rewrite [hB_3]
      rfl
    rw [hF]
    exact KC.retv hx hb hr hlocks hK hP hD hS dX2_out_92
  by_cases c_4 : p1 = (4 : Int32)
  · refine k_tin (tgt := 56) hx hb (4 : Int32) c_4 dX2_out_1 (by decide) (by decide) rfl (by decide) ?_
    refine lv_aload_n hx hb dX2_out_56 rfl (lv_at hl 0 rfl) ?_
    refine lv_iload_n hx hb dX2_out_57 rfl (lv_at hl 2 rfl) ?_
    refine lv_bipush (v := 8) hx hb dX2_out_58 (by decide) ?_
    refine lv_ishl hx hb dX2_out_60 ?_
    refine lv_aload_n hx hb dX2_out_61 rfl (lv_at hl 0 rfl) ?_
    refine va_get (ci := 2) (v := .int (f 5)) (C := RX2) (T := TX2) (N := 6) hx hb hts hi2 hown hK hP 0 rfl rfl 3 (by decide) (hts (.fieldLink RX2 19 "InvaderBoard$Ports" "shifter" "I") (List.mem_cons_of_mem _ (List.mem_append_left _ (List.mem_of_getElem? (i := 1) rfl)))) (fun _ h9 => h9) rfl dX2_out_62 ?_
    refine lv_bipush (v := 8) hx hb dX2_out_65 (by decide) ?_
    refine lv_ishr hx hb dX2_out_67 ?_
    refine lv_ior hx hb dX2_out_68 ?_
    refine pu_T_f5 (v := (p2 <<< ((8 : Int32) &&& 31)) ||| ((f 5) >>> ((8 : Int32) &&& 31))) hx hb hts hi2 hown hK hP hD hS (hts (.fieldLink RX2 19 "InvaderBoard$Ports" "shifter" "I") (List.mem_cons_of_mem _ (List.mem_append_left _ (List.mem_of_getElem? (i := 1) rfl)))) dX2_out_69 (fun H locs hP hD hS => ?_)
    refine lv_goto (tgt := 92) hx hb dX2_out_72 (by decide) ?_
    have hF : xOut f a p1 p2 = ((p2 <<< ((8 : Int32) &&& 31)) ||| ((f 5) >>> ((8 : Int32) &&& 31)), f 6, f 7, a 5, a 4) := by
      unfold xOut
      refine (if_neg c_1).trans ?_
      refine (if_neg c_2).trans ?_
      refine (if_pos c_4).trans ?_
      rfl
    rw [hF]
    exact KC.retv hx hb hr hlocks hK hP hD hS dX2_out_92
  by_cases c_5 : p1 = (5 : Int32)
  · refine k_tin (tgt := 75) hx hb (5 : Int32) c_5 dX2_out_1 (by decide) (by decide) rfl (by decide) ?_
    refine lv_aload_n hx hb dX2_out_75 rfl (lv_at hl 0 rfl) ?_
    refine lv_iconst (v := 1) hx hb dX2_out_76 (by decide) ?_
    refine lv_iload_n hx hb dX2_out_77 rfl (lv_at hl 2 rfl) ?_
    obtain ⟨a5_6, a4_6, hB_6⟩ := k_ex2 (xSetLatch f a (1 : Int32) p2)
    have kc_6 := kX2_setLatch l D cI o f a (1 : Int32) p2
    rw [hB_6] at kc_6; dsimp only at kc_6
    refine KC.callv (ci := 2) (rest := []) (wt := wT cI o f (ua (ua a 5 a5_6) 4 a4_6)) (kc_6) (cwV 2 hts gX2_out_X2_setLatch rfl rfl rfl (by decide +kernel) ⟨Nat.le_of_ble_eq_true rfl, Nat.le_of_ble_eq_true rfl⟩) ⟨hx, hb, hml, hown, hts⟩ hK hP hD hS hA rfl rfl rfl [0, 1, 2, 3] [] [0, 1, 2, 3] (by decide) rfl (wr := []) rfl (by decide) (by decide) (by decide) rfl rfl hl.1 rfl (Nat.le_of_ble_eq_true rfl) dX2_out_78 ⟨Nat.zero_le _, Nat.zero_le _⟩ (fun H locs hP hD hS => ?_)
    refine lv_goto (tgt := 92) hx hb dX2_out_81 (by decide) ?_
    have hF : xOut f a p1 p2 = (f 5, f 6, f 7, a5_6, a4_6) := by
      unfold xOut
      refine (if_neg c_1).trans ?_
      refine (if_neg c_2).trans ?_
      refine (if_neg c_4).trans ?_
      refine (if_pos c_5).trans ?_
      rewrite [hB_6]
      rfl
    rw [hF]
    exact KC.retv hx hb hr hlocks hK hP hD hS dX2_out_92
  by_cases c_7 : p1 = (6 : Int32)
  · refine k_tin (tgt := 84) hx hb (6 : Int32) c_7 dX2_out_1 (by decide) (by decide) rfl (by decide) ?_
    refine lv_aload_n hx hb dX2_out_84 rfl (lv_at hl 0 rfl) ?_
    refine lv_iconst (v := 0) hx hb dX2_out_85 (by decide) ?_
    refine pu_T_f7 (v := (0 : Int32)) hx hb hts hi2 hown hK hP hD hS (hts (.fieldLink RX2 26 "InvaderBoard$Ports" "framesUnfed" "I") (List.mem_cons_of_mem _ (List.mem_append_left _ (List.mem_of_getElem? (i := 2) rfl)))) dX2_out_86 (fun H locs hP hD hS => ?_)
    refine lv_goto (tgt := 92) hx hb dX2_out_89 (by decide) ?_
    have hF : xOut f a p1 p2 = (f 5, f 6, (0 : Int32), a 5, a 4) := by
      unfold xOut
      refine (if_neg c_1).trans ?_
      refine (if_neg c_2).trans ?_
      refine (if_neg c_4).trans ?_
      refine (if_neg c_5).trans ?_
      refine (if_pos c_7).trans ?_
      rfl
    rw [hF]
    exact KC.retv hx hb hr hlocks hK hP hD hS dX2_out_92
  refine lv_tableOut (tgt := 92) hx hb dX2_out_1 (by have := lv_neT c_1 (k := (2 : Int32)) (a := 2) (by decide); have := lv_neT c_2 (k := (3 : Int32)) (a := 3) (by decide); have := lv_neT c_4 (k := (4 : Int32)) (a := 4) (by decide); have := lv_neT c_5 (k := (5 : Int32)) (a := 5) (by decide); have := lv_neT c_7 (k := (6 : Int32)) (a := 6) (by decide); omega) (by decide) ?_
  have hF : xOut f a p1 p2 = (f 5, f 6, f 7, a 5, a 4) := by
    unfold xOut
    refine (if_neg c_1).trans ?_
    refine (if_neg c_2).trans ?_
    refine (if_neg c_4).trans ?_
    refine (if_neg c_5).trans ?_
    refine (if_neg c_7).trans ?_
    rfl
  rw [hF]
  exact KC.retv hx hb hr hlocks hK hP hD hS dX2_out_92
def xZeros : Nat → Nat → (Nat → Int32) → Nat → Int32
  | 0, _, r => r
  | n + 1, k, r => xZeros n (k + 1) (upd r (nI k).toNatClampNeg (0 : Int32))
set_option maxHeartbeats 4000000 in
set_option maxRecDepth 100000 in
theorem lpX3_clear {l : Launch} {D : va_G} {cI : ClassId} {o : Nat → Nat} {f : Nat → Int32} {a : Nat → Nat → Int32} {p : Program} {e : Env} {s : State} {m : MethodId} {args : Array Value} {below : List Frame} {meth : Method} {c : Code} {A : Nat → Prop} (hx : p.tables.exec = Jvm.exec) (hb : c.code = cX3_clear) (hr : meth.sig.returnType = none) (hts : ∀ w ∈ wsX3_clear, w.before args s = true) (hown : s.vm.findClass RX3 = some m.cls) (hlocks : meth.locks = false) (hml : c.maxLocals = 2) (hK : va_K D vwCl [(cI, .int)] s) (hA : ∀ q : Nat, s.heap.size ≤ q → A q) :
    ∀ (n k : Nat), k + n = 8 → ∀ (r : Nat → Int32), ∀ (H : Heap) (locs : List Loc), va_P D vwCl (wP cI o f (ua a 2 r)) H → va_D A (wP cI o f (ua a 2 r)) → va_S A s.heap H locs → ∀ ls : Array Slot, lv_has ls 2 [(1, .int (nI k)), (0, .ref (o 0))] → W p l e (rmD 0) s m args below meth c H locs 0 0 (MQ below (kq_ D cI none (wP cI o (upd (upd (upd (upd (upd (upd f 11 (2 : Int32)) 0 (0 : Int32)) 1 (0 : Int32)) 2 (0 : Int32)) 3 (0 : Int32)) 4 (0 : Int32)) (ua a 2 (xZeros n k r))) A) args s 0 0 A) (F0 m 2 ls []) := by
  have hi3 : ∀ w ∈ u_ws RX3 TX3 9, w ∈ wsX3_clear := fun w h => List.mem_cons_of_mem _ (List.mem_append_right _ h)
  intro n
  induction n with
  | zero =>
    intro k hk r H locs hP hD hS ls hl
    obtain rfl : k = 8 := by omega
    refine lv_iload_n hx hb dX3_clear_2 rfl (lv_at hl 0 rfl) ?_
    refine lv_aload_n hx hb dX3_clear_3 rfl (lv_at hl 1 rfl) ?_
    refine va_get (ci := 3) (v := .ref (o 1)) (C := RX3) (T := TX3) (N := 9) hx hb hts hi3 hown hK hP 0 rfl rfl 2 (by decide) (hts (.fieldLink RX3 9 "InvaderBoard$Processor" "registers" "[I") (List.mem_cons_of_mem _ (List.mem_append_left _ (List.mem_of_getElem? (i := 0) rfl)))) (fun _ h9 => h9) rfl dX3_clear_4 ?_
    refine va_alen (v := 8) hx hb hK hP 1 0 rfl rfl rfl dX3_clear_7 ?_
    refine lv_icmp_ge (tgt := 24) hx hb dX3_clear_8 (by decide) (fun c_1 => ?_) (fun c_1 => ?_)
    · refine lv_aload_n hx hb dX3_clear_24 rfl (lv_at hl 1 rfl) ?_
      refine lv_iconst (v := 2) hx hb dX3_clear_25 (by decide) ?_
      refine pu_P_f11 (v := (2 : Int32)) hx hb hts hi3 hown hK hP hD hS (hts (.fieldLink RX3 13 "InvaderBoard$Processor" "flags" "I") (List.mem_cons_of_mem _ (List.mem_append_left _ (List.mem_of_getElem? (i := 1) rfl)))) dX3_clear_26 (fun H locs hP hD hS => ?_)
      refine lv_aload_n hx hb dX3_clear_29 rfl (lv_at hl 1 rfl) ?_
      refine lv_iconst (v := 0) hx hb dX3_clear_30 (by decide) ?_
      refine pu_P_f0 (v := (0 : Int32)) hx hb hts hi3 hown hK hP hD hS (hts (.fieldLink RX3 25 "InvaderBoard$Processor" "sp" "I") (List.mem_cons_of_mem _ (List.mem_append_left _ (List.mem_of_getElem? (i := 2) rfl)))) dX3_clear_31 (fun H locs hP hD hS => ?_)
      refine lv_aload_n hx hb dX3_clear_34 rfl (lv_at hl 1 rfl) ?_
      refine lv_iconst (v := 0) hx hb dX3_clear_35 (by decide) ?_
      refine pu_P_f1 (v := (0 : Int32)) hx hb hts hi3 hown hK hP hD hS (hts (.fieldLink RX3 28 "InvaderBoard$Processor" "pc" "I") (List.mem_cons_of_mem _ (List.mem_append_left _ (List.mem_of_getElem? (i := 3) rfl)))) dX3_clear_36 (fun H locs hP hD hS => ?_)
      refine lv_aload_n hx hb dX3_clear_39 rfl (lv_at hl 1 rfl) ?_
      refine lv_iconst (v := 0) hx hb dX3_clear_40 (by decide) ?_
      refine pu_P_f2 (v := (0 : Int32)) hx hb hts hi3 hown hK hP hD hS (hts (.fieldLink RX3 31 "InvaderBoard$Processor" "enabled" "Z") (List.mem_cons_of_mem _ (List.mem_append_left _ (List.mem_of_getElem? (i := 4) rfl)))) (by decide +kernel) (by decide +kernel) dX3_clear_41 (fun H locs hP hD hS => ?_)
      refine lv_aload_n hx hb dX3_clear_44 rfl (lv_at hl 1 rfl) ?_
      refine lv_iconst (v := 0) hx hb dX3_clear_45 (by decide) ?_
      refine pu_P_f3 (v := (0 : Int32)) hx hb hts hi3 hown hK hP hD hS (hts (.fieldLink RX3 35 "InvaderBoard$Processor" "enabling" "Z") (List.mem_cons_of_mem _ (List.mem_append_left _ (List.mem_of_getElem? (i := 5) rfl)))) (by decide +kernel) (by decide +kernel) dX3_clear_46 (fun H locs hP hD hS => ?_)
      refine lv_aload_n hx hb dX3_clear_49 rfl (lv_at hl 1 rfl) ?_
      refine lv_iconst (v := 0) hx hb dX3_clear_50 (by decide) ?_
      refine pu_P_f4 (v := (0 : Int32)) hx hb hts hi3 hown hK hP hD hS (hts (.fieldLink RX3 38 "InvaderBoard$Processor" "halted" "Z") (List.mem_cons_of_mem _ (List.mem_append_left _ (List.mem_of_getElem? (i := 6) rfl)))) (by decide +kernel) (by decide +kernel) dX3_clear_51 (fun H locs hP hD hS => ?_)
      exact KC.retv hx hb hr hlocks hK hP hD hS dX3_clear_54
    · exact absurd (show (8 : Int32) ≤ nI 8 by decide) c_1
  | succ n ih =>
    intro k hk r H locs hP hD hS ls hl
    refine lv_iload_n hx hb dX3_clear_2 rfl (lv_at hl 0 rfl) ?_
    refine lv_aload_n hx hb dX3_clear_3 rfl (lv_at hl 1 rfl) ?_
    refine va_get (ci := 3) (v := .ref (o 1)) (C := RX3) (T := TX3) (N := 9) hx hb hts hi3 hown hK hP 0 rfl rfl 2 (by decide) (hts (.fieldLink RX3 9 "InvaderBoard$Processor" "registers" "[I") (List.mem_cons_of_mem _ (List.mem_append_left _ (List.mem_of_getElem? (i := 0) rfl)))) (fun _ h9 => h9) rfl dX3_clear_4 ?_
    refine va_alen (v := 8) hx hb hK hP 1 0 rfl rfl rfl dX3_clear_7 ?_
    refine lv_icmp_ge (tgt := 24) hx hb dX3_clear_8 (by decide) (fun c_2 => ?_) (fun c_2 => ?_)
    · exact absurd c_2 (show ¬ nI 8 ≤ nI k from nI_ge (by omega) (by decide))
    · refine lv_aload_n hx hb dX3_clear_11 rfl (lv_at hl 1 rfl) ?_
      refine va_get (ci := 3) (v := .ref (o 1)) (C := RX3) (T := TX3) (N := 9) hx hb hts hi3 hown hK hP 0 rfl rfl 2 (by decide) (hts (.fieldLink RX3 9 "InvaderBoard$Processor" "registers" "[I") (List.mem_cons_of_mem _ (List.mem_append_left _ (List.mem_of_getElem? (i := 0) rfl)))) (fun _ h9 => h9) rfl dX3_clear_12 ?_
      refine lv_iload_n hx hb dX3_clear_15 rfl (lv_at hl 0 rfl) ?_
      refine lv_iconst (v := 0) hx hb dX3_clear_16 (by decide) ?_
      refine pu_P_a2 hx hb hK hP hD hS (vp_in_nI (by omega) (by decide)) dX3_clear_17 (fun H locs hP hD hS => ?_)
      have hP : va_P D vwCl (wP cI o f (ua (ua a 2 r) 2 (upd r (nI k).toNatClampNeg (0 : Int32)))) H := hP
      have hD : va_D A (wP cI o f (ua (ua a 2 r) 2 (upd r (nI k).toNatClampNeg (0 : Int32)))) := hD
      refine lv_iinc (v := (nI k) + (1 : Int32)) (lv' := [(1, .int _), (0, .ref _)]) hx hb dX3_clear_18 hl (k := 0) rfl rfl (by decide) rfl (fun ls hl => ?_)
      refine lv_goto (tgt := 2) hx hb dX3_clear_21 (by decide) ?_
      rw [nI_1] at hl
      have hP : va_P D vwCl (wP cI o f (ua a 2 (upd r (nI k).toNatClampNeg (0 : Int32)))) H := hP
      have hD : va_D A (wP cI o f (ua a 2 (upd r (nI k).toNatClampNeg (0 : Int32)))) := hD
      exact ih (k + 1) (by omega) _ H locs hP hD hS ls (lv_sub hl [0, 1] rfl)
def xProcClear (f : Nat → Int32) (a : Nat → Nat → Int32)  : (Nat → Int32) × (Nat → Nat → Int32) :=
  (upd (upd (upd (upd (upd (upd f 11 (2 : Int32)) 0 (0 : Int32)) 1 (0 : Int32)) 2 (0 : Int32)) 3 (0 : Int32)) 4 (0 : Int32), ua a 2 (xZeros 8 0 (a 2)))
set_option maxHeartbeats 4000000 in
set_option maxRecDepth 100000 in
theorem kX3_clear (l : Launch) (D : va_G) (cI : ClassId) (o : Nat → Nat) (f : Nat → Int32) (a : Nat → Nat → Int32)  : KC l yX3_clear wsX3_clear 0 [.ref (o 0)] D cI (wP cI o f a) (wP cI o ((xProcClear f a).1) ((xProcClear f a).2)) none := by
  refine KC.of (cc := cX3_clear) (maxL := 2) (by decide) rfl (Nat.le_of_ble_eq_true rfl) ?_
  intro p e s m below meth c A hx hb hr hts hown hlocks hml hK hP hD hS hA ls hl
  have hl : lv_has ls 2 [(0, .ref (o 0))] := hl
  have hown : s.vm.findClass RX3 = some m.cls := hown
  refine lv_iconst (v := 0) hx hb dX3_clear_0 (by decide) ?_
  refine lv_istore_n (lv' := [(1, .int _), (0, .ref _)]) hx hb dX3_clear_1 rfl hl (by decide) rfl (fun ls hl => ?_)
  have hF : xProcClear f a = (upd (upd (upd (upd (upd (upd f 11 (2 : Int32)) 0 (0 : Int32)) 1 (0 : Int32)) 2 (0 : Int32)) 3 (0 : Int32)) 4 (0 : Int32), ua a 2 (xZeros 8 0 (a 2))) := rfl
  rw [hF]
  exact lpX3_clear hx hb hr hts hown hlocks hml hK hA 8 0 (by omega) (a 2) _ _ (show va_P D vwCl (wP cI o f (ua a 2 (a 2))) _ from hP) (show va_D A (wP cI o f (ua a 2 (a 2))) from hD) hS ls (lv_sub hl [0, 1] rfl)
def xDotsL (a : Nat → Nat → Int32) (p1 lo hi : Int32) : Nat → Nat → Int32 → Int32
  | 0, _, sm => sm
  | n + 1, k, sm => xDotsL a p1 lo hi n (k + 1) (if (if (8 : Int32) < (hi - ((8 : Int32) * (nI k))) then (8 : Int32) else hi - ((8 : Int32) * (nI k))) ≤ (if (lo - ((8 : Int32) * (nI k))) < (0 : Int32) then (0 : Int32) else lo - ((8 : Int32) * (nI k))) then sm
  else sm + (xBitCount ((xRead a (((9216 : Int32) + ((32 : Int32) * p1)) + (nI k))) &&& (((255 : Int32) <<< ((if (lo - ((8 : Int32) * (nI k))) < (0 : Int32) then (0 : Int32) else lo - ((8 : Int32) * (nI k))) &&& 31)) &&& ((255 : Int32) >>> (((8 : Int32) - (if (8 : Int32) < (hi - ((8 : Int32) * (nI k))) then (8 : Int32) else hi - ((8 : Int32) * (nI k)))) &&& 31))))))
set_option maxHeartbeats 4000000 in
set_option maxRecDepth 100000 in
theorem lpX1_dots {l : Launch} {D : va_G} {cI : ClassId} {o : Nat → Nat} {a : Nat → Nat → Int32} {p1 p2 p3 lo hi : Int32} {p : Program} {e : Env} {s : State} {m : MethodId} {args : Array Value} {below : List Frame} {meth : Method} {c : Code} {A : Nat → Prop} (hx : p.tables.exec = Jvm.exec) (hb : c.code = cX1_dotsInColumn) (hr : meth.sig.returnType = (some .int)) (hts : ∀ w ∈ wsX1_dotsInColumn, w.before args s = true) (hown : s.vm.findClass RX1 = some m.cls) (hlocks : meth.locks = false) (hml : c.maxLocals = 11) (hK : va_K D vwCl [(cI, .int)] s) (hA : ∀ q : Nat, s.heap.size ≤ q → A q) :
    ∀ (n k : Nat), k + n = 32 → ∀ (sm : Int32), ∀ (H : Heap) (locs : List Loc), va_P D vwCl (wM cI o a) H → va_D A (wM cI o a) → va_S A s.heap H locs → ∀ ls : Array Slot, lv_has ls 11 [(7, .int (nI k)), (6, .int sm), (5, .int hi), (4, .int lo), (0, .ref (o 2)), (1, .int p1), (2, .int p2), (3, .int p3)] → W p l e (rmD 1) s m args below meth c H locs 0 0 (MQ below (kq_ D cI (some (.int (xDotsL a p1 lo hi n k sm))) (wM cI o a) A) args s 0 0 A) (F0 m 20 ls []) := by
  intro n
  induction n with
  | zero =>
    intro k hk sm H locs hP hD hS ls hl
    obtain rfl : k = 32 := by omega
    refine lv_iload hx hb dX1_dotsInColumn_20 (lv_at hl 0 rfl) ?_
    refine lv_bipush (v := 32) hx hb dX1_dotsInColumn_22 (by decide) ?_
    refine lv_icmp_ge (tgt := 113) hx hb dX1_dotsInColumn_24 (by decide) (fun c_1 => ?_) (fun c_1 => ?_)
    · refine lv_iload hx hb dX1_dotsInColumn_113 (lv_at hl 1 rfl) ?_
      exact KC.reti hx hb hr hlocks hK hP hD hS dX1_dotsInColumn_115 rfl
    · exact absurd (show (32 : Int32) ≤ nI 32 by decide) c_1
  | succ n ih =>
    intro k hk sm H locs hP hD hS ls hl
    refine lv_iload hx hb dX1_dotsInColumn_20 (lv_at hl 0 rfl) ?_
    refine lv_bipush (v := 32) hx hb dX1_dotsInColumn_22 (by decide) ?_
    refine lv_icmp_ge (tgt := 113) hx hb dX1_dotsInColumn_24 (by decide) (fun c_2 => ?_) (fun c_2 => ?_)
    · exact absurd c_2 (show ¬ nI 32 ≤ nI k from nI_ge (by omega) (by decide))
    · refine lv_iload hx hb dX1_dotsInColumn_27 (lv_at hl 3 rfl) ?_
      refine lv_bipush (v := 8) hx hb dX1_dotsInColumn_29 (by decide) ?_
      refine lv_iload hx hb dX1_dotsInColumn_31 (lv_at hl 0 rfl) ?_
      refine lv_imul hx hb dX1_dotsInColumn_33 ?_
      refine lv_isub hx hb dX1_dotsInColumn_34 ?_
      refine lv_iconst (v := 0) hx hb dX1_dotsInColumn_35 (by decide) ?_
      refine va_mmax hx hb (hml.trans hl.1.symm) hown (hts (.methodLink RX1 25 Lib.Math.max.name) (List.mem_cons_of_mem _ (List.mem_append_left _ (List.mem_of_getElem? (i := 0) rfl)))) (hts (.static Lib.Math.max.name) (List.mem_cons_of_mem _ (List.mem_append_left _ (List.mem_of_getElem? (i := 1) rfl)))) (hts (.initialized "java/lang/Math") (List.mem_cons_of_mem _ (List.mem_append_left _ (List.mem_of_getElem? (i := 2) rfl)))) (hts (.code Lib.Math.max.name Lib.Math.max.code 2 (some .int)) (List.mem_cons_of_mem _ (List.mem_append_left _ (List.mem_of_getElem? (i := 3) rfl)))) (Nat.le_of_ble_eq_true rfl) (Nat.le_of_ble_eq_true rfl) (Nat.zero_le _) (Nat.zero_le _) dX1_dotsInColumn_36 ?_
      refine lv_istore (lv' := [(8, .int _), (7, .int _), (6, .int _), (5, .int _), (4, .int _), (0, .ref _), (1, .int _), (2, .int _), (3, .int _)]) hx hb dX1_dotsInColumn_39 hl (by decide) rfl (fun ls hl => ?_)
      refine lv_iload hx hb dX1_dotsInColumn_41 (lv_at hl 3 rfl) ?_
      refine lv_bipush (v := 8) hx hb dX1_dotsInColumn_43 (by decide) ?_
      refine lv_iload hx hb dX1_dotsInColumn_45 (lv_at hl 1 rfl) ?_
      refine lv_imul hx hb dX1_dotsInColumn_47 ?_
      refine lv_isub hx hb dX1_dotsInColumn_48 ?_
      refine lv_bipush (v := 8) hx hb dX1_dotsInColumn_49 (by decide) ?_
      refine va_mmin hx hb (hml.trans hl.1.symm) hown (hts (.methodLink RX1 31 Lib.Math.min.name) (List.mem_cons_of_mem _ (List.mem_append_left _ (List.mem_of_getElem? (i := 4) rfl)))) (hts (.static Lib.Math.min.name) (List.mem_cons_of_mem _ (List.mem_append_left _ (List.mem_of_getElem? (i := 5) rfl)))) (hts (.initialized "java/lang/Math") (List.mem_cons_of_mem _ (List.mem_append_left _ (List.mem_of_getElem? (i := 2) rfl)))) (hts (.code Lib.Math.min.name Lib.Math.min.code 2 (some .int)) (List.mem_cons_of_mem _ (List.mem_append_left _ (List.mem_of_getElem? (i := 6) rfl)))) (Nat.le_of_ble_eq_true rfl) (Nat.le_of_ble_eq_true rfl) (Nat.zero_le _) (Nat.zero_le _) dX1_dotsInColumn_51 ?_
      refine lv_istore (lv' := [(9, .int _), (8, .int _), (7, .int _), (6, .int _), (5, .int _), (4, .int _), (0, .ref _), (1, .int _), (2, .int _), (3, .int _)]) hx hb dX1_dotsInColumn_54 hl (by decide) rfl (fun ls hl => ?_)
      refine lv_iload hx hb dX1_dotsInColumn_56 (lv_at hl 1 rfl) ?_
      refine lv_iload hx hb dX1_dotsInColumn_58 (lv_at hl 0 rfl) ?_
      refine lv_icmp_ge (tgt := 107) hx hb dX1_dotsInColumn_60 (by decide) (fun c_3 => ?_) (fun c_3 => ?_)
      · refine lv_iinc (v := (nI k) + (1 : Int32)) (lv' := [(7, .int _), (9, .int _), (8, .int _), (6, .int _), (5, .int _), (4, .int _), (0, .ref _), (1, .int _), (2, .int _), (3, .int _)]) hx hb dX1_dotsInColumn_107 hl (k := 2) rfl rfl (by decide) rfl (fun ls hl => ?_)
        refine lv_goto (tgt := 20) hx hb dX1_dotsInColumn_110 (by decide) ?_
        rw [nI_1] at hl
        have hF : xDotsL a p1 lo hi (n + 1) k sm = xDotsL a p1 lo hi n (k + 1) (sm) := by simp only [xDotsL, if_pos c_3]
        rw [hF]
        exact ih (k + 1) (by omega) _ H locs hP hD hS ls (lv_sub hl [0, 3, 4, 5, 6, 7, 8, 9] rfl)
      · refine lv_sipush (v := 255) hx hb dX1_dotsInColumn_63 (by decide) ?_
        refine lv_iload hx hb dX1_dotsInColumn_66 (lv_at hl 1 rfl) ?_
        refine lv_ishl hx hb dX1_dotsInColumn_68 ?_
        refine lv_sipush (v := 255) hx hb dX1_dotsInColumn_69 (by decide) ?_
        refine lv_bipush (v := 8) hx hb dX1_dotsInColumn_72 (by decide) ?_
        refine lv_iload hx hb dX1_dotsInColumn_74 (lv_at hl 0 rfl) ?_
        refine lv_isub hx hb dX1_dotsInColumn_76 ?_
        refine lv_ishr hx hb dX1_dotsInColumn_77 ?_
        refine lv_iand hx hb dX1_dotsInColumn_78 ?_
        refine lv_istore (lv' := [(10, .int _), (9, .int _), (8, .int _), (7, .int _), (6, .int _), (5, .int _), (4, .int _), (0, .ref _), (1, .int _), (2, .int _), (3, .int _)]) hx hb dX1_dotsInColumn_79 hl (by decide) rfl (fun ls hl => ?_)
        refine lv_iload hx hb dX1_dotsInColumn_81 (lv_at hl 4 rfl) ?_
        refine lv_aload_n hx hb dX1_dotsInColumn_83 rfl (lv_at hl 7 rfl) ?_
        refine lv_sipush (v := 9216) hx hb dX1_dotsInColumn_84 (by decide) ?_
        refine lv_bipush (v := 32) hx hb dX1_dotsInColumn_87 (by decide) ?_
        refine lv_iload_n hx hb dX1_dotsInColumn_89 rfl (lv_at hl 8 rfl) ?_
        refine lv_imul hx hb dX1_dotsInColumn_90 ?_
        refine lv_iadd hx hb dX1_dotsInColumn_91 ?_
        refine lv_iload hx hb dX1_dotsInColumn_92 (lv_at hl 3 rfl) ?_
        refine lv_iadd hx hb dX1_dotsInColumn_94 ?_
        refine KC.calli (ci := 1) (rest := [.int sm]) (wt := wM cI o a) (kX1_read l D cI o a (((9216 : Int32) + ((32 : Int32) * p1)) + (nI k))) (cwV 1 hts gX1_dotsInColumn_X1_read rfl rfl rfl (by decide +kernel) ⟨Nat.le_of_ble_eq_true rfl, Nat.le_of_ble_eq_true rfl⟩) ⟨hx, hb, hml, hown, hts⟩ hK hP hD hS hA rfl rfl rfl [0, 1, 2] [] [0, 1, 2] (by decide) rfl (wr := []) rfl (by decide) (by decide) (by decide) rfl rfl hl.1 rfl (Nat.le_of_ble_eq_true rfl) dX1_dotsInColumn_95 ⟨Nat.zero_le _, Nat.zero_le _⟩ (fun H locs hP hD hS => ?_)
        refine lv_iload hx hb dX1_dotsInColumn_98 (lv_at hl 0 rfl) ?_
        refine lv_iand hx hb dX1_dotsInColumn_100 ?_
        refine KC.callS (rest := [.int sm]) (kJ6_bitCount_0f7a4 l D cI ((xRead a (((9216 : Int32) + ((32 : Int32) * p1)) + (nI k))) &&& (((255 : Int32) <<< ((if (lo - ((8 : Int32) * (nI k))) < (0 : Int32) then (0 : Int32) else lo - ((8 : Int32) * (nI k))) &&& 31)) &&& ((255 : Int32) >>> (((8 : Int32) - (if (8 : Int32) < (hi - ((8 : Int32) * (nI k))) then (8 : Int32) else hi - ((8 : Int32) * (nI k)))) &&& 31))))) (va_cwS 1 hts gX1_dotsInColumn_J6_bitCount_0f7a4 rfl rfl rfl (by decide +kernel) ⟨Nat.le_of_ble_eq_true rfl, Nat.le_of_ble_eq_true rfl⟩) ⟨hx, hb, hml, hown, hts⟩ hK hP hD hS hA rfl hl.1 rfl (Nat.le_of_ble_eq_true rfl) dX1_dotsInColumn_101 ⟨Nat.zero_le _, Nat.zero_le _⟩ (fun H locs hP hD hS => ?_)
        refine lv_iadd hx hb dX1_dotsInColumn_104 ?_
        refine lv_istore (lv' := [(6, .int _), (10, .int _), (9, .int _), (8, .int _), (7, .int _), (5, .int _), (4, .int _), (0, .ref _), (1, .int _), (2, .int _), (3, .int _)]) hx hb dX1_dotsInColumn_105 hl (by decide) rfl (fun ls hl => ?_)
        refine lv_iinc (v := (nI k) + (1 : Int32)) (lv' := [(7, .int _), (6, .int _), (10, .int _), (9, .int _), (8, .int _), (5, .int _), (4, .int _), (0, .ref _), (1, .int _), (2, .int _), (3, .int _)]) hx hb dX1_dotsInColumn_107 hl (k := 4) rfl rfl (by decide) rfl (fun ls hl => ?_)
        refine lv_goto (tgt := 20) hx hb dX1_dotsInColumn_110 (by decide) ?_
        rw [nI_1] at hl
        have hF : xDotsL a p1 lo hi (n + 1) k sm = xDotsL a p1 lo hi n (k + 1) (sm + (xBitCount ((xRead a (((9216 : Int32) + ((32 : Int32) * p1)) + (nI k))) &&& (((255 : Int32) <<< ((if (lo - ((8 : Int32) * (nI k))) < (0 : Int32) then (0 : Int32) else lo - ((8 : Int32) * (nI k))) &&& 31)) &&& ((255 : Int32) >>> (((8 : Int32) - (if (8 : Int32) < (hi - ((8 : Int32) * (nI k))) then (8 : Int32) else hi - ((8 : Int32) * (nI k)))) &&& 31)))))) := by simp only [xDotsL, if_neg c_3]
        rw [hF]
        exact ih (k + 1) (by omega) _ H locs hP hD hS ls (lv_sub hl [0, 1, 5, 6, 7, 8, 9, 10] rfl)
def xDots (a : Nat → Nat → Int32) (p1 : Int32) (p2 : Int32) (p3 : Int32) : Int32 :=
  xDotsL a p1 ((256 : Int32) - p3) ((256 : Int32) - p2) 32 0 (0 : Int32)
set_option maxHeartbeats 4000000 in
set_option maxRecDepth 100000 in
theorem kX1_dotsInColumn (l : Launch) (D : va_G) (cI : ClassId) (o : Nat → Nat) (a : Nat → Nat → Int32) (p1 : Int32) (p2 : Int32) (p3 : Int32) : KC l yX1_dotsInColumn wsX1_dotsInColumn 1 [.ref (o 2), .int p1, .int p2, .int p3] D cI (wM cI o a) (wM cI o a) (some (.int (xDots a p1 p2 p3))) := by
  refine KC.of (cc := cX1_dotsInColumn) (maxL := 11) (by decide) rfl (Nat.le_of_ble_eq_true rfl) ?_
  intro p e s m below meth c A hx hb hr hts hown hlocks hml hK hP hD hS hA ls hl
  have hl : lv_has ls 11 [(0, .ref (o 2)), (1, .int p1), (2, .int p2), (3, .int p3)] := hl
  have hown : s.vm.findClass RX1 = some m.cls := hown
  refine lv_sipush (v := 256) hx hb dX1_dotsInColumn_0 (by decide) ?_
  refine lv_iload_n hx hb dX1_dotsInColumn_3 rfl (lv_at hl 3 rfl) ?_
  refine lv_isub hx hb dX1_dotsInColumn_4 ?_
  refine lv_istore (lv' := [(4, .int _), (0, .ref _), (1, .int _), (2, .int _), (3, .int _)]) hx hb dX1_dotsInColumn_5 hl (by decide) rfl (fun ls hl => ?_)
  refine lv_sipush (v := 256) hx hb dX1_dotsInColumn_7 (by decide) ?_
  refine lv_iload_n hx hb dX1_dotsInColumn_10 rfl (lv_at hl 3 rfl) ?_
  refine lv_isub hx hb dX1_dotsInColumn_11 ?_
  refine lv_istore (lv' := [(5, .int _), (4, .int _), (0, .ref _), (1, .int _), (2, .int _), (3, .int _)]) hx hb dX1_dotsInColumn_12 hl (by decide) rfl (fun ls hl => ?_)
  refine lv_iconst (v := 0) hx hb dX1_dotsInColumn_14 (by decide) ?_
  refine lv_istore (lv' := [(6, .int _), (5, .int _), (4, .int _), (0, .ref _), (1, .int _), (2, .int _), (3, .int _)]) hx hb dX1_dotsInColumn_15 hl (by decide) rfl (fun ls hl => ?_)
  refine lv_iconst (v := 0) hx hb dX1_dotsInColumn_17 (by decide) ?_
  refine lv_istore (lv' := [(7, .int _), (6, .int _), (5, .int _), (4, .int _), (0, .ref _), (1, .int _), (2, .int _), (3, .int _)]) hx hb dX1_dotsInColumn_18 hl (by decide) rfl (fun ls hl => ?_)
  have hF : xDots a p1 p2 p3 = xDotsL a p1 ((256 : Int32) - p3) ((256 : Int32) - p2) 32 0 (0 : Int32) := rfl
  rw [hF]
  exact lpX1_dots hx hb hr hts hown hlocks hml hK hA 32 0 (by omega) (0 : Int32) _ _ hP hD hS ls (lv_sub hl [0, 1, 2, 3, 4, 5, 6, 7] rfl)
