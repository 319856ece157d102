set_option maxHeartbeats 4000000 in
set_option maxRecDepth 100000 in
theorem lpX5_out {l : Launch} {D : va_G} {cI : ClassId} {o : Nat → Nat} {f : Nat → Int32} {a : Nat → Nat → Int32} {p1 p2 q : Int32} {p : Program} {e : Env} {s : State} {m : MethodId} {args : Array Value} {below : List Frame} {meth : Method} {c : Code} {A : Nat → Prop} (hx : p.tables.exec = Jvm.exec) (hb : c.code = cX5_out) (hr : meth.sig.returnType = none) (hts : ∀ w ∈ wsX5_out, w.before args s = true) (hown : s.vm.findClass RX5 = some m.cls) (hlocks : meth.locks = false) (hml : c.maxLocals = 5) (hK : va_K D vwCl [(cI, .int)] s) (hA : ∀ q : Nat, s.heap.size ≤ q → A q) (hq : vp_in q 2) :
    ∀ (n k : Nat), k + n = 8 → ∀ (r : Nat → Int32), ∀ (H : Heap) (locs : List Loc), va_P D vwCl (wR cI o f (ua a 5 r)) H → va_D A (wR cI o f (ua a 5 r)) → va_S A s.heap H locs → ∀ ls : Array Slot, lv_has ls 5 [(4, .int (nI k)), (3, .int q), (0, .ref (o 20)), (1, .int p1), (2, .int p2)] → W p l e (rmD 0) s m args below meth c H locs 0 0 (MQ below (kq_ D cI none (wR cI o f (ua (ua a 5 (rEdges a p2 q n k r)) 4 (upd (a 4) q.toNatClampNeg p2))) A) args s 0 0 A) (F0 m 40 ls []) := by
  have hi5 : ∀ w ∈ u_ws RX5 TX5 24, w ∈ wsX5_out := fun w h => List.mem_cons_of_mem _ (List.mem_append_right _ h)
  intro n
  induction n with
  | zero =>
    intro k hk r H locs hP hD hS ls hl
    obtain rfl : k = 8 := by omega
    refine lv_iload hx hb dX5_out_40 (lv_at hl 0 rfl) ?_
    refine lv_bipush (v := 8) hx hb dX5_out_42 (by decide) ?_
    refine lv_icmp_ge (tgt := 86) hx hb dX5_out_44 (by decide) (fun c_1 => ?_) (fun c_1 => ?_)
    · refine lv_aload_n hx hb dX5_out_86 rfl (lv_at hl 2 rfl) ?_
      refine va_get (ci := 5) (v := .ref (o 25)) (C := RX5) (T := TX5) (N := 24) hx hb hts hi5 hown hK hP 0 rfl rfl 19 (by decide) (hts (.fieldLink RX5 22 "InvaderBoardModel" "latch" "[I") (List.mem_cons_of_mem _ (List.mem_append_left _ (List.mem_of_getElem? (i := 2) rfl)))) (fun _ h9 => h9) rfl dX5_out_87 ?_
      refine lv_iload_n hx hb dX5_out_90 rfl (lv_at hl 1 rfl) ?_
      refine lv_iload_n hx hb dX5_out_91 rfl (lv_at hl 4 rfl) ?_
      refine pu_R_a4 hx hb hK hP hD hS hq dX5_out_92 (fun H locs hP hD hS => ?_)
      refine lv_goto (tgt := 131) hx hb dX5_out_93 (by decide) ?_
      exact KC.retv hx hb hr hlocks hK hP hD hS dX5_out_131
    · exact absurd (show (8 : Int32) ≤ nI 8 by decide) c_1
  | succ n ih =>
    intro k hk r H locs hP hD hS ls hl
    refine lv_iload hx hb dX5_out_40 (lv_at hl 0 rfl) ?_
    refine lv_bipush (v := 8) hx hb dX5_out_42 (by decide) ?_
    refine lv_icmp_ge (tgt := 86) hx hb dX5_out_44 (by decide) (fun c_2 => ?_) (fun c_2 => ?_)
    · exact absurd c_2 (show ¬ nI 8 ≤ nI k from nI_ge (by omega) (by decide))
    · refine lv_aload_n hx hb dX5_out_47 rfl (lv_at hl 2 rfl) ?_
      refine va_get (ci := 5) (v := .ref (o 26)) (C := RX5) (T := TX5) (N := 24) hx hb hts hi5 hown hK hP 0 rfl rfl 20 (by decide) (hts (.fieldLink RX5 25 "InvaderBoardModel" "edges" "[I") (List.mem_cons_of_mem _ (List.mem_append_left _ (List.mem_of_getElem? (i := 1) rfl)))) (fun _ h9 => h9) rfl dX5_out_48 ?_
      refine lv_bipush (v := 8) hx hb dX5_out_51 (by decide) ?_
      refine lv_iload_n hx hb dX5_out_53 rfl (lv_at hl 1 rfl) ?_
      refine lv_imul hx hb dX5_out_54 ?_
      refine lv_iload hx hb dX5_out_55 (lv_at hl 0 rfl) ?_
      refine lv_iadd hx hb dX5_out_57 ?_
      refine lv_dup2_11 hx hb dX5_out_58 rfl rfl ?_
      refine va_iald (f := r) hx hb hK hP 6 0 rfl rfl (xin_e16 hq k (by omega)) dX5_out_59 ?_
      refine lv_iload_n hx hb dX5_out_60 rfl (lv_at hl 4 rfl) ?_
      refine lv_iload hx hb dX5_out_61 (lv_at hl 0 rfl) ?_
      refine lv_ishr hx hb dX5_out_63 ?_
      refine lv_aload_n hx hb dX5_out_64 rfl (lv_at hl 2 rfl) ?_
      refine va_get (ci := 5) (v := .ref (o 25)) (C := RX5) (T := TX5) (N := 24) hx hb hts hi5 hown hK hP 0 rfl rfl 19 (by decide) (hts (.fieldLink RX5 22 "InvaderBoardModel" "latch" "[I") (List.mem_cons_of_mem _ (List.mem_append_left _ (List.mem_of_getElem? (i := 2) rfl)))) (fun _ h9 => h9) rfl dX5_out_65 ?_
      refine lv_iload_n hx hb dX5_out_68 rfl (lv_at hl 1 rfl) ?_
      refine va_iald (f := a 4) hx hb hK hP 5 0 rfl rfl hq dX5_out_69 ?_
      refine lv_iconst (v := -1) hx hb dX5_out_70 (by decide) ?_
      refine lv_ixor hx hb dX5_out_71 ?_
      refine lv_iload hx hb dX5_out_72 (lv_at hl 0 rfl) ?_
      refine lv_ishr hx hb dX5_out_74 ?_
      refine lv_iand hx hb dX5_out_75 ?_
      refine lv_iconst (v := 1) hx hb dX5_out_76 (by decide) ?_
      refine lv_iand hx hb dX5_out_77 ?_
      refine lv_iadd hx hb dX5_out_78 ?_
      refine pu_R_a5 hx hb hK hP hD hS (xin_e16 hq k (by omega)) dX5_out_79 (fun H locs hP hD hS => ?_)
      have hP : va_P D vwCl (wR cI o f (ua (ua a 5 r) 5 (upd r (((8 : Int32) * q) + (nI k)).toNatClampNeg ((r (((8 : Int32) * q) + (nI k)).toNatClampNeg) + (((p2 >>> ((nI k) &&& 31)) &&& ((((a 4) q.toNatClampNeg) ^^^ (-1 : Int32)) >>> ((nI k) &&& 31))) &&& (1 : Int32)))))) H := hP
      have hD : va_D A (wR cI o f (ua (ua a 5 r) 5 (upd r (((8 : Int32) * q) + (nI k)).toNatClampNeg ((r (((8 : Int32) * q) + (nI k)).toNatClampNeg) + (((p2 >>> ((nI k) &&& 31)) &&& ((((a 4) q.toNatClampNeg) ^^^ (-1 : Int32)) >>> ((nI k) &&& 31))) &&& (1 : Int32)))))) := hD
      refine lv_iinc (v := (nI k) + (1 : Int32)) (lv' := [(4, .int _), (3, .int _), (0, .ref _), (1, .int _), (2, .int _)]) hx hb dX5_out_80 hl (k := 0) rfl rfl (by decide) rfl (fun ls hl => ?_)
      refine lv_goto (tgt := 40) hx hb dX5_out_83 (by decide) ?_
      rw [nI_1] at hl
      have hP : va_P D vwCl (wR cI o f (ua a 5 (upd r (((8 : Int32) * q) + (nI k)).toNatClampNeg ((r (((8 : Int32) * q) + (nI k)).toNatClampNeg) + (((p2 >>> ((nI k) &&& 31)) &&& ((((a 4) q.toNatClampNeg) ^^^ (-1 : Int32)) >>> ((nI k) &&& 31))) &&& (1 : Int32)))))) H := hP
      have hD : va_D A (wR cI o f (ua a 5 (upd r (((8 : Int32) * q) + (nI k)).toNatClampNeg ((r (((8 : Int32) * q) + (nI k)).toNatClampNeg) + (((p2 >>> ((nI k) &&& 31)) &&& ((((a 4) q.toNatClampNeg) ^^^ (-1 : Int32)) >>> ((nI k) &&& 31))) &&& (1 : Int32)))))) := hD
      exact ih (k + 1) (by omega) _ H locs hP hD hS ls (lv_sub hl [0, 1, 2, 3, 4] rfl)
