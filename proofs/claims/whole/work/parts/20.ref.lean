theorem xin_le {x : Int32} {n : Nat} (M : Int32) (hM : M.toInt + 1 = n) (h0 : ¬ x < 0) (h : x ≤ M) : vp_in x n := by
  rw [vp_in_iff]
  rw [Int32.lt_iff_toInt_lt, Int32.toInt_zero] at h0
  rw [Int32.le_iff_toInt_le] at h
  omega
theorem xin_ng {x : Int32} {n : Nat} (M : Int32) (hM : M.toInt + 1 = n) (h0 : ¬ x < 0) (h : ¬ M < x) : vp_in x n := by
  rw [vp_in_iff]
  rw [Int32.lt_iff_toInt_lt, Int32.toInt_zero] at h0
  rw [Int32.lt_iff_toInt_lt] at h
  omega
theorem xin_low (x : Int32) (h : ¬ (x &&& (16383 : Int32)) < (8192 : Int32)) : vp_in ((x &&& (16383 : Int32)) - (8192 : Int32)) 8192 := by
  obtain ⟨j, hj, e⟩ := pk_andE x (m := 16383) 14 (by decide)
  rw [e] at h ⊢
  have hj2 : 8192 ≤ j := by
    rcases Nat.lt_or_ge j 8192 with q | q
    · exact absurd (show nI j < nI 8192 from nI_lt q (by decide)) h
    · exact q
  rw [show (8192 : Int32) = nI 8192 from rfl, pk_sub hj2]
  exact vp_in_nI (by omega) (by decide)
theorem xin_p2 {p1 : Int32} (h1 : vp_in p1 4) (h3 : ¬ p1 = (3 : Int32)) : vp_in ((2 : Int32) * p1) 8 := by
  obtain ⟨j, hj, rfl⟩ := vp_in_of h1 (by decide)
  have : ∀ j : Fin 4, vp_in ((2 : Int32) * nI j.val) 8 := by unfold vp_in; decide +kernel
  exact this ⟨j, hj⟩
theorem xin_p21 {p1 : Int32} (h1 : vp_in p1 4) (h3 : ¬ p1 = (3 : Int32)) : vp_in (((2 : Int32) * p1) + (1 : Int32)) 8 := by
  obtain ⟨j, hj, rfl⟩ := vp_in_of h1 (by decide)
  have : ∀ j : Fin 4, vp_in (((2 : Int32) * nI j.val) + (1 : Int32)) 8 := by unfold vp_in; decide +kernel
  exact this ⟨j, hj⟩
theorem xin_sh1 {p1 : Int32} (h1 : vp_in p1 8) : vp_in (p1 >>> ((1 : Int32) &&& 31)) 4 := by
  obtain ⟨j, hj, rfl⟩ := vp_in_of h1 (by decide)
  have : ∀ j : Fin 8, vp_in (nI j.val >>> ((1 : Int32) &&& 31)) 4 := by unfold vp_in; decide +kernel
  exact this ⟨j, hj⟩
theorem xin_a7 (x : Int32) : vp_in (x &&& (7 : Int32)) 8 := pk_andIn _ 3 (by decide) (by decide)
theorem xin_e16 {q : Int32} (hq : vp_in q 2) (k : Nat) (hk : k < 8) : vp_in (((8 : Int32) * q) + nI k) 16 := by
  obtain ⟨j, hj, rfl⟩ := vp_in_of hq (by decide)
  have : ∀ j : Fin 2, ∀ k : Fin 8, vp_in (((8 : Int32) * nI j.val) + nI k.val) 16 := by unfold vp_in; decide +kernel
  exact this ⟨j, hj⟩ ⟨k, hk⟩
def rThrown (f : Nat → Int32) (a : Nat → Nat → Int32)  : Int32 :=
  f 11
set_option maxHeartbeats 4000000 in
set_option maxRecDepth 100000 in
theorem kX5_thrown (l : Launch) (D : va_G) (cI : ClassId) (o : Nat → Nat) (f : Nat → Int32) (a : Nat → Nat → Int32)  : KC l yX5_thrown wsX5_thrown 0 [.ref (o 20)] D cI (wR cI o f a) (wR cI o f a) (some (.int (rThrown f a))) := by
  refine KC.of (cc := cX5_thrown) (maxL := 1) (by decide) rfl (Nat.le_of_ble_eq_true rfl) ?_
  intro p e s m below meth c A hx hb hr hts hown hlocks hml hK hP hD hS hA ls hl
  have hl : lv_has ls 1 [(0, .ref (o 20))] := hl
  have hown : s.vm.findClass RX5 = some m.cls := hown
  have hi5 : ∀ w ∈ u_ws RX5 TX5 24, w ∈ wsX5_thrown := by decide +kernel
  refine lv_aload_n hx hb dX5_thrown_0 rfl (lv_at hl 0 rfl) ?_
  refine va_get (ci := 5) (v := .int (f 11)) (C := RX5) (T := TX5) (N := 24) hx hb hts hi5 hown hK hP 0 rfl rfl 0 (by decide) (hts (.fieldLink RX5 28 "InvaderBoardModel" "code" "I") (by decide +kernel)) (fun _ h9 => h9) rfl dX5_thrown_1 ?_
  have hF : rThrown f a = f 11 := rfl
  rw [hF]
  exact KC.reti hx hb hr hlocks hK hP hD hS dX5_thrown_4 rfl
def rRead (f : Nat → Int32) (a : Nat → Nat → Int32) (p1 : Int32) : Int32 :=
  if ((p1 &&& (65535 : Int32)) &&& (16383 : Int32)) < (8192 : Int32) then if (2048 : Int32) ≤ (p1 &&& (65535 : Int32)) then (0 : Int32)
    else (a 0) (p1 &&& (65535 : Int32)).toNatClampNeg
  else (a 1) (((p1 &&& (65535 : Int32)) &&& (16383 : Int32)) - (8192 : Int32)).toNatClampNeg
set_option maxHeartbeats 4000000 in
set_option maxRecDepth 100000 in
theorem kX5_read (l : Launch) (D : va_G) (cI : ClassId) (o : Nat → Nat) (f : Nat → Int32) (a : Nat → Nat → Int32) (p1 : Int32) : KC l yX5_read wsX5_read 0 [.ref (o 20), .int p1] D cI (wR cI o f a) (wR cI o f a) (some (.int (rRead f a p1))) := by
  refine KC.of (cc := cX5_read) (maxL := 4) (by decide) rfl (Nat.le_of_ble_eq_true rfl) ?_
  intro p e s m below meth c A hx hb hr hts hown hlocks hml hK hP hD hS hA ls hl
  have hl : lv_has ls 4 [(0, .ref (o 20)), (1, .int p1)] := hl
  have hown : s.vm.findClass RX5 = some m.cls := hown
  have hi5 : ∀ w ∈ u_ws RX5 TX5 24, w ∈ wsX5_read := by decide +kernel
  refine lv_iload_n hx hb dX5_read_0 rfl (lv_at hl 1 rfl) ?_
  refine lv_ldc (v := 65535) hx hb hown (hts (.constant RX5 32 65535) (by decide +kernel)) dX5_read_1 ?_
  refine lv_iand hx hb dX5_read_3 ?_
  refine lv_istore_n (lv' := [(2, .int _), (0, .ref _), (1, .int _)]) hx hb dX5_read_4 rfl hl (by decide) rfl (fun ls hl => ?_)
  refine lv_iload_n hx hb dX5_read_5 rfl (lv_at hl 0 rfl) ?_
  refine lv_sipush (v := 16383) hx hb dX5_read_6 (by decide) ?_
  refine lv_iand hx hb dX5_read_9 ?_
  refine lv_istore_n (lv' := [(3, .int _), (2, .int _), (0, .ref _), (1, .int _)]) hx hb dX5_read_10 rfl hl (by decide) rfl (fun ls hl => ?_)
  refine lv_iload_n hx hb dX5_read_11 rfl (lv_at hl 0 rfl) ?_
  refine lv_sipush (v := 8192) hx hb dX5_read_12 (by decide) ?_
  refine lv_icmp_lt (tgt := 29) hx hb dX5_read_15 (by decide) (fun c_1 => ?_) (fun c_1 => ?_)
  · refine lv_iload_n hx hb dX5_read_29 rfl (lv_at hl 1 rfl) ?_
    refine lv_sipush (v := 2048) hx hb dX5_read_30 (by decide) ?_
    refine lv_icmp_ge (tgt := 45) hx hb dX5_read_33 (by decide) (fun c_2 => ?_) (fun c_2 => ?_)
    · refine lv_iconst (v := 0) hx hb dX5_read_45 (by decide) ?_
      have hF : rRead f a p1 = (0 : Int32) := by simp only [rRead, if_pos c_1, if_pos c_2]
      rw [hF]
      exact KC.reti hx hb hr hlocks hK hP hD hS dX5_read_46 rfl
    · refine lv_aload_n hx hb dX5_read_36 rfl (lv_at hl 2 rfl) ?_
      refine va_get (ci := 5) (v := .ref (o 21)) (C := RX5) (T := TX5) (N := 24) hx hb hts hi5 hown hK hP 0 rfl rfl 1 (by decide) (hts (.fieldLink RX5 7 "InvaderBoardModel" "rom" "[I") (by decide +kernel)) (fun _ h9 => h9) rfl dX5_read_37 ?_
      refine lv_iload_n hx hb dX5_read_40 rfl (lv_at hl 1 rfl) ?_
      refine va_iald (f := a 0) hx hb hK hP 1 0 rfl rfl (by first | assumption | exact h1 | exact xin_low _ (by assumption) | exact xin_rom (by assumption) | exact xin_p2 h1 (by assumption) | exact xin_p21 h1 (by assumption) | exact xin 2048 (by decide) (by assumption) (by assumption) | exact xin_le 2047 (by decide) (by assumption) (by assumption) | exact xin_bit h1 h2) dX5_read_41 ?_
      refine lv_goto (tgt := 46) hx hb dX5_read_42 (by decide) ?_
      have hF : rRead f a p1 = (a 0) (p1 &&& (65535 : Int32)).toNatClampNeg := by simp only [rRead, if_pos c_1, if_neg c_2]
      rw [hF]
      exact KC.reti hx hb hr hlocks hK hP hD hS dX5_read_46 rfl
  · refine lv_aload_n hx hb dX5_read_18 rfl (lv_at hl 2 rfl) ?_
    refine va_get (ci := 5) (v := .ref (o 22)) (C := RX5) (T := TX5) (N := 24) hx hb hts hi5 hown hK hP 0 rfl rfl 2 (by decide) (hts (.fieldLink RX5 13 "InvaderBoardModel" "ram" "[I") (by decide +kernel)) (fun _ h9 => h9) rfl dX5_read_19 ?_
    refine lv_iload_n hx hb dX5_read_22 rfl (lv_at hl 0 rfl) ?_
    refine lv_sipush (v := 8192) hx hb dX5_read_23 (by decide) ?_
    refine lv_isub hx hb dX5_read_26 ?_
    refine va_iald (f := a 1) hx hb hK hP 2 0 rfl rfl (by first | assumption | exact h1 | exact xin_low _ (by assumption) | exact xin_rom (by assumption) | exact xin_p2 h1 (by assumption) | exact xin_p21 h1 (by assumption) | exact xin 8192 (by decide) (by assumption) (by assumption) | exact xin_le 8191 (by decide) (by assumption) (by assumption) | exact xin_bit h1 h2) dX5_read_27 ?_
    have hF : rRead f a p1 = (a 1) (((p1 &&& (65535 : Int32)) &&& (16383 : Int32)) - (8192 : Int32)).toNatClampNeg := by simp only [rRead, if_neg c_1]
    rw [hF]
    exact KC.reti hx hb hr hlocks hK hP hD hS dX5_read_28 rfl
def rWrite (f : Nat → Int32) (a : Nat → Nat → Int32) (p1 : Int32) (p2 : Int32) : (Nat → Int32) :=
  if (p1 &&& (16383 : Int32)) < (8192 : Int32) then a 1
  else upd (a 1) ((p1 &&& (16383 : Int32)) - (8192 : Int32)).toNatClampNeg (p2 &&& (255 : Int32))
set_option maxHeartbeats 4000000 in
set_option maxRecDepth 100000 in
theorem kX5_write (l : Launch) (D : va_G) (cI : ClassId) (o : Nat → Nat) (f : Nat → Int32) (a : Nat → Nat → Int32) (p1 : Int32) (p2 : Int32) : KC l yX5_write wsX5_write 0 [.ref (o 20), .int p1, .int p2] D cI (wR cI o f a) (wR cI o f (ua a 1 (rWrite f a p1 p2))) none := by
  refine KC.of (cc := cX5_write) (maxL := 4) (by decide) rfl (Nat.le_of_ble_eq_true rfl) ?_
  intro p e s m below meth c A hx hb hr hts hown hlocks hml hK hP hD hS hA ls hl
  have hl : lv_has ls 4 [(0, .ref (o 20)), (1, .int p1), (2, .int p2)] := hl
  have hown : s.vm.findClass RX5 = some m.cls := hown
  have hi5 : ∀ w ∈ u_ws RX5 TX5 24, w ∈ wsX5_write := by decide +kernel
  refine lv_iload_n hx hb dX5_write_0 rfl (lv_at hl 1 rfl) ?_
  refine lv_sipush (v := 16383) hx hb dX5_write_1 (by decide) ?_
  refine lv_iand hx hb dX5_write_4 ?_
  refine lv_istore_n (lv' := [(3, .int _), (0, .ref _), (1, .int _), (2, .int _)]) hx hb dX5_write_5 rfl hl (by decide) rfl (fun ls hl => ?_)
  refine lv_iload_n hx hb dX5_write_6 rfl (lv_at hl 0 rfl) ?_
  refine lv_sipush (v := 8192) hx hb dX5_write_7 (by decide) ?_
  refine lv_icmp_lt (tgt := 28) hx hb dX5_write_10 (by decide) (fun c_1 => ?_) (fun c_1 => ?_)
  · have hF : rWrite f a p1 p2 = a 1 := by simp only [rWrite, if_pos c_1]
    rw [hF]
    exact KC.retv hx hb hr hlocks hK hP hD hS dX5_write_28
  · refine lv_aload_n hx hb dX5_write_13 rfl (lv_at hl 1 rfl) ?_
    refine va_get (ci := 5) (v := .ref (o 22)) (C := RX5) (T := TX5) (N := 24) hx hb hts hi5 hown hK hP 0 rfl rfl 2 (by decide) (hts (.fieldLink RX5 13 "InvaderBoardModel" "ram" "[I") (by decide +kernel)) (fun _ h9 => h9) rfl dX5_write_14 ?_
    refine lv_iload_n hx hb dX5_write_17 rfl (lv_at hl 0 rfl) ?_
    refine lv_sipush (v := 8192) hx hb dX5_write_18 (by decide) ?_
    refine lv_isub hx hb dX5_write_21 ?_
    refine lv_iload_n hx hb dX5_write_22 rfl (lv_at hl 3 rfl) ?_
    refine lv_sipush (v := 255) hx hb dX5_write_23 (by decide) ?_
    refine lv_iand hx hb dX5_write_26 ?_
    refine pu_R_a1 hx hb hK hP hD hS (by first | assumption | exact h1 | exact xin_low _ (by assumption) | exact xin_rom (by assumption) | exact xin_p2 h1 (by assumption) | exact xin_p21 h1 (by assumption) | exact xin 8192 (by decide) (by assumption) (by assumption) | exact xin_le 8191 (by decide) (by assumption) (by assumption) | exact xin_bit h1 h2) dX5_write_27 (fun H locs hP hD hS => ?_)
    have hF : rWrite f a p1 p2 = upd (a 1) ((p1 &&& (16383 : Int32)) - (8192 : Int32)).toNatClampNeg (p2 &&& (255 : Int32)) := by simp only [rWrite, if_neg c_1]
    rw [hF]
    exact KC.retv hx hb hr hlocks hK hP hD hS dX5_write_28
def rNext (f : Nat → Int32) (a : Nat → Nat → Int32)  : Int32 × (Nat → Int32) :=
  (rRead f a (f 1), upd f 1 (((f 1) + (1 : Int32)) &&& (65535 : Int32)))
set_option maxHeartbeats 4000000 in
set_option maxRecDepth 100000 in
theorem kX5_next (l : Launch) (D : va_G) (cI : ClassId) (o : Nat → Nat) (f : Nat → Int32) (a : Nat → Nat → Int32)  : KC l yX5_next wsX5_next 1 [.ref (o 20)] D cI (wR cI o f a) (wR cI o ((rNext f a).2) a) (some (.int (rNext f a).1)) := by
  refine KC.of (cc := cX5_next) (maxL := 2) (by decide) rfl (Nat.le_of_ble_eq_true rfl) ?_
  intro p e s m below meth c A hx hb hr hts hown hlocks hml hK hP hD hS hA ls hl
  have hl : lv_has ls 2 [(0, .ref (o 20))] := hl
  have hown : s.vm.findClass RX5 = some m.cls := hown
  have hi5 : ∀ w ∈ u_ws RX5 TX5 24, w ∈ wsX5_next := by decide +kernel
  refine lv_aload_n hx hb dX5_next_0 rfl (lv_at hl 0 rfl) ?_
  refine lv_aload_n hx hb dX5_next_1 rfl (lv_at hl 0 rfl) ?_
  refine va_get (ci := 5) (v := .int (f 1)) (C := RX5) (T := TX5) (N := 24) hx hb hts hi5 hown hK hP 0 rfl rfl 5 (by decide) (hts (.fieldLink RX5 33 "InvaderBoardModel" "pc" "I") (by decide +kernel)) (fun _ h9 => h9) rfl dX5_next_2 ?_
  refine KC.calli (ci := 5) (rest := []) (wt := wR cI o f a) (kX5_read l D cI o f a (f 1)) (cwV 1 hts gX5_next_X5_read rfl rfl rfl (by decide +kernel) ⟨Nat.le_of_ble_eq_true rfl, Nat.le_of_ble_eq_true rfl⟩) ⟨hx, hb, hml, hown, hts⟩ hK hP hD hS hA rfl rfl rfl [0, 1, 2, 3, 4, 5, 6] [] [0, 1, 2, 3, 4, 5, 6] (by decide) rfl (wr := []) rfl (by decide) (by decide) (by decide) rfl rfl hl.1 rfl (Nat.le_of_ble_eq_true rfl) dX5_next_5 ⟨Nat.zero_le _, Nat.zero_le _⟩ (fun H locs hP hD hS => ?_)
  refine lv_istore_n (lv' := [(1, .int _), (0, .ref _)]) hx hb dX5_next_8 rfl hl (by decide) rfl (fun ls hl => ?_)
  refine lv_aload_n hx hb dX5_next_9 rfl (lv_at hl 1 rfl) ?_
  refine lv_aload_n hx hb dX5_next_10 rfl (lv_at hl 1 rfl) ?_
  refine va_get (ci := 5) (v := .int (f 1)) (C := RX5) (T := TX5) (N := 24) hx hb hts hi5 hown hK hP 0 rfl rfl 5 (by decide) (hts (.fieldLink RX5 33 "InvaderBoardModel" "pc" "I") (by decide +kernel)) (fun _ h9 => h9) rfl dX5_next_11 ?_
  refine lv_iconst (v := 1) hx hb dX5_next_14 (by decide) ?_
  refine lv_iadd hx hb dX5_next_15 ?_
  refine lv_ldc (v := 65535) hx hb hown (hts (.constant RX5 32 65535) (by decide +kernel)) dX5_next_16 ?_
  refine lv_iand hx hb dX5_next_18 ?_
  refine pu_R_f1 (v := ((f 1) + (1 : Int32)) &&& (65535 : Int32)) hx hb hts hi5 hown hK hP hD hS (hts (.fieldLink RX5 33 "InvaderBoardModel" "pc" "I") (by decide +kernel)) dX5_next_19 (fun H locs hP hD hS => ?_)
  refine lv_iload_n hx hb dX5_next_22 rfl (lv_at hl 0 rfl) ?_
  have hF : rNext f a = (rRead f a (f 1), upd f 1 (((f 1) + (1 : Int32)) &&& (65535 : Int32))) := rfl
  rw [hF]
  exact KC.reti hx hb hr hlocks hK hP hD hS dX5_next_23 rfl
def rNextTwo (f : Nat → Int32) (a : Nat → Nat → Int32)  : Int32 × (Nat → Int32) :=
  (match rNext f a with
  | (r_1, f_1) => (match rNext f_1 a with
    | (r_2, f_2) => (r_1 ||| (r_2 <<< ((8 : Int32) &&& 31)), f_2)))
set_option maxHeartbeats 4000000 in
set_option maxRecDepth 100000 in
theorem kX5_nextTwo (l : Launch) (D : va_G) (cI : ClassId) (o : Nat → Nat) (f : Nat → Int32) (a : Nat → Nat → Int32)  : KC l yX5_nextTwo wsX5_nextTwo 2 [.ref (o 20)] D cI (wR cI o f a) (wR cI o ((rNextTwo f a).2) a) (some (.int (rNextTwo f a).1)) := by
  refine KC.of (cc := cX5_nextTwo) (maxL := 2) (by decide) rfl (Nat.le_of_ble_eq_true rfl) ?_
  intro p e s m below meth c A hx hb hr hts hown hlocks hml hK hP hD hS hA ls hl
  have hl : lv_has ls 2 [(0, .ref (o 20))] := hl
  have hown : s.vm.findClass RX5 = some m.cls := hown
  refine lv_aload_n hx hb dX5_nextTwo_0 rfl (lv_at hl 0 rfl) ?_
  obtain ⟨r_1, f_1, hB_1⟩ : ∃ (r_1 : Int32) (f_1 : Nat → Int32), rNext f a = (r_1, f_1) := ⟨_, _, rfl⟩
  have kc_1 := kX5_next l D cI o f a
  rw [hB_1] at kc_1; dsimp only at kc_1
  refine KC.calli (ci := 5) (rest := []) (wt := wR cI o f_1 a) (kc_1) (cwV 0 hts gX5_nextTwo_X5_next rfl rfl rfl (by decide +kernel) ⟨Nat.le_of_ble_eq_true rfl, Nat.le_of_ble_eq_true rfl⟩) ⟨hx, hb, hml, hown, hts⟩ hK hP hD hS hA rfl rfl rfl [0, 1, 2, 3, 4, 5, 6] [] [0, 1, 2, 3, 4, 5, 6] (by decide) rfl (wr := []) rfl (by decide) (by decide) (by decide) rfl rfl hl.1 rfl (Nat.le_of_ble_eq_true rfl) dX5_nextTwo_1 ⟨Nat.zero_le _, Nat.zero_le _⟩ (fun H locs hP hD hS => ?_)
  refine lv_istore_n (lv' := [(1, .int _), (0, .ref _)]) hx hb dX5_nextTwo_4 rfl hl (by decide) rfl (fun ls hl => ?_)
  refine lv_iload_n hx hb dX5_nextTwo_5 rfl (lv_at hl 0 rfl) ?_
  refine lv_aload_n hx hb dX5_nextTwo_6 rfl (lv_at hl 1 rfl) ?_
  obtain ⟨r_2, f_2, hB_2⟩ : ∃ (r_2 : Int32) (f_2 : Nat → Int32), rNext f_1 a = (r_2, f_2) := ⟨_, _, rfl⟩
  have kc_2 := kX5_next l D cI o f_1 a
  rw [hB_2] at kc_2; dsimp only at kc_2
  refine KC.calli (ci := 5) (rest := [.int r_1]) (wt := wR cI o f_2 a) (kc_2) (cwV 0 hts gX5_nextTwo_X5_next rfl rfl rfl (by decide +kernel) ⟨Nat.le_of_ble_eq_true rfl, Nat.le_of_ble_eq_true rfl⟩) ⟨hx, hb, hml, hown, hts⟩ hK hP hD hS hA rfl rfl rfl [0, 1, 2, 3, 4, 5, 6] [] [0, 1, 2, 3, 4, 5, 6] (by decide) rfl (wr := []) rfl (by decide) (by decide) (by decide) rfl rfl hl.1 rfl (Nat.le_of_ble_eq_true rfl) dX5_nextTwo_7 ⟨Nat.zero_le _, Nat.zero_le _⟩ (fun H locs hP hD hS => ?_)
  refine lv_bipush (v := 8) hx hb dX5_nextTwo_10 (by decide) ?_
  refine lv_ishl hx hb dX5_nextTwo_12 ?_
  refine lv_ior hx hb dX5_nextTwo_13 ?_
  have hF : rNextTwo f a = (r_1 ||| (r_2 <<< ((8 : Int32) &&& 31)), f_2) := by simp only [rNextTwo, hB_1, hB_2]
  rw [hF]
  exact KC.reti hx hb hr hlocks hK hP hD hS dX5_nextTwo_14 rfl
def rPush (f : Nat → Int32) (a : Nat → Nat → Int32) (p1 : Int32) : (Nat → Int32) × (Nat → Nat → Int32) :=
  (upd f 0 (((f 0) - (2 : Int32)) &&& (65535 : Int32)), ua (ua a 1 (rWrite (upd f 0 (((f 0) - (2 : Int32)) &&& (65535 : Int32))) a (((f 0) - (2 : Int32)) &&& (65535 : Int32)) p1)) 1 (rWrite (upd f 0 (((f 0) - (2 : Int32)) &&& (65535 : Int32))) (ua a 1 (rWrite (upd f 0 (((f 0) - (2 : Int32)) &&& (65535 : Int32))) a (((f 0) - (2 : Int32)) &&& (65535 : Int32)) p1)) (((((f 0) - (2 : Int32)) &&& (65535 : Int32)) + (1 : Int32)) &&& (65535 : Int32)) (p1 >>> ((8 : Int32) &&& 31))))
set_option maxHeartbeats 4000000 in
set_option maxRecDepth 100000 in
theorem kX5_push (l : Launch) (D : va_G) (cI : ClassId) (o : Nat → Nat) (f : Nat → Int32) (a : Nat → Nat → Int32) (p1 : Int32) : KC l yX5_push wsX5_push 1 [.ref (o 20), .int p1] D cI (wR cI o f a) (wR cI o ((rPush f a p1).1) ((rPush f a p1).2)) none := by
  refine KC.of (cc := cX5_push) (maxL := 2) (by decide) rfl (Nat.le_of_ble_eq_true rfl) ?_
  intro p e s m below meth c A hx hb hr hts hown hlocks hml hK hP hD hS hA ls hl
  have hl : lv_has ls 2 [(0, .ref (o 20)), (1, .int p1)] := hl
  have hown : s.vm.findClass RX5 = some m.cls := hown
  have hi5 : ∀ w ∈ u_ws RX5 TX5 24, w ∈ wsX5_push := by decide +kernel
  refine lv_aload_n hx hb dX5_push_0 rfl (lv_at hl 0 rfl) ?_
  refine lv_aload_n hx hb dX5_push_1 rfl (lv_at hl 0 rfl) ?_
  refine va_get (ci := 5) (v := .int (f 0)) (C := RX5) (T := TX5) (N := 24) hx hb hts hi5 hown hK hP 0 rfl rfl 4 (by decide) (hts (.fieldLink RX5 44 "InvaderBoardModel" "sp" "I") (by decide +kernel)) (fun _ h9 => h9) rfl dX5_push_2 ?_
  refine lv_iconst (v := 2) hx hb dX5_push_5 (by decide) ?_
  refine lv_isub hx hb dX5_push_6 ?_
  refine lv_ldc (v := 65535) hx hb hown (hts (.constant RX5 32 65535) (by decide +kernel)) dX5_push_7 ?_
  refine lv_iand hx hb dX5_push_9 ?_
  refine pu_R_f0 (v := ((f 0) - (2 : Int32)) &&& (65535 : Int32)) hx hb hts hi5 hown hK hP hD hS (hts (.fieldLink RX5 44 "InvaderBoardModel" "sp" "I") (by decide +kernel)) dX5_push_10 (fun H locs hP hD hS => ?_)
  refine lv_aload_n hx hb dX5_push_13 rfl (lv_at hl 0 rfl) ?_
  refine lv_aload_n hx hb dX5_push_14 rfl (lv_at hl 0 rfl) ?_
  refine va_get (ci := 5) (v := .int (((f 0) - (2 : Int32)) &&& (65535 : Int32))) (C := RX5) (T := TX5) (N := 24) hx hb hts hi5 hown hK hP 0 rfl rfl 4 (by decide) (hts (.fieldLink RX5 44 "InvaderBoardModel" "sp" "I") (by decide +kernel)) (fun _ h9 => h9) rfl dX5_push_15 ?_
  refine lv_iload_n hx hb dX5_push_18 rfl (lv_at hl 1 rfl) ?_
  refine KC.callv (ci := 5) (rest := []) (wt := wR cI o (upd f 0 (((f 0) - (2 : Int32)) &&& (65535 : Int32))) (ua a 1 (rWrite (upd f 0 (((f 0) - (2 : Int32)) &&& (65535 : Int32))) a (((f 0) - (2 : Int32)) &&& (65535 : Int32)) p1))) (kX5_write l D cI o (upd f 0 (((f 0) - (2 : Int32)) &&& (65535 : Int32))) a (((f 0) - (2 : Int32)) &&& (65535 : Int32)) p1) (cwV 2 hts gX5_push_X5_write rfl rfl rfl (by decide +kernel) ⟨Nat.le_of_ble_eq_true rfl, Nat.le_of_ble_eq_true rfl⟩) ⟨hx, hb, hml, hown, hts⟩ hK hP hD hS hA rfl rfl rfl [0, 1, 2, 3, 4, 5, 6] [] [0, 1, 2, 3, 4, 5, 6] (by decide) rfl (wr := []) rfl (by decide) (by decide) (by decide) rfl rfl hl.1 rfl (Nat.le_of_ble_eq_true rfl) dX5_push_19 ⟨Nat.zero_le _, Nat.zero_le _⟩ (fun H locs hP hD hS => ?_)
  refine lv_aload_n hx hb dX5_push_22 rfl (lv_at hl 0 rfl) ?_
  refine lv_aload_n hx hb dX5_push_23 rfl (lv_at hl 0 rfl) ?_
  refine va_get (ci := 5) (v := .int (((f 0) - (2 : Int32)) &&& (65535 : Int32))) (C := RX5) (T := TX5) (N := 24) hx hb hts hi5 hown hK hP 0 rfl rfl 4 (by decide) (hts (.fieldLink RX5 44 "InvaderBoardModel" "sp" "I") (by decide +kernel)) (fun _ h9 => h9) rfl dX5_push_24 ?_
  refine lv_iconst (v := 1) hx hb dX5_push_27 (by decide) ?_
  refine lv_iadd hx hb dX5_push_28 ?_
  refine lv_ldc (v := 65535) hx hb hown (hts (.constant RX5 32 65535) (by decide +kernel)) dX5_push_29 ?_
  refine lv_iand hx hb dX5_push_31 ?_
  refine lv_iload_n hx hb dX5_push_32 rfl (lv_at hl 1 rfl) ?_
  refine lv_bipush (v := 8) hx hb dX5_push_33 (by decide) ?_
  refine lv_ishr hx hb dX5_push_35 ?_
  refine KC.callv (ci := 5) (rest := []) (wt := wR cI o (upd f 0 (((f 0) - (2 : Int32)) &&& (65535 : Int32))) (ua (ua a 1 (rWrite (upd f 0 (((f 0) - (2 : Int32)) &&& (65535 : Int32))) a (((f 0) - (2 : Int32)) &&& (65535 : Int32)) p1)) 1 (rWrite (upd f 0 (((f 0) - (2 : Int32)) &&& (65535 : Int32))) (ua a 1 (rWrite (upd f 0 (((f 0) - (2 : Int32)) &&& (65535 : Int32))) a (((f 0) - (2 : Int32)) &&& (65535 : Int32)) p1)) (((((f 0) - (2 : Int32)) &&& (65535 : Int32)) + (1 : Int32)) &&& (65535 : Int32)) (p1 >>> ((8 : Int32) &&& 31))))) (kX5_write l D cI o (upd f 0 (((f 0) - (2 : Int32)) &&& (65535 : Int32))) (ua a 1 (rWrite (upd f 0 (((f 0) - (2 : Int32)) &&& (65535 : Int32))) a (((f 0) - (2 : Int32)) &&& (65535 : Int32)) p1)) (((((f 0) - (2 : Int32)) &&& (65535 : Int32)) + (1 : Int32)) &&& (65535 : Int32)) (p1 >>> ((8 : Int32) &&& 31))) (cwV 2 hts gX5_push_X5_write rfl rfl rfl (by decide +kernel) ⟨Nat.le_of_ble_eq_true rfl, Nat.le_of_ble_eq_true rfl⟩) ⟨hx, hb, hml, hown, hts⟩ hK hP hD hS hA rfl rfl rfl [0, 1, 2, 3, 4, 5, 6] [] [0, 1, 2, 3, 4, 5, 6] (by decide) rfl (wr := []) rfl (by decide) (by decide) (by decide) rfl rfl hl.1 rfl (Nat.le_of_ble_eq_true rfl) dX5_push_36 ⟨Nat.zero_le _, Nat.zero_le _⟩ (fun H locs hP hD hS => ?_)
  have hF : rPush f a p1 = (upd f 0 (((f 0) - (2 : Int32)) &&& (65535 : Int32)), ua (ua a 1 (rWrite (upd f 0 (((f 0) - (2 : Int32)) &&& (65535 : Int32))) a (((f 0) - (2 : Int32)) &&& (65535 : Int32)) p1)) 1 (rWrite (upd f 0 (((f 0) - (2 : Int32)) &&& (65535 : Int32))) (ua a 1 (rWrite (upd f 0 (((f 0) - (2 : Int32)) &&& (65535 : Int32))) a (((f 0) - (2 : Int32)) &&& (65535 : Int32)) p1)) (((((f 0) - (2 : Int32)) &&& (65535 : Int32)) + (1 : Int32)) &&& (65535 : Int32)) (p1 >>> ((8 : Int32) &&& 31)))) := rfl
  rw [hF]
  exact KC.retv hx hb hr hlocks hK hP hD hS dX5_push_39
def rPop (f : Nat → Int32) (a : Nat → Nat → Int32)  : Int32 × (Nat → Int32) :=
  ((rRead f a (f 0)) ||| ((rRead f a (((f 0) + (1 : Int32)) &&& (65535 : Int32))) <<< ((8 : Int32) &&& 31)), upd f 0 (((f 0) + (2 : Int32)) &&& (65535 : Int32)))
set_option maxHeartbeats 4000000 in
set_option maxRecDepth 100000 in
theorem kX5_pop (l : Launch) (D : va_G) (cI : ClassId) (o : Nat → Nat) (f : Nat → Int32) (a : Nat → Nat → Int32)  : KC l yX5_pop wsX5_pop 1 [.ref (o 20)] D cI (wR cI o f a) (wR cI o ((rPop f a).2) a) (some (.int (rPop f a).1)) := by
  refine KC.of (cc := cX5_pop) (maxL := 2) (by decide) rfl (Nat.le_of_ble_eq_true rfl) ?_
  intro p e s m below meth c A hx hb hr hts hown hlocks hml hK hP hD hS hA ls hl
  have hl : lv_has ls 2 [(0, .ref (o 20))] := hl
  have hown : s.vm.findClass RX5 = some m.cls := hown
  have hi5 : ∀ w ∈ u_ws RX5 TX5 24, w ∈ wsX5_pop := by decide +kernel
  refine lv_aload_n hx hb dX5_pop_0 rfl (lv_at hl 0 rfl) ?_
  refine lv_aload_n hx hb dX5_pop_1 rfl (lv_at hl 0 rfl) ?_
  refine va_get (ci := 5) (v := .int (f 0)) (C := RX5) (T := TX5) (N := 24) hx hb hts hi5 hown hK hP 0 rfl rfl 4 (by decide) (hts (.fieldLink RX5 44 "InvaderBoardModel" "sp" "I") (by decide +kernel)) (fun _ h9 => h9) rfl dX5_pop_2 ?_
  refine KC.calli (ci := 5) (rest := []) (wt := wR cI o f a) (kX5_read l D cI o f a (f 0)) (cwV 1 hts gX5_pop_X5_read rfl rfl rfl (by decide +kernel) ⟨Nat.le_of_ble_eq_true rfl, Nat.le_of_ble_eq_true rfl⟩) ⟨hx, hb, hml, hown, hts⟩ hK hP hD hS hA rfl rfl rfl [0, 1, 2, 3, 4, 5, 6] [] [0, 1, 2, 3, 4, 5, 6] (by decide) rfl (wr := []) rfl (by decide) (by decide) (by decide) rfl rfl hl.1 rfl (Nat.le_of_ble_eq_true rfl) dX5_pop_5 ⟨Nat.zero_le _, Nat.zero_le _⟩ (fun H locs hP hD hS => ?_)
  refine lv_aload_n hx hb dX5_pop_8 rfl (lv_at hl 0 rfl) ?_
  refine lv_aload_n hx hb dX5_pop_9 rfl (lv_at hl 0 rfl) ?_
  refine va_get (ci := 5) (v := .int (f 0)) (C := RX5) (T := TX5) (N := 24) hx hb hts hi5 hown hK hP 0 rfl rfl 4 (by decide) (hts (.fieldLink RX5 44 "InvaderBoardModel" "sp" "I") (by decide +kernel)) (fun _ h9 => h9) rfl dX5_pop_10 ?_
  refine lv_iconst (v := 1) hx hb dX5_pop_13 (by decide) ?_
  refine lv_iadd hx hb dX5_pop_14 ?_
  refine lv_ldc (v := 65535) hx hb hown (hts (.constant RX5 32 65535) (by decide +kernel)) dX5_pop_15 ?_
  refine lv_iand hx hb dX5_pop_17 ?_
  refine KC.calli (ci := 5) (rest := [.int (rRead f a (f 0))]) (wt := wR cI o f a) (kX5_read l D cI o f a (((f 0) + (1 : Int32)) &&& (65535 : Int32))) (cwV 1 hts gX5_pop_X5_read rfl rfl rfl (by decide +kernel) ⟨Nat.le_of_ble_eq_true rfl, Nat.le_of_ble_eq_true rfl⟩) ⟨hx, hb, hml, hown, hts⟩ hK hP hD hS hA rfl rfl rfl [0, 1, 2, 3, 4, 5, 6] [] [0, 1, 2, 3, 4, 5, 6] (by decide) rfl (wr := []) rfl (by decide) (by decide) (by decide) rfl rfl hl.1 rfl (Nat.le_of_ble_eq_true rfl) dX5_pop_18 ⟨Nat.zero_le _, Nat.zero_le _⟩ (fun H locs hP hD hS => ?_)
  refine lv_bipush (v := 8) hx hb dX5_pop_21 (by decide) ?_
  refine lv_ishl hx hb dX5_pop_23 ?_
  refine lv_ior hx hb dX5_pop_24 ?_
  refine lv_istore_n (lv' := [(1, .int _), (0, .ref _)]) hx hb dX5_pop_25 rfl hl (by decide) rfl (fun ls hl => ?_)
  refine lv_aload_n hx hb dX5_pop_26 rfl (lv_at hl 1 rfl) ?_
  refine lv_aload_n hx hb dX5_pop_27 rfl (lv_at hl 1 rfl) ?_
  refine va_get (ci := 5) (v := .int (f 0)) (C := RX5) (T := TX5) (N := 24) hx hb hts hi5 hown hK hP 0 rfl rfl 4 (by decide) (hts (.fieldLink RX5 44 "InvaderBoardModel" "sp" "I") (by decide +kernel)) (fun _ h9 => h9) rfl dX5_pop_28 ?_
  refine lv_iconst (v := 2) hx hb dX5_pop_31 (by decide) ?_
  refine lv_iadd hx hb dX5_pop_32 ?_
  refine lv_ldc (v := 65535) hx hb hown (hts (.constant RX5 32 65535) (by decide +kernel)) dX5_pop_33 ?_
  refine lv_iand hx hb dX5_pop_35 ?_
  refine pu_R_f0 (v := ((f 0) + (2 : Int32)) &&& (65535 : Int32)) hx hb hts hi5 hown hK hP hD hS (hts (.fieldLink RX5 44 "InvaderBoardModel" "sp" "I") (by decide +kernel)) dX5_pop_36 (fun H locs hP hD hS => ?_)
  refine lv_iload_n hx hb dX5_pop_39 rfl (lv_at hl 0 rfl) ?_
  have hF : rPop f a = ((rRead f a (f 0)) ||| ((rRead f a (((f 0) + (1 : Int32)) &&& (65535 : Int32))) <<< ((8 : Int32) &&& 31)), upd f 0 (((f 0) + (2 : Int32)) &&& (65535 : Int32))) := rfl
  rw [hF]
  exact KC.reti hx hb hr hlocks hK hP hD hS dX5_pop_40 rfl
def rHl (f : Nat → Int32) (a : Nat → Nat → Int32)  : Int32 :=
  (((a 2) (4 : Int32).toNatClampNeg) <<< ((8 : Int32) &&& 31)) ||| ((a 2) (5 : Int32).toNatClampNeg)
set_option maxHeartbeats 4000000 in
set_option maxRecDepth 100000 in
theorem kX5_hl (l : Launch) (D : va_G) (cI : ClassId) (o : Nat → Nat) (f : Nat → Int32) (a : Nat → Nat → Int32)  : KC l yX5_hl wsX5_hl 0 [.ref (o 20)] D cI (wR cI o f a) (wR cI o f a) (some (.int (rHl f a))) := by
  refine KC.of (cc := cX5_hl) (maxL := 1) (by decide) rfl (Nat.le_of_ble_eq_true rfl) ?_
  intro p e s m below meth c A hx hb hr hts hown hlocks hml hK hP hD hS hA ls hl
  have hl : lv_has ls 1 [(0, .ref (o 20))] := hl
  have hown : s.vm.findClass RX5 = some m.cls := hown
  have hi5 : ∀ w ∈ u_ws RX5 TX5 24, w ∈ wsX5_hl := by decide +kernel
  refine lv_aload_n hx hb dX5_hl_0 rfl (lv_at hl 0 rfl) ?_
  refine va_get (ci := 5) (v := .ref (o 23)) (C := RX5) (T := TX5) (N := 24) hx hb hts hi5 hown hK hP 0 rfl rfl 3 (by decide) (hts (.fieldLink RX5 16 "InvaderBoardModel" "reg" "[I") (by decide +kernel)) (fun _ h9 => h9) rfl dX5_hl_1 ?_
  refine lv_iconst (v := 4) hx hb dX5_hl_4 (by decide) ?_
  refine va_iald (f := a 2) hx hb hK hP 3 0 rfl rfl (by unfold vp_in; decide) dX5_hl_5 ?_
  refine lv_bipush (v := 8) hx hb dX5_hl_6 (by decide) ?_
  refine lv_ishl hx hb dX5_hl_8 ?_
  refine lv_aload_n hx hb dX5_hl_9 rfl (lv_at hl 0 rfl) ?_
  refine va_get (ci := 5) (v := .ref (o 23)) (C := RX5) (T := TX5) (N := 24) hx hb hts hi5 hown hK hP 0 rfl rfl 3 (by decide) (hts (.fieldLink RX5 16 "InvaderBoardModel" "reg" "[I") (by decide +kernel)) (fun _ h9 => h9) rfl dX5_hl_10 ?_
  refine lv_iconst (v := 5) hx hb dX5_hl_13 (by decide) ?_
  refine va_iald (f := a 2) hx hb hK hP 3 0 rfl rfl (by unfold vp_in; decide) dX5_hl_14 ?_
  refine lv_ior hx hb dX5_hl_15 ?_
  have hF : rHl f a = (((a 2) (4 : Int32).toNatClampNeg) <<< ((8 : Int32) &&& 31)) ||| ((a 2) (5 : Int32).toNatClampNeg) := rfl
  rw [hF]
  exact KC.reti hx hb hr hlocks hK hP hD hS dX5_hl_16 rfl
def rGet (f : Nat → Int32) (a : Nat → Nat → Int32) (p1 : Int32) : Int32 :=
  if p1 = (6 : Int32) then rRead f a (rHl f a)
  else (a 2) p1.toNatClampNeg
set_option maxHeartbeats 4000000 in
set_option maxRecDepth 100000 in
theorem kX5_get (l : Launch) (D : va_G) (cI : ClassId) (o : Nat → Nat) (f : Nat → Int32) (a : Nat → Nat → Int32) (p1 : Int32) (h1 : vp_in p1 8) : KC l yX5_get wsX5_get 1 [.ref (o 20), .int p1] D cI (wR cI o f a) (wR cI o f a) (some (.int (rGet f a p1))) := by
  refine KC.of (cc := cX5_get) (maxL := 2) (by decide) rfl (Nat.le_of_ble_eq_true rfl) ?_
  intro p e s m below meth c A hx hb hr hts hown hlocks hml hK hP hD hS hA ls hl
  have hl : lv_has ls 2 [(0, .ref (o 20)), (1, .int p1)] := hl
  have hown : s.vm.findClass RX5 = some m.cls := hown
  have hi5 : ∀ w ∈ u_ws RX5 TX5 24, w ∈ wsX5_get := by decide +kernel
  refine lv_iload_n hx hb dX5_get_0 rfl (lv_at hl 1 rfl) ?_
  refine lv_bipush (v := 6) hx hb dX5_get_1 (by decide) ?_
  refine lv_icmp_ne (tgt := 17) hx hb dX5_get_3 (by decide) (fun c_1 => ?_) (fun c_1 => ?_)
  · refine lv_aload_n hx hb dX5_get_17 rfl (lv_at hl 0 rfl) ?_
    refine va_get (ci := 5) (v := .ref (o 23)) (C := RX5) (T := TX5) (N := 24) hx hb hts hi5 hown hK hP 0 rfl rfl 3 (by decide) (hts (.fieldLink RX5 16 "InvaderBoardModel" "reg" "[I") (by decide +kernel)) (fun _ h9 => h9) rfl dX5_get_18 ?_
    refine lv_iload_n hx hb dX5_get_21 rfl (lv_at hl 1 rfl) ?_
    refine va_iald (f := a 2) hx hb hK hP 3 0 rfl rfl (by first | assumption | exact h1 | exact xin_low _ (by assumption) | exact xin_rom (by assumption) | exact xin_p2 h1 (by assumption) | exact xin_p21 h1 (by assumption) | exact xin 8 (by decide) (by assumption) (by assumption) | exact xin_le 7 (by decide) (by assumption) (by assumption) | exact xin_bit h1 h2) dX5_get_22 ?_
    have hF : rGet f a p1 = (a 2) p1.toNatClampNeg := by simp only [rGet, if_neg c_1]
    rw [hF]
    exact KC.reti hx hb hr hlocks hK hP hD hS dX5_get_23 rfl
  · refine lv_aload_n hx hb dX5_get_6 rfl (lv_at hl 0 rfl) ?_
    refine lv_aload_n hx hb dX5_get_7 rfl (lv_at hl 0 rfl) ?_
    refine KC.calli (ci := 5) (rest := [.ref (o 20)]) (wt := wR cI o f a) (kX5_hl l D cI o f a) (cwV 0 hts gX5_get_X5_hl rfl rfl rfl (by decide +kernel) ⟨Nat.le_of_ble_eq_true rfl, Nat.le_of_ble_eq_true rfl⟩) ⟨hx, hb, hml, hown, hts⟩ hK hP hD hS hA rfl rfl rfl [0, 1, 2, 3, 4, 5, 6] [] [0, 1, 2, 3, 4, 5, 6] (by decide) rfl (wr := []) rfl (by decide) (by decide) (by decide) rfl rfl hl.1 rfl (Nat.le_of_ble_eq_true rfl) dX5_get_8 ⟨Nat.zero_le _, Nat.zero_le _⟩ (fun H locs hP hD hS => ?_)
    refine KC.calli (ci := 5) (rest := []) (wt := wR cI o f a) (kX5_read l D cI o f a (rHl f a)) (cwV 1 hts gX5_get_X5_read rfl rfl rfl (by decide +kernel) ⟨Nat.le_of_ble_eq_true rfl, Nat.le_of_ble_eq_true rfl⟩) ⟨hx, hb, hml, hown, hts⟩ hK hP hD hS hA rfl rfl rfl [0, 1, 2, 3, 4, 5, 6] [] [0, 1, 2, 3, 4, 5, 6] (by decide) rfl (wr := []) rfl (by decide) (by decide) (by decide) rfl rfl hl.1 rfl (Nat.le_of_ble_eq_true rfl) dX5_get_11 ⟨Nat.zero_le _, Nat.zero_le _⟩ (fun H locs hP hD hS => ?_)
    refine lv_goto (tgt := 23) hx hb dX5_get_14 (by decide) ?_
    have hF : rGet f a p1 = rRead f a (rHl f a) := by simp only [rGet, if_pos c_1]
    rw [hF]
    exact KC.reti hx hb hr hlocks hK hP hD hS dX5_get_23 rfl
def rSet (f : Nat → Int32) (a : Nat → Nat → Int32) (p1 : Int32) (p2 : Int32) : (Nat → Nat → Int32) :=
  if p1 = (6 : Int32) then ua a 1 (rWrite f a (rHl f a) p2)
  else ua a 2 (upd (a 2) p1.toNatClampNeg (p2 &&& (255 : Int32)))
set_option maxHeartbeats 4000000 in
set_option maxRecDepth 100000 in
theorem kX5_set (l : Launch) (D : va_G) (cI : ClassId) (o : Nat → Nat) (f : Nat → Int32) (a : Nat → Nat → Int32) (p1 : Int32) (p2 : Int32) (h1 : vp_in p1 8) : KC l yX5_set wsX5_set 1 [.ref (o 20), .int p1, .int p2] D cI (wR cI o f a) (wR cI o f (rSet f a p1 p2)) none := by
  refine KC.of (cc := cX5_set) (maxL := 3) (by decide) rfl (Nat.le_of_ble_eq_true rfl) ?_
  intro p e s m below meth c A hx hb hr hts hown hlocks hml hK hP hD hS hA ls hl
  have hl : lv_has ls 3 [(0, .ref (o 20)), (1, .int p1), (2, .int p2)] := hl
  have hown : s.vm.findClass RX5 = some m.cls := hown
  have hi5 : ∀ w ∈ u_ws RX5 TX5 24, w ∈ wsX5_set := by decide +kernel
  refine lv_iload_n hx hb dX5_set_0 rfl (lv_at hl 1 rfl) ?_
  refine lv_bipush (v := 6) hx hb dX5_set_1 (by decide) ?_
  refine lv_icmp_ne (tgt := 18) hx hb dX5_set_3 (by decide) (fun c_1 => ?_) (fun c_1 => ?_)
  · refine lv_aload_n hx hb dX5_set_18 rfl (lv_at hl 0 rfl) ?_
    refine va_get (ci := 5) (v := .ref (o 23)) (C := RX5) (T := TX5) (N := 24) hx hb hts hi5 hown hK hP 0 rfl rfl 3 (by decide) (hts (.fieldLink RX5 16 "InvaderBoardModel" "reg" "[I") (by decide +kernel)) (fun _ h9 => h9) rfl dX5_set_19 ?_
    refine lv_iload_n hx hb dX5_set_22 rfl (lv_at hl 1 rfl) ?_
    refine lv_iload_n hx hb dX5_set_23 rfl (lv_at hl 2 rfl) ?_
    refine lv_sipush (v := 255) hx hb dX5_set_24 (by decide) ?_
    refine lv_iand hx hb dX5_set_27 ?_
    refine pu_R_a2 hx hb hK hP hD hS (by first | assumption | exact h1 | exact xin_low _ (by assumption) | exact xin_rom (by assumption) | exact xin_p2 h1 (by assumption) | exact xin_p21 h1 (by assumption) | exact xin 8 (by decide) (by assumption) (by assumption) | exact xin_le 7 (by decide) (by assumption) (by assumption) | exact xin_bit h1 h2) dX5_set_28 (fun H locs hP hD hS => ?_)
    have hF : rSet f a p1 p2 = ua a 2 (upd (a 2) p1.toNatClampNeg (p2 &&& (255 : Int32))) := by simp only [rSet, if_neg c_1]
    rw [hF]
    exact KC.retv hx hb hr hlocks hK hP hD hS dX5_set_29
  · refine lv_aload_n hx hb dX5_set_6 rfl (lv_at hl 0 rfl) ?_
    refine lv_aload_n hx hb dX5_set_7 rfl (lv_at hl 0 rfl) ?_
    refine KC.calli (ci := 5) (rest := [.ref (o 20)]) (wt := wR cI o f a) (kX5_hl l D cI o f a) (cwV 0 hts gX5_set_X5_hl rfl rfl rfl (by decide +kernel) ⟨Nat.le_of_ble_eq_true rfl, Nat.le_of_ble_eq_true rfl⟩) ⟨hx, hb, hml, hown, hts⟩ hK hP hD hS hA rfl rfl rfl [0, 1, 2, 3, 4, 5, 6] [] [0, 1, 2, 3, 4, 5, 6] (by decide) rfl (wr := []) rfl (by decide) (by decide) (by decide) rfl rfl hl.1 rfl (Nat.le_of_ble_eq_true rfl) dX5_set_8 ⟨Nat.zero_le _, Nat.zero_le _⟩ (fun H locs hP hD hS => ?_)
    refine lv_iload_n hx hb dX5_set_11 rfl (lv_at hl 2 rfl) ?_
    refine KC.callv (ci := 5) (rest := []) (wt := wR cI o f (ua a 1 (rWrite f a (rHl f a) p2))) (kX5_write l D cI o f a (rHl f a) p2) (cwV 2 hts gX5_set_X5_write rfl rfl rfl (by decide +kernel) ⟨Nat.le_of_ble_eq_true rfl, Nat.le_of_ble_eq_true rfl⟩) ⟨hx, hb, hml, hown, hts⟩ hK hP hD hS hA rfl rfl rfl [0, 1, 2, 3, 4, 5, 6] [] [0, 1, 2, 3, 4, 5, 6] (by decide) rfl (wr := []) rfl (by decide) (by decide) (by decide) rfl rfl hl.1 rfl (Nat.le_of_ble_eq_true rfl) dX5_set_12 ⟨Nat.zero_le _, Nat.zero_le _⟩ (fun H locs hP hD hS => ?_)
    refine lv_goto (tgt := 29) hx hb dX5_set_15 (by decide) ?_
    have hF : rSet f a p1 p2 = ua a 1 (rWrite f a (rHl f a) p2) := by simp only [rSet, if_pos c_1]
    rw [hF]
    exact KC.retv hx hb hr hlocks hK hP hD hS dX5_set_29
def rPair (f : Nat → Int32) (a : Nat → Nat → Int32) (p1 : Int32) : Int32 :=
  if p1 = (3 : Int32) then f 0
  else (((a 2) ((2 : Int32) * p1).toNatClampNeg) <<< ((8 : Int32) &&& 31)) ||| ((a 2) (((2 : Int32) * p1) + (1 : Int32)).toNatClampNeg)
set_option maxHeartbeats 4000000 in
set_option maxRecDepth 100000 in
theorem kX5_pair (l : Launch) (D : va_G) (cI : ClassId) (o : Nat → Nat) (f : Nat → Int32) (a : Nat → Nat → Int32) (p1 : Int32) (h1 : vp_in p1 4) : KC l yX5_pair wsX5_pair 0 [.ref (o 20), .int p1] D cI (wR cI o f a) (wR cI o f a) (some (.int (rPair f a p1))) := by
  refine KC.of (cc := cX5_pair) (maxL := 2) (by decide) rfl (Nat.le_of_ble_eq_true rfl) ?_
  intro p e s m below meth c A hx hb hr hts hown hlocks hml hK hP hD hS hA ls hl
  have hl : lv_has ls 2 [(0, .ref (o 20)), (1, .int p1)] := hl
  have hown : s.vm.findClass RX5 = some m.cls := hown
  have hi5 : ∀ w ∈ u_ws RX5 TX5 24, w ∈ wsX5_pair := by decide +kernel
  refine lv_iload_n hx hb dX5_pair_0 rfl (lv_at hl 1 rfl) ?_
  refine lv_iconst (v := 3) hx hb dX5_pair_1 (by decide) ?_
  refine lv_icmp_ne (tgt := 12) hx hb dX5_pair_2 (by decide) (fun c_1 => ?_) (fun c_1 => ?_)
  · refine lv_aload_n hx hb dX5_pair_12 rfl (lv_at hl 0 rfl) ?_
    refine va_get (ci := 5) (v := .ref (o 23)) (C := RX5) (T := TX5) (N := 24) hx hb hts hi5 hown hK hP 0 rfl rfl 3 (by decide) (hts (.fieldLink RX5 16 "InvaderBoardModel" "reg" "[I") (by decide +kernel)) (fun _ h9 => h9) rfl dX5_pair_13 ?_
    refine lv_iconst (v := 2) hx hb dX5_pair_16 (by decide) ?_
    refine lv_iload_n hx hb dX5_pair_17 rfl (lv_at hl 1 rfl) ?_
    refine lv_imul hx hb dX5_pair_18 ?_
    refine va_iald (f := a 2) hx hb hK hP 3 0 rfl rfl (by first | assumption | exact h1 | exact xin_low _ (by assumption) | exact xin_rom (by assumption) | exact xin_p2 h1 (by assumption) | exact xin_p21 h1 (by assumption) | exact xin 8 (by decide) (by assumption) (by assumption) | exact xin_le 7 (by decide) (by assumption) (by assumption) | exact xin_bit h1 h2) dX5_pair_19 ?_
    refine lv_bipush (v := 8) hx hb dX5_pair_20 (by decide) ?_
    refine lv_ishl hx hb dX5_pair_22 ?_
    refine lv_aload_n hx hb dX5_pair_23 rfl (lv_at hl 0 rfl) ?_
    refine va_get (ci := 5) (v := .ref (o 23)) (C := RX5) (T := TX5) (N := 24) hx hb hts hi5 hown hK hP 0 rfl rfl 3 (by decide) (hts (.fieldLink RX5 16 "InvaderBoardModel" "reg" "[I") (by decide +kernel)) (fun _ h9 => h9) rfl dX5_pair_24 ?_
    refine lv_iconst (v := 2) hx hb dX5_pair_27 (by decide) ?_
    refine lv_iload_n hx hb dX5_pair_28 rfl (lv_at hl 1 rfl) ?_
    refine lv_imul hx hb dX5_pair_29 ?_
    refine lv_iconst (v := 1) hx hb dX5_pair_30 (by decide) ?_
    refine lv_iadd hx hb dX5_pair_31 ?_
    refine va_iald (f := a 2) hx hb hK hP 3 0 rfl rfl (by first | assumption | exact h1 | exact xin_low _ (by assumption) | exact xin_rom (by assumption) | exact xin_p2 h1 (by assumption) | exact xin_p21 h1 (by assumption) | exact xin 8 (by decide) (by assumption) (by assumption) | exact xin_le 7 (by decide) (by assumption) (by assumption) | exact xin_bit h1 h2) dX5_pair_32 ?_
    refine lv_ior hx hb dX5_pair_33 ?_
    have hF : rPair f a p1 = (((a 2) ((2 : Int32) * p1).toNatClampNeg) <<< ((8 : Int32) &&& 31)) ||| ((a 2) (((2 : Int32) * p1) + (1 : Int32)).toNatClampNeg) := by simp only [rPair, if_neg c_1]
    rw [hF]
    exact KC.reti hx hb hr hlocks hK hP hD hS dX5_pair_34 rfl
  · refine lv_aload_n hx hb dX5_pair_5 rfl (lv_at hl 0 rfl) ?_
    refine va_get (ci := 5) (v := .int (f 0)) (C := RX5) (T := TX5) (N := 24) hx hb hts hi5 hown hK hP 0 rfl rfl 4 (by decide) (hts (.fieldLink RX5 44 "InvaderBoardModel" "sp" "I") (by decide +kernel)) (fun _ h9 => h9) rfl dX5_pair_6 ?_
    refine lv_goto (tgt := 34) hx hb dX5_pair_9 (by decide) ?_
    have hF : rPair f a p1 = f 0 := by simp only [rPair, if_pos c_1]
    rw [hF]
    exact KC.reti hx hb hr hlocks hK hP hD hS dX5_pair_34 rfl
def rSetPair (f : Nat → Int32) (a : Nat → Nat → Int32) (p1 : Int32) (p2 : Int32) : (Nat → Int32) × (Nat → Nat → Int32) :=
  if p1 = (3 : Int32) then (upd f 0 (p2 &&& (65535 : Int32)), a)
  else (f, ua (ua a 2 (upd (a 2) ((2 : Int32) * p1).toNatClampNeg ((p2 >>> ((8 : Int32) &&& 31)) &&& (255 : Int32)))) 2 (upd (upd (a 2) ((2 : Int32) * p1).toNatClampNeg ((p2 >>> ((8 : Int32) &&& 31)) &&& (255 : Int32))) (((2 : Int32) * p1) + (1 : Int32)).toNatClampNeg (p2 &&& (255 : Int32))))
set_option maxHeartbeats 4000000 in
set_option maxRecDepth 100000 in
theorem kX5_setPair (l : Launch) (D : va_G) (cI : ClassId) (o : Nat → Nat) (f : Nat → Int32) (a : Nat → Nat → Int32) (p1 : Int32) (p2 : Int32) (h1 : vp_in p1 4) : KC l yX5_setPair wsX5_setPair 0 [.ref (o 20), .int p1, .int p2] D cI (wR cI o f a) (wR cI o ((rSetPair f a p1 p2).1) ((rSetPair f a p1 p2).2)) none := by
  refine KC.of (cc := cX5_setPair) (maxL := 3) (by decide) rfl (Nat.le_of_ble_eq_true rfl) ?_
  intro p e s m below meth c A hx hb hr hts hown hlocks hml hK hP hD hS hA ls hl
  have hl : lv_has ls 3 [(0, .ref (o 20)), (1, .int p1), (2, .int p2)] := hl
  have hown : s.vm.findClass RX5 = some m.cls := hown
  have hi5 : ∀ w ∈ u_ws RX5 TX5 24, w ∈ wsX5_setPair := by decide +kernel
  refine lv_iload_n hx hb dX5_setPair_0 rfl (lv_at hl 1 rfl) ?_
  refine lv_iconst (v := 3) hx hb dX5_setPair_1 (by decide) ?_
  refine lv_icmp_ne (tgt := 16) hx hb dX5_setPair_2 (by decide) (fun c_1 => ?_) (fun c_1 => ?_)
  · refine lv_aload_n hx hb dX5_setPair_16 rfl (lv_at hl 0 rfl) ?_
    refine va_get (ci := 5) (v := .ref (o 23)) (C := RX5) (T := TX5) (N := 24) hx hb hts hi5 hown hK hP 0 rfl rfl 3 (by decide) (hts (.fieldLink RX5 16 "InvaderBoardModel" "reg" "[I") (by decide +kernel)) (fun _ h9 => h9) rfl dX5_setPair_17 ?_
    refine lv_iconst (v := 2) hx hb dX5_setPair_20 (by decide) ?_
    refine lv_iload_n hx hb dX5_setPair_21 rfl (lv_at hl 1 rfl) ?_
    refine lv_imul hx hb dX5_setPair_22 ?_
    refine lv_iload_n hx hb dX5_setPair_23 rfl (lv_at hl 2 rfl) ?_
    refine lv_bipush (v := 8) hx hb dX5_setPair_24 (by decide) ?_
    refine lv_ishr hx hb dX5_setPair_26 ?_
    refine lv_sipush (v := 255) hx hb dX5_setPair_27 (by decide) ?_
    refine lv_iand hx hb dX5_setPair_30 ?_
    refine pu_R_a2 hx hb hK hP hD hS (by first | assumption | exact h1 | exact xin_low _ (by assumption) | exact xin_rom (by assumption) | exact xin_p2 h1 (by assumption) | exact xin_p21 h1 (by assumption) | exact xin 8 (by decide) (by assumption) (by assumption) | exact xin_le 7 (by decide) (by assumption) (by assumption) | exact xin_bit h1 h2) dX5_setPair_31 (fun H locs hP hD hS => ?_)
    refine lv_aload_n hx hb dX5_setPair_32 rfl (lv_at hl 0 rfl) ?_
    refine va_get (ci := 5) (v := .ref (o 23)) (C := RX5) (T := TX5) (N := 24) hx hb hts hi5 hown hK hP 0 rfl rfl 3 (by decide) (hts (.fieldLink RX5 16 "InvaderBoardModel" "reg" "[I") (by decide +kernel)) (fun _ h9 => h9) rfl dX5_setPair_33 ?_
    refine lv_iconst (v := 2) hx hb dX5_setPair_36 (by decide) ?_
    refine lv_iload_n hx hb dX5_setPair_37 rfl (lv_at hl 1 rfl) ?_
    refine lv_imul hx hb dX5_setPair_38 ?_
    refine lv_iconst (v := 1) hx hb dX5_setPair_39 (by decide) ?_
    refine lv_iadd hx hb dX5_setPair_40 ?_
    refine lv_iload_n hx hb dX5_setPair_41 rfl (lv_at hl 2 rfl) ?_
    refine lv_sipush (v := 255) hx hb dX5_setPair_42 (by decide) ?_
    refine lv_iand hx hb dX5_setPair_45 ?_
    refine pu_R_a2 hx hb hK hP hD hS (by first | assumption | exact h1 | exact xin_low _ (by assumption) | exact xin_rom (by assumption) | exact xin_p2 h1 (by assumption) | exact xin_p21 h1 (by assumption) | exact xin 8 (by decide) (by assumption) (by assumption) | exact xin_le 7 (by decide) (by assumption) (by assumption) | exact xin_bit h1 h2) dX5_setPair_46 (fun H locs hP hD hS => ?_)
    have hP : va_P D vwCl (wR cI o f (ua (ua a 2 (upd (a 2) ((2 : Int32) * p1).toNatClampNeg ((p2 >>> ((8 : Int32) &&& 31)) &&& (255 : Int32)))) 2 (upd (upd (a 2) ((2 : Int32) * p1).toNatClampNeg ((p2 >>> ((8 : Int32) &&& 31)) &&& (255 : Int32))) (((2 : Int32) * p1) + (1 : Int32)).toNatClampNeg (p2 &&& (255 : Int32))))) H := hP
    have hD : va_D A (wR cI o f (ua (ua a 2 (upd (a 2) ((2 : Int32) * p1).toNatClampNeg ((p2 >>> ((8 : Int32) &&& 31)) &&& (255 : Int32)))) 2 (upd (upd (a 2) ((2 : Int32) * p1).toNatClampNeg ((p2 >>> ((8 : Int32) &&& 31)) &&& (255 : Int32))) (((2 : Int32) * p1) + (1 : Int32)).toNatClampNeg (p2 &&& (255 : Int32))))) := hD
    have hF : rSetPair f a p1 p2 = (f, ua (ua a 2 (upd (a 2) ((2 : Int32) * p1).toNatClampNeg ((p2 >>> ((8 : Int32) &&& 31)) &&& (255 : Int32)))) 2 (upd (upd (a 2) ((2 : Int32) * p1).toNatClampNeg ((p2 >>> ((8 : Int32) &&& 31)) &&& (255 : Int32))) (((2 : Int32) * p1) + (1 : Int32)).toNatClampNeg (p2 &&& (255 : Int32)))) := by simp only [rSetPair, if_neg c_1]
    rw [hF]
    exact KC.retv hx hb hr hlocks hK hP hD hS dX5_setPair_47
  · refine lv_aload_n hx hb dX5_setPair_5 rfl (lv_at hl 0 rfl) ?_
    refine lv_iload_n hx hb dX5_setPair_6 rfl (lv_at hl 2 rfl) ?_
    refine lv_ldc (v := 65535) hx hb hown (hts (.constant RX5 32 65535) (by decide +kernel)) dX5_setPair_7 ?_
    refine lv_iand hx hb dX5_setPair_9 ?_
    refine pu_R_f0 (v := p2 &&& (65535 : Int32)) hx hb hts hi5 hown hK hP hD hS (hts (.fieldLink RX5 44 "InvaderBoardModel" "sp" "I") (by decide +kernel)) dX5_setPair_10 (fun H locs hP hD hS => ?_)
    refine lv_goto (tgt := 47) hx hb dX5_setPair_13 (by decide) ?_
    have hF : rSetPair f a p1 p2 = (upd f 0 (p2 &&& (65535 : Int32)), a) := by simp only [rSetPair, if_pos c_1]
    rw [hF]
    exact KC.retv hx hb hr hlocks hK hP hD hS dX5_setPair_47
def rFlags (f : Nat → Int32) (a : Nat → Nat → Int32)  : Int32 :=
  ((((((f 12) <<< ((7 : Int32) &&& 31)) ||| ((f 13) <<< ((6 : Int32) &&& 31))) ||| ((f 14) <<< ((4 : Int32) &&& 31))) ||| ((f 15) <<< ((2 : Int32) &&& 31))) ||| (2 : Int32)) ||| (f 16)
set_option maxHeartbeats 4000000 in
set_option maxRecDepth 100000 in
theorem kX5_flags (l : Launch) (D : va_G) (cI : ClassId) (o : Nat → Nat) (f : Nat → Int32) (a : Nat → Nat → Int32)  : KC l yX5_flags wsX5_flags 0 [.ref (o 20)] D cI (wR cI o f a) (wR cI o f a) (some (.int (rFlags f a))) := by
  refine KC.of (cc := cX5_flags) (maxL := 1) (by decide) rfl (Nat.le_of_ble_eq_true rfl) ?_
  intro p e s m below meth c A hx hb hr hts hown hlocks hml hK hP hD hS hA ls hl
  have hl : lv_has ls 1 [(0, .ref (o 20))] := hl
  have hown : s.vm.findClass RX5 = some m.cls := hown
  have hi5 : ∀ w ∈ u_ws RX5 TX5 24, w ∈ wsX5_flags := by decide +kernel
  refine lv_aload_n hx hb dX5_flags_0 rfl (lv_at hl 0 rfl) ?_
  refine va_get (ci := 5) (v := .int (f 12)) (C := RX5) (T := TX5) (N := 24) hx hb hts hi5 hown hK hP 0 rfl rfl 6 (by decide) (hts (.fieldLink RX5 54 "InvaderBoardModel" "sign" "I") (by decide +kernel)) (fun _ h9 => h9) rfl dX5_flags_1 ?_
  refine lv_bipush (v := 7) hx hb dX5_flags_4 (by decide) ?_
  refine lv_ishl hx hb dX5_flags_6 ?_
  refine lv_aload_n hx hb dX5_flags_7 rfl (lv_at hl 0 rfl) ?_
  refine va_get (ci := 5) (v := .int (f 13)) (C := RX5) (T := TX5) (N := 24) hx hb hts hi5 hown hK hP 0 rfl rfl 7 (by decide) (hts (.fieldLink RX5 57 "InvaderBoardModel" "zero" "I") (by decide +kernel)) (fun _ h9 => h9) rfl dX5_flags_8 ?_
  refine lv_bipush (v := 6) hx hb dX5_flags_11 (by decide) ?_
  refine lv_ishl hx hb dX5_flags_13 ?_
  refine lv_ior hx hb dX5_flags_14 ?_
  refine lv_aload_n hx hb dX5_flags_15 rfl (lv_at hl 0 rfl) ?_
  refine va_get (ci := 5) (v := .int (f 14)) (C := RX5) (T := TX5) (N := 24) hx hb hts hi5 hown hK hP 0 rfl rfl 8 (by decide) (hts (.fieldLink RX5 63 "InvaderBoardModel" "half" "I") (by decide +kernel)) (fun _ h9 => h9) rfl dX5_flags_16 ?_
  refine lv_iconst (v := 4) hx hb dX5_flags_19 (by decide) ?_
  refine lv_ishl hx hb dX5_flags_20 ?_
  refine lv_ior hx hb dX5_flags_21 ?_
  refine lv_aload_n hx hb dX5_flags_22 rfl (lv_at hl 0 rfl) ?_
  refine va_get (ci := 5) (v := .int (f 15)) (C := RX5) (T := TX5) (N := 24) hx hb hts hi5 hown hK hP 0 rfl rfl 9 (by decide) (hts (.fieldLink RX5 60 "InvaderBoardModel" "parity" "I") (by decide +kernel)) (fun _ h9 => h9) rfl dX5_flags_23 ?_
  refine lv_iconst (v := 2) hx hb dX5_flags_26 (by decide) ?_
  refine lv_ishl hx hb dX5_flags_27 ?_
  refine lv_ior hx hb dX5_flags_28 ?_
  refine lv_iconst (v := 2) hx hb dX5_flags_29 (by decide) ?_
  refine lv_ior hx hb dX5_flags_30 ?_
  refine lv_aload_n hx hb dX5_flags_31 rfl (lv_at hl 0 rfl) ?_
  refine va_get (ci := 5) (v := .int (f 16)) (C := RX5) (T := TX5) (N := 24) hx hb hts hi5 hown hK hP 0 rfl rfl 10 (by decide) (hts (.fieldLink RX5 66 "InvaderBoardModel" "carry" "I") (by decide +kernel)) (fun _ h9 => h9) rfl dX5_flags_32 ?_
  refine lv_ior hx hb dX5_flags_35 ?_
  have hF : rFlags f a = ((((((f 12) <<< ((7 : Int32) &&& 31)) ||| ((f 13) <<< ((6 : Int32) &&& 31))) ||| ((f 14) <<< ((4 : Int32) &&& 31))) ||| ((f 15) <<< ((2 : Int32) &&& 31))) ||| (2 : Int32)) ||| (f 16) := rfl
  rw [hF]
  exact KC.reti hx hb hr hlocks hK hP hD hS dX5_flags_36 rfl
def rSetFlags (f : Nat → Int32) (a : Nat → Nat → Int32) (p1 : Int32) : (Nat → Int32) :=
  upd (upd (upd (upd (upd f 12 ((p1 >>> ((7 : Int32) &&& 31)) &&& (1 : Int32))) 13 ((p1 >>> ((6 : Int32) &&& 31)) &&& (1 : Int32))) 14 ((p1 >>> ((4 : Int32) &&& 31)) &&& (1 : Int32))) 15 ((p1 >>> ((2 : Int32) &&& 31)) &&& (1 : Int32))) 16 (p1 &&& (1 : Int32))
set_option maxHeartbeats 4000000 in
set_option maxRecDepth 100000 in
theorem kX5_setFlags (l : Launch) (D : va_G) (cI : ClassId) (o : Nat → Nat) (f : Nat → Int32) (a : Nat → Nat → Int32) (p1 : Int32) : KC l yX5_setFlags wsX5_setFlags 0 [.ref (o 20), .int p1] D cI (wR cI o f a) (wR cI o (rSetFlags f a p1) a) none := by
  refine KC.of (cc := cX5_setFlags) (maxL := 2) (by decide) rfl (Nat.le_of_ble_eq_true rfl) ?_
  intro p e s m below meth c A hx hb hr hts hown hlocks hml hK hP hD hS hA ls hl
  have hl : lv_has ls 2 [(0, .ref (o 20)), (1, .int p1)] := hl
  have hown : s.vm.findClass RX5 = some m.cls := hown
  have hi5 : ∀ w ∈ u_ws RX5 TX5 24, w ∈ wsX5_setFlags := by decide +kernel
  refine lv_aload_n hx hb dX5_setFlags_0 rfl (lv_at hl 0 rfl) ?_
  refine lv_iload_n hx hb dX5_setFlags_1 rfl (lv_at hl 1 rfl) ?_
  refine lv_bipush (v := 7) hx hb dX5_setFlags_2 (by decide) ?_
  refine lv_ishr hx hb dX5_setFlags_4 ?_
  refine lv_iconst (v := 1) hx hb dX5_setFlags_5 (by decide) ?_
  refine lv_iand hx hb dX5_setFlags_6 ?_
  refine pu_R_f12 (v := (p1 >>> ((7 : Int32) &&& 31)) &&& (1 : Int32)) hx hb hts hi5 hown hK hP hD hS (hts (.fieldLink RX5 54 "InvaderBoardModel" "sign" "I") (by decide +kernel)) dX5_setFlags_7 (fun H locs hP hD hS => ?_)
  refine lv_aload_n hx hb dX5_setFlags_10 rfl (lv_at hl 0 rfl) ?_
  refine lv_iload_n hx hb dX5_setFlags_11 rfl (lv_at hl 1 rfl) ?_
  refine lv_bipush (v := 6) hx hb dX5_setFlags_12 (by decide) ?_
  refine lv_ishr hx hb dX5_setFlags_14 ?_
  refine lv_iconst (v := 1) hx hb dX5_setFlags_15 (by decide) ?_
  refine lv_iand hx hb dX5_setFlags_16 ?_
  refine pu_R_f13 (v := (p1 >>> ((6 : Int32) &&& 31)) &&& (1 : Int32)) hx hb hts hi5 hown hK hP hD hS (hts (.fieldLink RX5 57 "InvaderBoardModel" "zero" "I") (by decide +kernel)) dX5_setFlags_17 (fun H locs hP hD hS => ?_)
  refine lv_aload_n hx hb dX5_setFlags_20 rfl (lv_at hl 0 rfl) ?_
  refine lv_iload_n hx hb dX5_setFlags_21 rfl (lv_at hl 1 rfl) ?_
  refine lv_iconst (v := 4) hx hb dX5_setFlags_22 (by decide) ?_
  refine lv_ishr hx hb dX5_setFlags_23 ?_
  refine lv_iconst (v := 1) hx hb dX5_setFlags_24 (by decide) ?_
  refine lv_iand hx hb dX5_setFlags_25 ?_
  refine pu_R_f14 (v := (p1 >>> ((4 : Int32) &&& 31)) &&& (1 : Int32)) hx hb hts hi5 hown hK hP hD hS (hts (.fieldLink RX5 63 "InvaderBoardModel" "half" "I") (by decide +kernel)) dX5_setFlags_26 (fun H locs hP hD hS => ?_)
  refine lv_aload_n hx hb dX5_setFlags_29 rfl (lv_at hl 0 rfl) ?_
  refine lv_iload_n hx hb dX5_setFlags_30 rfl (lv_at hl 1 rfl) ?_
  refine lv_iconst (v := 2) hx hb dX5_setFlags_31 (by decide) ?_
  refine lv_ishr hx hb dX5_setFlags_32 ?_
  refine lv_iconst (v := 1) hx hb dX5_setFlags_33 (by decide) ?_
  refine lv_iand hx hb dX5_setFlags_34 ?_
  refine pu_R_f15 (v := (p1 >>> ((2 : Int32) &&& 31)) &&& (1 : Int32)) hx hb hts hi5 hown hK hP hD hS (hts (.fieldLink RX5 60 "InvaderBoardModel" "parity" "I") (by decide +kernel)) dX5_setFlags_35 (fun H locs hP hD hS => ?_)
  refine lv_aload_n hx hb dX5_setFlags_38 rfl (lv_at hl 0 rfl) ?_
  refine lv_iload_n hx hb dX5_setFlags_39 rfl (lv_at hl 1 rfl) ?_
  refine lv_iconst (v := 1) hx hb dX5_setFlags_40 (by decide) ?_
  refine lv_iand hx hb dX5_setFlags_41 ?_
  refine pu_R_f16 (v := p1 &&& (1 : Int32)) hx hb hts hi5 hown hK hP hD hS (hts (.fieldLink RX5 66 "InvaderBoardModel" "carry" "I") (by decide +kernel)) dX5_setFlags_42 (fun H locs hP hD hS => ?_)
  have hF : rSetFlags f a p1 = upd (upd (upd (upd (upd f 12 ((p1 >>> ((7 : Int32) &&& 31)) &&& (1 : Int32))) 13 ((p1 >>> ((6 : Int32) &&& 31)) &&& (1 : Int32))) 14 ((p1 >>> ((4 : Int32) &&& 31)) &&& (1 : Int32))) 15 ((p1 >>> ((2 : Int32) &&& 31)) &&& (1 : Int32))) 16 (p1 &&& (1 : Int32)) := rfl
  rw [hF]
  exact KC.retv hx hb hr hlocks hK hP hD hS dX5_setFlags_45
def rHolds (f : Nat → Int32) (a : Nat → Nat → Int32) (p1 : Int32) : Int32 :=
  if (2 : Int32) ≤ p1 then if (4 : Int32) ≤ p1 then if (6 : Int32) ≤ p1 then if f 12 = p1 &&& (1 : Int32) then (1 : Int32)
        else (0 : Int32)
      else if f 15 = p1 &&& (1 : Int32) then (1 : Int32)
        else (0 : Int32)
    else if f 16 = p1 &&& (1 : Int32) then (1 : Int32)
      else (0 : Int32)
  else if f 13 = p1 &&& (1 : Int32) then (1 : Int32)
    else (0 : Int32)
set_option maxHeartbeats 4000000 in
set_option maxRecDepth 100000 in
theorem kX5_holds (l : Launch) (D : va_G) (cI : ClassId) (o : Nat → Nat) (f : Nat → Int32) (a : Nat → Nat → Int32) (p1 : Int32) : KC l yX5_holds wsX5_holds 0 [.ref (o 20), .int p1] D cI (wR cI o f a) (wR cI o f a) (some (.int (rHolds f a p1))) := by
  refine KC.of (cc := cX5_holds) (maxL := 3) (by decide) rfl (Nat.le_of_ble_eq_true rfl) ?_
  intro p e s m below meth c A hx hb hr hts hown hlocks hml hK hP hD hS hA ls hl
  have hl : lv_has ls 3 [(0, .ref (o 20)), (1, .int p1)] := hl
  have hown : s.vm.findClass RX5 = some m.cls := hown
  have hi5 : ∀ w ∈ u_ws RX5 TX5 24, w ∈ wsX5_holds := by decide +kernel
  refine lv_iload_n hx hb dX5_holds_0 rfl (lv_at hl 1 rfl) ?_
  refine lv_iconst (v := 2) hx hb dX5_holds_1 (by decide) ?_
  refine lv_icmp_ge (tgt := 12) hx hb dX5_holds_2 (by decide) (fun c_1 => ?_) (fun c_1 => ?_)
  · refine lv_iload_n hx hb dX5_holds_12 rfl (lv_at hl 1 rfl) ?_
    refine lv_iconst (v := 4) hx hb dX5_holds_13 (by decide) ?_
    refine lv_icmp_ge (tgt := 24) hx hb dX5_holds_14 (by decide) (fun c_2 => ?_) (fun c_2 => ?_)
    · refine lv_iload_n hx hb dX5_holds_24 rfl (lv_at hl 1 rfl) ?_
      refine lv_bipush (v := 6) hx hb dX5_holds_25 (by decide) ?_
      refine lv_icmp_ge (tgt := 37) hx hb dX5_holds_27 (by decide) (fun c_3 => ?_) (fun c_3 => ?_)
      · refine lv_aload_n hx hb dX5_holds_37 rfl (lv_at hl 0 rfl) ?_
        refine va_get (ci := 5) (v := .int (f 12)) (C := RX5) (T := TX5) (N := 24) hx hb hts hi5 hown hK hP 0 rfl rfl 6 (by decide) (hts (.fieldLink RX5 54 "InvaderBoardModel" "sign" "I") (by decide +kernel)) (fun _ h9 => h9) rfl dX5_holds_38 ?_
        refine lv_istore_n (lv' := [(2, .int _), (0, .ref _), (1, .int _)]) hx hb dX5_holds_41 rfl hl (by decide) rfl (fun ls hl => ?_)
        refine lv_iload_n hx hb dX5_holds_42 rfl (lv_at hl 0 rfl) ?_
        refine lv_iload_n hx hb dX5_holds_43 rfl (lv_at hl 2 rfl) ?_
        refine lv_iconst (v := 1) hx hb dX5_holds_44 (by decide) ?_
        refine lv_iand hx hb dX5_holds_45 ?_
        refine lv_icmp_ne (tgt := 53) hx hb dX5_holds_46 (by decide) (fun c_4 => ?_) (fun c_4 => ?_)
        · refine lv_iconst (v := 0) hx hb dX5_holds_53 (by decide) ?_
          have hF : rHolds f a p1 = (0 : Int32) := by simp only [rHolds, if_pos c_1, if_pos c_2, if_pos c_3, if_neg c_4]
          rw [hF]
          exact KC.retz hx hb hr hlocks hK hP hD hS dX5_holds_54 (by decide +kernel) rfl
        · refine lv_iconst (v := 1) hx hb dX5_holds_49 (by decide) ?_
          refine lv_goto (tgt := 54) hx hb dX5_holds_50 (by decide) ?_
          have hF : rHolds f a p1 = (1 : Int32) := by simp only [rHolds, if_pos c_1, if_pos c_2, if_pos c_3, if_pos c_4]
          rw [hF]
          exact KC.retz hx hb hr hlocks hK hP hD hS dX5_holds_54 (by decide +kernel) rfl
      · refine lv_aload_n hx hb dX5_holds_30 rfl (lv_at hl 0 rfl) ?_
        refine va_get (ci := 5) (v := .int (f 15)) (C := RX5) (T := TX5) (N := 24) hx hb hts hi5 hown hK hP 0 rfl rfl 9 (by decide) (hts (.fieldLink RX5 60 "InvaderBoardModel" "parity" "I") (by decide +kernel)) (fun _ h9 => h9) rfl dX5_holds_31 ?_
        refine lv_goto (tgt := 41) hx hb dX5_holds_34 (by decide) ?_
        refine lv_istore_n (lv' := [(2, .int _), (0, .ref _), (1, .int _)]) hx hb dX5_holds_41 rfl hl (by decide) rfl (fun ls hl => ?_)
        refine lv_iload_n hx hb dX5_holds_42 rfl (lv_at hl 0 rfl) ?_
        refine lv_iload_n hx hb dX5_holds_43 rfl (lv_at hl 2 rfl) ?_
        refine lv_iconst (v := 1) hx hb dX5_holds_44 (by decide) ?_
        refine lv_iand hx hb dX5_holds_45 ?_
        refine lv_icmp_ne (tgt := 53) hx hb dX5_holds_46 (by decide) (fun c_5 => ?_) (fun c_5 => ?_)
        · refine lv_iconst (v := 0) hx hb dX5_holds_53 (by decide) ?_
          have hF : rHolds f a p1 = (0 : Int32) := by simp only [rHolds, if_pos c_1, if_pos c_2, if_neg c_3, if_neg c_5]
          rw [hF]
          exact KC.retz hx hb hr hlocks hK hP hD hS dX5_holds_54 (by decide +kernel) rfl
        · refine lv_iconst (v := 1) hx hb dX5_holds_49 (by decide) ?_
          refine lv_goto (tgt := 54) hx hb dX5_holds_50 (by decide) ?_
          have hF : rHolds f a p1 = (1 : Int32) := by simp only [rHolds, if_pos c_1, if_pos c_2, if_neg c_3, if_pos c_5]
          rw [hF]
          exact KC.retz hx hb hr hlocks hK hP hD hS dX5_holds_54 (by decide +kernel) rfl
    · refine lv_aload_n hx hb dX5_holds_17 rfl (lv_at hl 0 rfl) ?_
      refine va_get (ci := 5) (v := .int (f 16)) (C := RX5) (T := TX5) (N := 24) hx hb hts hi5 hown hK hP 0 rfl rfl 10 (by decide) (hts (.fieldLink RX5 66 "InvaderBoardModel" "carry" "I") (by decide +kernel)) (fun _ h9 => h9) rfl dX5_holds_18 ?_
      refine lv_goto (tgt := 41) hx hb dX5_holds_21 (by decide) ?_
      refine lv_istore_n (lv' := [(2, .int _), (0, .ref _), (1, .int _)]) hx hb dX5_holds_41 rfl hl (by decide) rfl (fun ls hl => ?_)
      refine lv_iload_n hx hb dX5_holds_42 rfl (lv_at hl 0 rfl) ?_
      refine lv_iload_n hx hb dX5_holds_43 rfl (lv_at hl 2 rfl) ?_
      refine lv_iconst (v := 1) hx hb dX5_holds_44 (by decide) ?_
      refine lv_iand hx hb dX5_holds_45 ?_
      refine lv_icmp_ne (tgt := 53) hx hb dX5_holds_46 (by decide) (fun c_6 => ?_) (fun c_6 => ?_)
      · refine lv_iconst (v := 0) hx hb dX5_holds_53 (by decide) ?_
        have hF : rHolds f a p1 = (0 : Int32) := by simp only [rHolds, if_pos c_1, if_neg c_2, if_neg c_6]
        rw [hF]
        exact KC.retz hx hb hr hlocks hK hP hD hS dX5_holds_54 (by decide +kernel) rfl
      · refine lv_iconst (v := 1) hx hb dX5_holds_49 (by decide) ?_
        refine lv_goto (tgt := 54) hx hb dX5_holds_50 (by decide) ?_
        have hF : rHolds f a p1 = (1 : Int32) := by simp only [rHolds, if_pos c_1, if_neg c_2, if_pos c_6]
        rw [hF]
        exact KC.retz hx hb hr hlocks hK hP hD hS dX5_holds_54 (by decide +kernel) rfl
  · refine lv_aload_n hx hb dX5_holds_5 rfl (lv_at hl 0 rfl) ?_
    refine va_get (ci := 5) (v := .int (f 13)) (C := RX5) (T := TX5) (N := 24) hx hb hts hi5 hown hK hP 0 rfl rfl 7 (by decide) (hts (.fieldLink RX5 57 "InvaderBoardModel" "zero" "I") (by decide +kernel)) (fun _ h9 => h9) rfl dX5_holds_6 ?_
    refine lv_goto (tgt := 41) hx hb dX5_holds_9 (by decide) ?_
    refine lv_istore_n (lv' := [(2, .int _), (0, .ref _), (1, .int _)]) hx hb dX5_holds_41 rfl hl (by decide) rfl (fun ls hl => ?_)
    refine lv_iload_n hx hb dX5_holds_42 rfl (lv_at hl 0 rfl) ?_
    refine lv_iload_n hx hb dX5_holds_43 rfl (lv_at hl 2 rfl) ?_
    refine lv_iconst (v := 1) hx hb dX5_holds_44 (by decide) ?_
    refine lv_iand hx hb dX5_holds_45 ?_
    refine lv_icmp_ne (tgt := 53) hx hb dX5_holds_46 (by decide) (fun c_7 => ?_) (fun c_7 => ?_)
    · refine lv_iconst (v := 0) hx hb dX5_holds_53 (by decide) ?_
      have hF : rHolds f a p1 = (0 : Int32) := by simp only [rHolds, if_neg c_1, if_neg c_7]
      rw [hF]
      exact KC.retz hx hb hr hlocks hK hP hD hS dX5_holds_54 (by decide +kernel) rfl
    · refine lv_iconst (v := 1) hx hb dX5_holds_49 (by decide) ?_
      refine lv_goto (tgt := 54) hx hb dX5_holds_50 (by decide) ?_
      have hF : rHolds f a p1 = (1 : Int32) := by simp only [rHolds, if_neg c_1, if_pos c_7]
      rw [hF]
      exact KC.retz hx hb hr hlocks hK hP hD hS dX5_holds_54 (by decide +kernel) rfl
theorem rNext_nn {f f' : Nat → Int32} {a : Nat → Nat → Int32} {r : Int32} (hR : ∀ q : Int32, ¬ rRead f a q < 0) (h : rNext f a = (r, f')) : ¬ r < 0 := by
  have e : r = (rNext f a).1 := by rw [h]
  rw [e]
  exact hR _
def rParity (on : Int32) : Int32 := if on - on / (2 : Int32) * (2 : Int32) = 0 then (1 : Int32) else (0 : Int32)
def rOnes (p1 : Int32) : Nat → Nat → Int32 → Int32
  | 0, _, on => on
  | n + 1, k, on => rOnes p1 n (k + 1) (on + ((p1 >>> ((nI k) &&& 31)) &&& (1 : Int32)))
set_option maxHeartbeats 4000000 in
set_option maxRecDepth 100000 in
theorem lpX5_signs {l : Launch} {D : va_G} {cI : ClassId} {o : Nat → Nat} {f : Nat → Int32} {a : Nat → Nat → Int32} {p1 : Int32} {p : Program} {e : Env} {s : State} {m : MethodId} {args : Array Value} {below : List Frame} {meth : Method} {c : Code} {A : Nat → Prop} (hx : p.tables.exec = Jvm.exec) (hb : c.code = cX5_signs) (hr : meth.sig.returnType = none) (hts : ∀ w ∈ wsX5_signs, w.before args s = true) (hown : s.vm.findClass RX5 = some m.cls) (hlocks : meth.locks = false) (hml : c.maxLocals = 4) (hK : va_K D vwCl [(cI, .int)] s) (hA : ∀ q : Nat, s.heap.size ≤ q → A q) :
    ∀ (n k : Nat), k + n = 8 → ∀ (on : Int32), ∀ (H : Heap) (locs : List Loc), va_P D vwCl (wR cI o f a) H → va_D A (wR cI o f a) → va_S A s.heap H locs → ∀ ls : Array Slot, lv_has ls 4 [(3, .int (nI k)), (2, .int on), (0, .ref (o 20)), (1, .int p1)] → W p l e (rmD 0) s m args below meth c H locs 0 0 (MQ below (kq_ D cI none (wR cI o (upd f 15 (rParity (rOnes p1 n k on))) a) A) args s 0 0 A) (F0 m 31 ls []) := by
  have hi5 : ∀ w ∈ u_ws RX5 TX5 24, w ∈ wsX5_signs := by decide +kernel
  intro n
  induction n with
  | zero =>
    intro k hk on H locs hP hD hS ls hl
    obtain rfl : k = 8 := by omega
    refine lv_iload_n hx hb dX5_signs_31 rfl (lv_at hl 0 rfl) ?_
    refine lv_bipush (v := 8) hx hb dX5_signs_32 (by decide) ?_
    refine lv_icmp_ge (tgt := 51) hx hb dX5_signs_34 (by decide) (fun c_1 => ?_) (fun c_1 => ?_)
    · refine lv_aload_n hx hb dX5_signs_51 rfl (lv_at hl 2 rfl) ?_
      refine lv_iload_n hx hb dX5_signs_52 rfl (lv_at hl 1 rfl) ?_
      refine lv_iconst (v := 2) hx hb dX5_signs_53 (by decide) ?_
      refine lv_irem hx hb dX5_signs_54 (by decide) ?_
      refine lv_if_ne (tgt := 62) hx hb dX5_signs_55 (by decide) (fun c_2 => ?_) (fun c_2 => ?_)
      · refine lv_iconst (v := 0) hx hb dX5_signs_62 (by decide) ?_
        refine pu_R_f15 (v := (0 : Int32)) hx hb hts hi5 hown hK hP hD hS (hts (.fieldLink RX5 60 "InvaderBoardModel" "parity" "I") (by decide +kernel)) dX5_signs_63 (fun H locs hP hD hS => ?_)
        have hF : rParity on = (0 : Int32) := by simp only [rParity, if_neg c_2]
        rw [show rOnes p1 0 8 on = on from rfl, hF]
        exact KC.retv hx hb hr hlocks hK hP hD hS dX5_signs_66
      · refine lv_iconst (v := 1) hx hb dX5_signs_58 (by decide) ?_
        refine lv_goto (tgt := 63) hx hb dX5_signs_59 (by decide) ?_
        refine pu_R_f15 (v := (1 : Int32)) hx hb hts hi5 hown hK hP hD hS (hts (.fieldLink RX5 60 "InvaderBoardModel" "parity" "I") (by decide +kernel)) dX5_signs_63 (fun H locs hP hD hS => ?_)
        have hF : rParity on = (1 : Int32) := by simp only [rParity, if_pos c_2]
        rw [show rOnes p1 0 8 on = on from rfl, hF]
        exact KC.retv hx hb hr hlocks hK hP hD hS dX5_signs_66
    · exact absurd (show (8 : Int32) ≤ nI 8 by decide) c_1
  | succ n ih =>
    intro k hk on H locs hP hD hS ls hl
    refine lv_iload_n hx hb dX5_signs_31 rfl (lv_at hl 0 rfl) ?_
    refine lv_bipush (v := 8) hx hb dX5_signs_32 (by decide) ?_
    refine lv_icmp_ge (tgt := 51) hx hb dX5_signs_34 (by decide) (fun c_3 => ?_) (fun c_3 => ?_)
    · exact absurd c_3 (show ¬ nI 8 ≤ nI k from nI_ge (by omega) (by decide))
    · refine lv_iload_n hx hb dX5_signs_37 rfl (lv_at hl 1 rfl) ?_
      refine lv_iload_n hx hb dX5_signs_38 rfl (lv_at hl 3 rfl) ?_
      refine lv_iload_n hx hb dX5_signs_39 rfl (lv_at hl 0 rfl) ?_
      refine lv_ishr hx hb dX5_signs_40 ?_
      refine lv_iconst (v := 1) hx hb dX5_signs_41 (by decide) ?_
      refine lv_iand hx hb dX5_signs_42 ?_
      refine lv_iadd hx hb dX5_signs_43 ?_
      refine lv_istore_n (lv' := [(2, .int _), (3, .int _), (0, .ref _), (1, .int _)]) hx hb dX5_signs_44 rfl hl (by decide) rfl (fun ls hl => ?_)
      refine lv_iinc (v := (nI k) + (1 : Int32)) (lv' := [(3, .int _), (2, .int _), (0, .ref _), (1, .int _)]) hx hb dX5_signs_45 hl (k := 1) rfl rfl (by decide) rfl (fun ls hl => ?_)
      refine lv_goto (tgt := 31) hx hb dX5_signs_48 (by decide) ?_
      rw [nI_1] at hl
      exact ih (k + 1) (by omega) _ H locs hP hD hS ls (lv_sub hl [0, 1, 2, 3] rfl)
def rSigns (f : Nat → Int32) (a : Nat → Nat → Int32) (p1 : Int32) : (Nat → Int32) :=
  if p1 &&& (255 : Int32) = 0 then upd (upd (upd f 12 ((p1 >>> ((7 : Int32) &&& 31)) &&& (1 : Int32))) 13 (1 : Int32)) 15 (rParity (rOnes p1 8 0 (0 : Int32)))
  else upd (upd (upd f 12 ((p1 >>> ((7 : Int32) &&& 31)) &&& (1 : Int32))) 13 (0 : Int32)) 15 (rParity (rOnes p1 8 0 (0 : Int32)))
set_option maxHeartbeats 4000000 in
set_option maxRecDepth 100000 in
theorem kX5_signs (l : Launch) (D : va_G) (cI : ClassId) (o : Nat → Nat) (f : Nat → Int32) (a : Nat → Nat → Int32) (p1 : Int32) : KC l yX5_signs wsX5_signs 0 [.ref (o 20), .int p1] D cI (wR cI o f a) (wR cI o (rSigns f a p1) a) none := by
  refine KC.of (cc := cX5_signs) (maxL := 4) (by decide) rfl (Nat.le_of_ble_eq_true rfl) ?_
  intro p e s m below meth c A hx hb hr hts hown hlocks hml hK hP hD hS hA ls hl
  have hl : lv_has ls 4 [(0, .ref (o 20)), (1, .int p1)] := hl
  have hown : s.vm.findClass RX5 = some m.cls := hown
  have hi5 : ∀ w ∈ u_ws RX5 TX5 24, w ∈ wsX5_signs := by decide +kernel
  refine lv_aload_n hx hb dX5_signs_0 rfl (lv_at hl 0 rfl) ?_
  refine lv_iload_n hx hb dX5_signs_1 rfl (lv_at hl 1 rfl) ?_
  refine lv_bipush (v := 7) hx hb dX5_signs_2 (by decide) ?_
  refine lv_ishr hx hb dX5_signs_4 ?_
  refine lv_iconst (v := 1) hx hb dX5_signs_5 (by decide) ?_
  refine lv_iand hx hb dX5_signs_6 ?_
  refine pu_R_f12 (v := (p1 >>> ((7 : Int32) &&& 31)) &&& (1 : Int32)) hx hb hts hi5 hown hK hP hD hS (hts (.fieldLink RX5 54 "InvaderBoardModel" "sign" "I") (by decide +kernel)) dX5_signs_7 (fun H locs hP hD hS => ?_)
  refine lv_aload_n hx hb dX5_signs_10 rfl (lv_at hl 0 rfl) ?_
  refine lv_iload_n hx hb dX5_signs_11 rfl (lv_at hl 1 rfl) ?_
  refine lv_sipush (v := 255) hx hb dX5_signs_12 (by decide) ?_
  refine lv_iand hx hb dX5_signs_15 ?_
  refine lv_if_ne (tgt := 23) hx hb dX5_signs_16 (by decide) (fun c_1 => ?_) (fun c_1 => ?_)
  · refine lv_iconst (v := 0) hx hb dX5_signs_23 (by decide) ?_
    refine pu_R_f13 (v := (0 : Int32)) hx hb hts hi5 hown hK hP hD hS (hts (.fieldLink RX5 57 "InvaderBoardModel" "zero" "I") (by decide +kernel)) dX5_signs_24 (fun H locs hP hD hS => ?_)
    refine lv_iconst (v := 0) hx hb dX5_signs_27 (by decide) ?_
    refine lv_istore_n (lv' := [(2, .int _), (0, .ref _), (1, .int _)]) hx hb dX5_signs_28 rfl hl (by decide) rfl (fun ls hl => ?_)
    refine lv_iconst (v := 0) hx hb dX5_signs_29 (by decide) ?_
    refine lv_istore_n (lv' := [(3, .int _), (2, .int _), (0, .ref _), (1, .int _)]) hx hb dX5_signs_30 rfl hl (by decide) rfl (fun ls hl => ?_)
    have hF : rSigns f a p1 = upd (upd (upd f 12 ((p1 >>> ((7 : Int32) &&& 31)) &&& (1 : Int32))) 13 (0 : Int32)) 15 (rParity (rOnes p1 8 0 (0 : Int32))) := by simp only [rSigns, if_neg c_1]
    rw [hF]
    exact lpX5_signs hx hb hr hts hown hlocks hml hK hA 8 0 (by omega) (0 : Int32) _ _ hP hD hS ls (lv_sub hl [0, 1, 2, 3] rfl)
  · refine lv_iconst (v := 1) hx hb dX5_signs_19 (by decide) ?_
    refine lv_goto (tgt := 24) hx hb dX5_signs_20 (by decide) ?_
    refine pu_R_f13 (v := (1 : Int32)) hx hb hts hi5 hown hK hP hD hS (hts (.fieldLink RX5 57 "InvaderBoardModel" "zero" "I") (by decide +kernel)) dX5_signs_24 (fun H locs hP hD hS => ?_)
    refine lv_iconst (v := 0) hx hb dX5_signs_27 (by decide) ?_
    refine lv_istore_n (lv' := [(2, .int _), (0, .ref _), (1, .int _)]) hx hb dX5_signs_28 rfl hl (by decide) rfl (fun ls hl => ?_)
    refine lv_iconst (v := 0) hx hb dX5_signs_29 (by decide) ?_
    refine lv_istore_n (lv' := [(3, .int _), (2, .int _), (0, .ref _), (1, .int _)]) hx hb dX5_signs_30 rfl hl (by decide) rfl (fun ls hl => ?_)
    have hF : rSigns f a p1 = upd (upd (upd f 12 ((p1 >>> ((7 : Int32) &&& 31)) &&& (1 : Int32))) 13 (1 : Int32)) 15 (rParity (rOnes p1 8 0 (0 : Int32))) := by simp only [rSigns, if_pos c_1]
    rw [hF]
    exact lpX5_signs hx hb hr hts hown hlocks hml hK hA 8 0 (by omega) (0 : Int32) _ _ hP hD hS ls (lv_sub hl [0, 1, 2, 3] rfl)
