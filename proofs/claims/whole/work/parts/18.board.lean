def xInput (g : Nat → Int32) (f : Nat → Int32) (a : Nat → Nat → Int32) (p1 : Int32) (p2 : Int32) : (Nat → Int32) :=
  if p1 < 0 then a 3
  else if p1 < (3 : Int32) then xSetInput f a p1 p2
    else a 3
def xInputX (g : Nat → Int32) (f : Nat → Int32) (a : Nat → Nat → Int32) (p1 : Int32) (p2 : Int32) : Bool :=
  if p1 < 0 then true
  else if p1 < (3 : Int32) then false
    else true
set_option maxHeartbeats 4000000 in
set_option maxRecDepth 100000 in
theorem kX4_input (l : Launch) (hl0 : l.stackTraces = false) (D : va_G) (cI : ClassId) (o : Nat → Nat) (tS : Nat) (sc : Nat → Nat) (g : Nat → Int32) (f : Nat → Int32) (a : Nat → Nat → Int32) (p1 : Int32) (p2 : Int32) : KT l yX4_input wsX4_input 7 tS sc [.ref (o 10), .int p1, .int p2] D cI (wX cI o g f a) (xInputX g f a p1 p2 = true) "java/lang/IllegalArgumentException" (wX cI o g f (ua a 3 (xInput g f a p1 p2))) none := by
  refine KT.of (cc := cX4_input) (maxL := 3) (by decide) rfl (Nat.le_of_ble_eq_true rfl) ?_
  intro p e s m below meth c A hx hb hr hts hown hlocks hml hne hK hP hD hS hA hG ls hl
  obtain ⟨hs41, hs46, hs58, hs68, hs70, hs83, hs114, hs116⟩ := hG.2.2.2.1
  obtain ⟨hn97, hn101, hn104, hn107, hn121, hn131⟩ := hG.2.2.1
  have hl : lv_has ls 3 [(0, .ref (o 10)), (1, .int p1), (2, .int p2)] := hl
  have hown : s.vm.findClass RX4 = some m.cls := hown
  have hi4 : ∀ w ∈ u_ws RX4 TX4 4, w ∈ wsX4_input := fun w h => List.mem_cons_of_mem _ (List.mem_append_left _ (List.mem_append_left _ (List.mem_append_right _ h)))
  refine lv_iload_n hx hb dX4_input_0 rfl (lv_at hl 1 rfl) ?_
  refine lv_if_lt (tgt := 9) hx hb dX4_input_1 (by decide) (fun c_1 => ?_) (fun c_1 => ?_)
  · have hT : xInputX g f a p1 p2 = true := by
      unfold xInputX
      refine (if_pos c_1).trans ?_
      rfl
    exact KT.throw (sa := sc 2) hx hb hl0 hown (by decide +kernel) (hts (.classLink RX4 39 "java/lang/IllegalArgumentException") (List.mem_cons_of_mem _ (List.mem_append_left _ (List.mem_append_left _ (List.mem_append_left _ (List.mem_of_getElem? (i := 0) rfl)))))) (hts (.initialized "java/lang/IllegalArgumentException") (List.mem_cons_of_mem _ (List.mem_append_left _ (List.mem_append_left _ (List.mem_append_left _ (List.mem_of_getElem? (i := 1) rfl)))))) hs58 (hat_iae (fun w h => hts w ((fun w h => List.mem_cons_of_mem _ (List.mem_append_right _ h)) w h)) hG) good_iae hG hK hP hD hS (hl.1.trans hml.symm) hne hlocks (by decide) hT dX4_input_9 dX4_input_12 dX4_input_13 dX4_input_15 dX4_input_18
  · refine lv_iload_n hx hb dX4_input_4 rfl (lv_at hl 1 rfl) ?_
    refine lv_iconst (v := 3) hx hb dX4_input_5 (by decide) ?_
    refine lv_icmp_lt (tgt := 19) hx hb dX4_input_6 (by decide) (fun c_2 => ?_) (fun c_2 => ?_)
    · refine lv_aload_n hx hb dX4_input_19 rfl (lv_at hl 0 rfl) ?_
      refine va_get (ci := 4) (v := .ref (o 5)) (C := RX4) (T := TX4) (N := 4) hx hb hts hi4 hown hK hP 0 rfl rfl 1 (by decide) (hts (.fieldLink RX4 19 "InvaderBoard" "ports" "LInvaderBoard$Ports;") (List.mem_cons_of_mem _ (List.mem_append_left _ (List.mem_append_left _ (List.mem_append_left _ (List.mem_of_getElem? (i := 2) rfl)))))) (fun _ h9 => h9) rfl dX4_input_20 ?_
      refine lv_iload_n hx hb dX4_input_23 rfl (lv_at hl 1 rfl) ?_
      refine lv_iload_n hx hb dX4_input_24 rfl (lv_at hl 2 rfl) ?_
      refine KC.callv (ci := 2) (rest := []) (wt := wX cI o g f (ua a 3 (xSetInput f a p1 p2))) (kX2_setInput l D cI o f a p1 p2) (cwV 2 hts gX4_input_X2_setInput rfl rfl rfl (by decide +kernel) ⟨Nat.le_of_ble_eq_true rfl, Nat.le_of_ble_eq_true rfl⟩) ⟨hx, hb, hml, hown, hts⟩ hK hP hD hS hA rfl rfl rfl [7, 8, 9, 10] [0, 1, 2, 3, 4, 5, 6] [0, 1, 2, 3, 4, 5, 6, 7, 8, 9, 10] (by decide) rfl (wr := [_, _, _, _, _, _, _]) rfl (by decide) (by decide) (by decide) rfl rfl hl.1 rfl (Nat.le_of_ble_eq_true rfl) dX4_input_25 ⟨Nat.zero_le _, Nat.zero_le _⟩ (fun H locs hP hD hS => ?_)
      have hF : xInput g f a p1 p2 = xSetInput f a p1 p2 := by
        unfold xInput
        refine (if_neg c_1).trans ?_
        refine (if_pos c_2).trans ?_
        rfl
      rw [hF]
      have hT : xInputX g f a p1 p2 = false := by
        unfold xInputX
        refine (if_neg c_1).trans ?_
        refine (if_pos c_2).trans ?_
        rfl
      exact KT.retv hx hb hr hlocks hK hP hD hS dX4_input_28 (by rw [hT]; decide)
    · have hT : xInputX g f a p1 p2 = true := by
        unfold xInputX
        refine (if_neg c_1).trans ?_
        refine (if_neg c_2).trans ?_
        rfl
      exact KT.throw (sa := sc 2) hx hb hl0 hown (by decide +kernel) (hts (.classLink RX4 39 "java/lang/IllegalArgumentException") (List.mem_cons_of_mem _ (List.mem_append_left _ (List.mem_append_left _ (List.mem_append_left _ (List.mem_of_getElem? (i := 0) rfl)))))) (hts (.initialized "java/lang/IllegalArgumentException") (List.mem_cons_of_mem _ (List.mem_append_left _ (List.mem_append_left _ (List.mem_append_left _ (List.mem_of_getElem? (i := 1) rfl)))))) hs58 (hat_iae (fun w h => hts w ((fun w h => List.mem_cons_of_mem _ (List.mem_append_right _ h)) w h)) hG) good_iae hG hK hP hD hS (hl.1.trans hml.symm) hne hlocks (by decide) hT dX4_input_9 dX4_input_12 dX4_input_13 dX4_input_15 dX4_input_18
def xRegister (g : Nat → Int32) (f : Nat → Int32) (a : Nat → Nat → Int32) (p1 : Int32) : Int32 :=
  if p1 < 0 then (0 : Int32)
  else if p1 ≤ (11 : Int32) then xContentOf f a p1
    else (0 : Int32)
def xRegisterX (g : Nat → Int32) (f : Nat → Int32) (a : Nat → Nat → Int32) (p1 : Int32) : Bool :=
  if p1 < 0 then true
  else if p1 ≤ (11 : Int32) then false
    else true
set_option maxHeartbeats 4000000 in
set_option maxRecDepth 100000 in
theorem kX4_register (l : Launch) (hl0 : l.stackTraces = false) (D : va_G) (cI : ClassId) (o : Nat → Nat) (tS : Nat) (sc : Nat → Nat) (g : Nat → Int32) (f : Nat → Int32) (a : Nat → Nat → Int32) (p1 : Int32) : KT l yX4_register wsX4_register 7 tS sc [.ref (o 10), .int p1] D cI (wX cI o g f a) (xRegisterX g f a p1 = true) "java/lang/IllegalArgumentException" (wX cI o g f a) (some (.int (xRegister g f a p1))) := by
  refine KT.of (cc := cX4_register) (maxL := 2) (by decide) rfl (Nat.le_of_ble_eq_true rfl) ?_
  intro p e s m below meth c A hx hb hr hts hown hlocks hml hne hK hP hD hS hA hG ls hl
  obtain ⟨hs41, hs46, hs58, hs68, hs70, hs83, hs114, hs116⟩ := hG.2.2.2.1
  obtain ⟨hn97, hn101, hn104, hn107, hn121, hn131⟩ := hG.2.2.1
  have hl : lv_has ls 2 [(0, .ref (o 10)), (1, .int p1)] := hl
  have hown : s.vm.findClass RX4 = some m.cls := hown
  have hi4 : ∀ w ∈ u_ws RX4 TX4 4, w ∈ wsX4_register := fun w h => List.mem_cons_of_mem _ (List.mem_append_left _ (List.mem_append_left _ (List.mem_append_right _ h)))
  refine lv_iload_n hx hb dX4_register_0 rfl (lv_at hl 1 rfl) ?_
  refine lv_if_lt (tgt := 10) hx hb dX4_register_1 (by decide) (fun c_1 => ?_) (fun c_1 => ?_)
  · have hT : xRegisterX g f a p1 = true := by
      unfold xRegisterX
      refine (if_pos c_1).trans ?_
      rfl
    exact KT.throw (sa := sc 4) hx hb hl0 hown (by decide +kernel) (hts (.classLink RX4 39 "java/lang/IllegalArgumentException") (List.mem_cons_of_mem _ (List.mem_append_left _ (List.mem_append_left _ (List.mem_append_left _ (List.mem_of_getElem? (i := 0) rfl)))))) (hts (.initialized "java/lang/IllegalArgumentException") (List.mem_cons_of_mem _ (List.mem_append_left _ (List.mem_append_left _ (List.mem_append_left _ (List.mem_of_getElem? (i := 1) rfl)))))) hs70 (hat_iae (fun w h => hts w ((fun w h => List.mem_cons_of_mem _ (List.mem_append_right _ h)) w h)) hG) good_iae hG hK hP hD hS (hl.1.trans hml.symm) hne hlocks (by decide) hT dX4_register_10 dX4_register_13 dX4_register_14 dX4_register_16 dX4_register_19
  · refine lv_iload_n hx hb dX4_register_4 rfl (lv_at hl 1 rfl) ?_
    refine lv_bipush (v := 11) hx hb dX4_register_5 (by decide) ?_
    refine lv_icmp_le (tgt := 20) hx hb dX4_register_7 (by decide) (fun c_2 => ?_) (fun c_2 => ?_)
    · refine lv_aload_n hx hb dX4_register_20 rfl (lv_at hl 0 rfl) ?_
      refine va_get (ci := 4) (v := .ref (o 0)) (C := RX4) (T := TX4) (N := 4) hx hb hts hi4 hown hK hP 0 rfl rfl 2 (by decide) (hts (.fieldLink RX4 28 "InvaderBoard" "processor" "LInvaderBoard$Processor;") (List.mem_cons_of_mem _ (List.mem_append_left _ (List.mem_append_left _ (List.mem_append_left _ (List.mem_of_getElem? (i := 2) rfl)))))) (fun _ h9 => h9) rfl dX4_register_21 ?_
      refine lv_iload_n hx hb dX4_register_24 rfl (lv_at hl 1 rfl) ?_
      refine KC.calli (ci := 3) (rest := []) (wt := wX cI o g f a) (kX3_contentOf l D cI o f a p1) (cwV 1 hts gX4_register_X3_contentOf rfl rfl rfl (by decide +kernel) ⟨Nat.le_of_ble_eq_true rfl, Nat.le_of_ble_eq_true rfl⟩) ⟨hx, hb, hml, hown, hts⟩ hK hP hD hS hA rfl rfl rfl [2, 3, 4, 5, 6, 7, 8, 9, 10] [0, 1] [0, 1, 2, 3, 4, 5, 6, 7, 8, 9, 10] (by decide) rfl (wr := [_, _]) rfl (by decide) (by decide) (by decide) rfl rfl hl.1 rfl (Nat.le_of_ble_eq_true rfl) dX4_register_25 ⟨Nat.zero_le _, Nat.zero_le _⟩ (fun H locs hP hD hS => ?_)
      have hF : xRegister g f a p1 = xContentOf f a p1 := by
        unfold xRegister
        refine (if_neg c_1).trans ?_
        refine (if_pos c_2).trans ?_
        rfl
      rw [hF]
      have hT : xRegisterX g f a p1 = false := by
        unfold xRegisterX
        refine (if_neg c_1).trans ?_
        refine (if_pos c_2).trans ?_
        rfl
      exact KT.reti hx hb hr hlocks hK hP hD hS dX4_register_28 (by rw [hT]; decide) rfl
    · have hT : xRegisterX g f a p1 = true := by
        unfold xRegisterX
        refine (if_neg c_1).trans ?_
        refine (if_neg c_2).trans ?_
        rfl
      exact KT.throw (sa := sc 4) hx hb hl0 hown (by decide +kernel) (hts (.classLink RX4 39 "java/lang/IllegalArgumentException") (List.mem_cons_of_mem _ (List.mem_append_left _ (List.mem_append_left _ (List.mem_append_left _ (List.mem_of_getElem? (i := 0) rfl)))))) (hts (.initialized "java/lang/IllegalArgumentException") (List.mem_cons_of_mem _ (List.mem_append_left _ (List.mem_append_left _ (List.mem_append_left _ (List.mem_of_getElem? (i := 1) rfl)))))) hs70 (hat_iae (fun w h => hts w ((fun w h => List.mem_cons_of_mem _ (List.mem_append_right _ h)) w h)) hG) good_iae hG hK hP hD hS (hl.1.trans hml.symm) hne hlocks (by decide) hT dX4_register_10 dX4_register_13 dX4_register_14 dX4_register_16 dX4_register_19
def xSounds (g : Nat → Int32) (f : Nat → Int32) (a : Nat → Nat → Int32) (p1 : Int32) : Int32 :=
  if p1 < 0 then (0 : Int32)
  else if p1 < (16 : Int32) then xRisesOf f a p1
    else (0 : Int32)
def xSoundsX (g : Nat → Int32) (f : Nat → Int32) (a : Nat → Nat → Int32) (p1 : Int32) : Bool :=
  if p1 < 0 then true
  else if p1 < (16 : Int32) then false
    else true
set_option maxHeartbeats 4000000 in
set_option maxRecDepth 100000 in
theorem kX4_sounds (l : Launch) (hl0 : l.stackTraces = false) (D : va_G) (cI : ClassId) (o : Nat → Nat) (tS : Nat) (sc : Nat → Nat) (g : Nat → Int32) (f : Nat → Int32) (a : Nat → Nat → Int32) (p1 : Int32) : KT l yX4_sounds wsX4_sounds 7 tS sc [.ref (o 10), .int p1] D cI (wX cI o g f a) (xSoundsX g f a p1 = true) "java/lang/IllegalArgumentException" (wX cI o g f a) (some (.int (xSounds g f a p1))) := by
  refine KT.of (cc := cX4_sounds) (maxL := 2) (by decide) rfl (Nat.le_of_ble_eq_true rfl) ?_
  intro p e s m below meth c A hx hb hr hts hown hlocks hml hne hK hP hD hS hA hG ls hl
  obtain ⟨hs41, hs46, hs58, hs68, hs70, hs83, hs114, hs116⟩ := hG.2.2.2.1
  obtain ⟨hn97, hn101, hn104, hn107, hn121, hn131⟩ := hG.2.2.1
  have hl : lv_has ls 2 [(0, .ref (o 10)), (1, .int p1)] := hl
  have hown : s.vm.findClass RX4 = some m.cls := hown
  have hi4 : ∀ w ∈ u_ws RX4 TX4 4, w ∈ wsX4_sounds := fun w h => List.mem_cons_of_mem _ (List.mem_append_left _ (List.mem_append_left _ (List.mem_append_right _ h)))
  refine lv_iload_n hx hb dX4_sounds_0 rfl (lv_at hl 1 rfl) ?_
  refine lv_if_lt (tgt := 10) hx hb dX4_sounds_1 (by decide) (fun c_1 => ?_) (fun c_1 => ?_)
  · have hT : xSoundsX g f a p1 = true := by
      unfold xSoundsX
      refine (if_pos c_1).trans ?_
      rfl
    exact KT.throw (sa := sc 7) hx hb hl0 hown (by decide +kernel) (hts (.classLink RX4 39 "java/lang/IllegalArgumentException") (List.mem_cons_of_mem _ (List.mem_append_left _ (List.mem_append_left _ (List.mem_append_left _ (List.mem_of_getElem? (i := 0) rfl)))))) (hts (.initialized "java/lang/IllegalArgumentException") (List.mem_cons_of_mem _ (List.mem_append_left _ (List.mem_append_left _ (List.mem_append_left _ (List.mem_of_getElem? (i := 1) rfl)))))) hs116 (hat_iae (fun w h => hts w ((fun w h => List.mem_cons_of_mem _ (List.mem_append_right _ h)) w h)) hG) good_iae hG hK hP hD hS (hl.1.trans hml.symm) hne hlocks (by decide) hT dX4_sounds_10 dX4_sounds_13 dX4_sounds_14 dX4_sounds_16 dX4_sounds_19
  · refine lv_iload_n hx hb dX4_sounds_4 rfl (lv_at hl 1 rfl) ?_
    refine lv_bipush (v := 16) hx hb dX4_sounds_5 (by decide) ?_
    refine lv_icmp_lt (tgt := 20) hx hb dX4_sounds_7 (by decide) (fun c_2 => ?_) (fun c_2 => ?_)
    · refine lv_aload_n hx hb dX4_sounds_20 rfl (lv_at hl 0 rfl) ?_
      refine va_get (ci := 4) (v := .ref (o 5)) (C := RX4) (T := TX4) (N := 4) hx hb hts hi4 hown hK hP 0 rfl rfl 1 (by decide) (hts (.fieldLink RX4 19 "InvaderBoard" "ports" "LInvaderBoard$Ports;") (List.mem_cons_of_mem _ (List.mem_append_left _ (List.mem_append_left _ (List.mem_append_left _ (List.mem_of_getElem? (i := 2) rfl)))))) (fun _ h9 => h9) rfl dX4_sounds_21 ?_
      refine lv_iload_n hx hb dX4_sounds_24 rfl (lv_at hl 1 rfl) ?_
      refine KC.calli (ci := 2) (rest := []) (wt := wX cI o g f a) (kX2_risesOf l D cI o f a p1) (cwV 1 hts gX4_sounds_X2_risesOf rfl rfl rfl (by decide +kernel) ⟨Nat.le_of_ble_eq_true rfl, Nat.le_of_ble_eq_true rfl⟩) ⟨hx, hb, hml, hown, hts⟩ hK hP hD hS hA rfl rfl rfl [7, 8, 9, 10] [0, 1, 2, 3, 4, 5, 6] [0, 1, 2, 3, 4, 5, 6, 7, 8, 9, 10] (by decide) rfl (wr := [_, _, _, _, _, _, _]) rfl (by decide) (by decide) (by decide) rfl rfl hl.1 rfl (Nat.le_of_ble_eq_true rfl) dX4_sounds_25 ⟨Nat.zero_le _, Nat.zero_le _⟩ (fun H locs hP hD hS => ?_)
      have hF : xSounds g f a p1 = xRisesOf f a p1 := by
        unfold xSounds
        refine (if_neg c_1).trans ?_
        refine (if_pos c_2).trans ?_
        rfl
      rw [hF]
      have hT : xSoundsX g f a p1 = false := by
        unfold xSoundsX
        refine (if_neg c_1).trans ?_
        refine (if_pos c_2).trans ?_
        rfl
      exact KT.reti hx hb hr hlocks hK hP hD hS dX4_sounds_28 (by rw [hT]; decide) rfl
    · have hT : xSoundsX g f a p1 = true := by
        unfold xSoundsX
        refine (if_neg c_1).trans ?_
        refine (if_neg c_2).trans ?_
        rfl
      exact KT.throw (sa := sc 7) hx hb hl0 hown (by decide +kernel) (hts (.classLink RX4 39 "java/lang/IllegalArgumentException") (List.mem_cons_of_mem _ (List.mem_append_left _ (List.mem_append_left _ (List.mem_append_left _ (List.mem_of_getElem? (i := 0) rfl)))))) (hts (.initialized "java/lang/IllegalArgumentException") (List.mem_cons_of_mem _ (List.mem_append_left _ (List.mem_append_left _ (List.mem_append_left _ (List.mem_of_getElem? (i := 1) rfl)))))) hs116 (hat_iae (fun w h => hts w ((fun w h => List.mem_cons_of_mem _ (List.mem_append_right _ h)) w h)) hG) good_iae hG hK hP hD hS (hl.1.trans hml.symm) hne hlocks (by decide) hT dX4_sounds_10 dX4_sounds_13 dX4_sounds_14 dX4_sounds_16 dX4_sounds_19
def xDot (g : Nat → Int32) (f : Nat → Int32) (a : Nat → Nat → Int32) (p1 : Int32) (p2 : Int32) : Int32 :=
  if p1 < 0 then (0 : Int32)
  else if (224 : Int32) ≤ p1 then (0 : Int32)
    else if p2 < 0 then (0 : Int32)
      else if p2 < (256 : Int32) then xDots a p1 p2 (p2 + (1 : Int32))
        else (0 : Int32)
def xDotX (g : Nat → Int32) (f : Nat → Int32) (a : Nat → Nat → Int32) (p1 : Int32) (p2 : Int32) : Bool :=
  if p1 < 0 then true
  else if (224 : Int32) ≤ p1 then true
    else if p2 < 0 then true
      else if p2 < (256 : Int32) then false
        else true
set_option maxHeartbeats 4000000 in
set_option maxRecDepth 100000 in
theorem kX4_dot (l : Launch) (hl0 : l.stackTraces = false) (D : va_G) (cI : ClassId) (o : Nat → Nat) (tS : Nat) (sc : Nat → Nat) (g : Nat → Int32) (f : Nat → Int32) (a : Nat → Nat → Int32) (p1 : Int32) (p2 : Int32) : KT l yX4_dot wsX4_dot 7 tS sc [.ref (o 10), .int p1, .int p2] D cI (wX cI o g f a) (xDotX g f a p1 p2 = true) "java/lang/IndexOutOfBoundsException" (wX cI o g f a) (some (.int (xDot g f a p1 p2))) := by
  refine KT.of (cc := cX4_dot) (maxL := 3) (by decide) rfl (Nat.le_of_ble_eq_true rfl) ?_
  intro p e s m below meth c A hx hb hr hts hown hlocks hml hne hK hP hD hS hA hG ls hl
  obtain ⟨hs41, hs46, hs58, hs68, hs70, hs83, hs114, hs116⟩ := hG.2.2.2.1
  obtain ⟨hn97, hn101, hn104, hn107, hn121, hn131⟩ := hG.2.2.1
  have hl : lv_has ls 3 [(0, .ref (o 10)), (1, .int p1), (2, .int p2)] := hl
  have hown : s.vm.findClass RX4 = some m.cls := hown
  have hi4 : ∀ w ∈ u_ws RX4 TX4 4, w ∈ wsX4_dot := fun w h => List.mem_cons_of_mem _ (List.mem_append_left _ (List.mem_append_left _ (List.mem_append_right _ h)))
  refine lv_iload_n hx hb dX4_dot_0 rfl (lv_at hl 1 rfl) ?_
  refine lv_if_lt (tgt := 22) hx hb dX4_dot_1 (by decide) (fun c_1 => ?_) (fun c_1 => ?_)
  · have hT : xDotX g f a p1 p2 = true := by
      unfold xDotX
      refine (if_pos c_1).trans ?_
      rfl
    exact KT.throw (sa := sc 5) hx hb hl0 hown (by decide +kernel) (hts (.classLink RX4 81 "java/lang/IndexOutOfBoundsException") (List.mem_cons_of_mem _ (List.mem_append_left _ (List.mem_append_left _ (List.mem_append_left _ (List.mem_append_left _ (List.mem_of_getElem? (i := 0) rfl))))))) (hts (.initialized "java/lang/IndexOutOfBoundsException") (List.mem_cons_of_mem _ (List.mem_append_left _ (List.mem_append_left _ (List.mem_append_left _ (List.mem_append_left _ (List.mem_of_getElem? (i := 1) rfl))))))) hs83 (hat_iob (fun w h => hts w ((fun w h => List.mem_cons_of_mem _ (List.mem_append_right _ h)) w h)) hG) good_iob hG hK hP hD hS (hl.1.trans hml.symm) hne hlocks (by decide) hT dX4_dot_22 dX4_dot_25 dX4_dot_26 dX4_dot_28 dX4_dot_31
  · refine lv_iload_n hx hb dX4_dot_4 rfl (lv_at hl 1 rfl) ?_
    refine lv_sipush (v := 224) hx hb dX4_dot_5 (by decide) ?_
    refine lv_icmp_ge (tgt := 22) hx hb dX4_dot_8 (by decide) (fun c_2 => ?_) (fun c_2 => ?_)
    · have hT : xDotX g f a p1 p2 = true := by
        unfold xDotX
        refine (if_neg c_1).trans ?_
        refine (if_pos c_2).trans ?_
        rfl
      exact KT.throw (sa := sc 5) hx hb hl0 hown (by decide +kernel) (hts (.classLink RX4 81 "java/lang/IndexOutOfBoundsException") (List.mem_cons_of_mem _ (List.mem_append_left _ (List.mem_append_left _ (List.mem_append_left _ (List.mem_append_left _ (List.mem_of_getElem? (i := 0) rfl))))))) (hts (.initialized "java/lang/IndexOutOfBoundsException") (List.mem_cons_of_mem _ (List.mem_append_left _ (List.mem_append_left _ (List.mem_append_left _ (List.mem_append_left _ (List.mem_of_getElem? (i := 1) rfl))))))) hs83 (hat_iob (fun w h => hts w ((fun w h => List.mem_cons_of_mem _ (List.mem_append_right _ h)) w h)) hG) good_iob hG hK hP hD hS (hl.1.trans hml.symm) hne hlocks (by decide) hT dX4_dot_22 dX4_dot_25 dX4_dot_26 dX4_dot_28 dX4_dot_31
    · refine lv_iload_n hx hb dX4_dot_11 rfl (lv_at hl 2 rfl) ?_
      refine lv_if_lt (tgt := 22) hx hb dX4_dot_12 (by decide) (fun c_3 => ?_) (fun c_3 => ?_)
      · have hT : xDotX g f a p1 p2 = true := by
          unfold xDotX
          refine (if_neg c_1).trans ?_
          refine (if_neg c_2).trans ?_
          refine (if_pos c_3).trans ?_
          rfl
        exact KT.throw (sa := sc 5) hx hb hl0 hown (by decide +kernel) (hts (.classLink RX4 81 "java/lang/IndexOutOfBoundsException") (List.mem_cons_of_mem _ (List.mem_append_left _ (List.mem_append_left _ (List.mem_append_left _ (List.mem_append_left _ (List.mem_of_getElem? (i := 0) rfl))))))) (hts (.initialized "java/lang/IndexOutOfBoundsException") (List.mem_cons_of_mem _ (List.mem_append_left _ (List.mem_append_left _ (List.mem_append_left _ (List.mem_append_left _ (List.mem_of_getElem? (i := 1) rfl))))))) hs83 (hat_iob (fun w h => hts w ((fun w h => List.mem_cons_of_mem _ (List.mem_append_right _ h)) w h)) hG) good_iob hG hK hP hD hS (hl.1.trans hml.symm) hne hlocks (by decide) hT dX4_dot_22 dX4_dot_25 dX4_dot_26 dX4_dot_28 dX4_dot_31
      · refine lv_iload_n hx hb dX4_dot_15 rfl (lv_at hl 2 rfl) ?_
        refine lv_sipush (v := 256) hx hb dX4_dot_16 (by decide) ?_
        refine lv_icmp_lt (tgt := 32) hx hb dX4_dot_19 (by decide) (fun c_4 => ?_) (fun c_4 => ?_)
        · refine lv_aload_n hx hb dX4_dot_32 rfl (lv_at hl 0 rfl) ?_
          refine va_get (ci := 4) (v := .ref (o 2)) (C := RX4) (T := TX4) (N := 4) hx hb hts hi4 hown hK hP 0 rfl rfl 0 (by decide) (hts (.fieldLink RX4 10 "InvaderBoard" "store" "LInvaderBoard$Memory;") (List.mem_cons_of_mem _ (List.mem_append_left _ (List.mem_append_left _ (List.mem_append_left _ (List.mem_append_left _ (List.mem_of_getElem? (i := 2) rfl))))))) (fun _ h9 => h9) rfl dX4_dot_33 ?_
          refine lv_iload_n hx hb dX4_dot_36 rfl (lv_at hl 1 rfl) ?_
          refine lv_iload_n hx hb dX4_dot_37 rfl (lv_at hl 2 rfl) ?_
          refine lv_iload_n hx hb dX4_dot_38 rfl (lv_at hl 2 rfl) ?_
          refine lv_iconst (v := 1) hx hb dX4_dot_39 (by decide) ?_
          refine lv_iadd hx hb dX4_dot_40 ?_
          refine KC.calli (ci := 1) (rest := []) (wt := wX cI o g f a) (kX1_dotsInColumn l D cI o a p1 p2 (p2 + (1 : Int32))) (cwV 3 hts gX4_dot_X1_dotsInColumn rfl rfl rfl (by decide +kernel) ⟨Nat.le_of_ble_eq_true rfl, Nat.le_of_ble_eq_true rfl⟩) ⟨hx, hb, hml, hown, hts⟩ hK hP hD hS hA rfl rfl rfl [4, 5, 6] [0, 1, 2, 3, 7, 8, 9, 10] [0, 1, 2, 3, 8, 9, 10, 4, 5, 6, 7] (by decide) rfl (wr := [_, _, _, _, _, _, _, _]) rfl (by decide) (by decide) (by decide) rfl rfl hl.1 rfl (Nat.le_of_ble_eq_true rfl) dX4_dot_41 ⟨Nat.zero_le _, Nat.zero_le _⟩ (fun H locs hP hD hS => ?_)
          have hF : xDot g f a p1 p2 = xDots a p1 p2 (p2 + (1 : Int32)) := by
            unfold xDot
            refine (if_neg c_1).trans ?_
            refine (if_neg c_2).trans ?_
            refine (if_neg c_3).trans ?_
            refine (if_pos c_4).trans ?_
            rfl
          rw [hF]
          have hT : xDotX g f a p1 p2 = false := by
            unfold xDotX
            refine (if_neg c_1).trans ?_
            refine (if_neg c_2).trans ?_
            refine (if_neg c_3).trans ?_
            refine (if_pos c_4).trans ?_
            rfl
          exact KT.reti hx hb hr hlocks hK hP hD hS dX4_dot_44 (by rw [hT]; decide) rfl
        · have hT : xDotX g f a p1 p2 = true := by
            unfold xDotX
            refine (if_neg c_1).trans ?_
            refine (if_neg c_2).trans ?_
            refine (if_neg c_3).trans ?_
            refine (if_neg c_4).trans ?_
            rfl
          exact KT.throw (sa := sc 5) hx hb hl0 hown (by decide +kernel) (hts (.classLink RX4 81 "java/lang/IndexOutOfBoundsException") (List.mem_cons_of_mem _ (List.mem_append_left _ (List.mem_append_left _ (List.mem_append_left _ (List.mem_append_left _ (List.mem_of_getElem? (i := 0) rfl))))))) (hts (.initialized "java/lang/IndexOutOfBoundsException") (List.mem_cons_of_mem _ (List.mem_append_left _ (List.mem_append_left _ (List.mem_append_left _ (List.mem_append_left _ (List.mem_of_getElem? (i := 1) rfl))))))) hs83 (hat_iob (fun w h => hts w ((fun w h => List.mem_cons_of_mem _ (List.mem_append_right _ h)) w h)) hG) good_iob hG hK hP hD hS (hl.1.trans hml.symm) hne hlocks (by decide) hT dX4_dot_22 dX4_dot_25 dX4_dot_26 dX4_dot_28 dX4_dot_31
def xState (g : Nat → Int32) (f : Nat → Int32) (a : Nat → Nat → Int32) (p1 : Int32) : Int32 :=
  if p1 = (0 : Int32) then xLatchOf f a (0 : Int32)
  else if p1 = (1 : Int32) then xLatchOf f a (1 : Int32)
    else if p1 = (2 : Int32) then g 8
      else if p1 = (3 : Int32) then g 9
        else if p1 = (4 : Int32) then g 10
          else if p1 = (5 : Int32) then f 7
            else if p1 = (6 : Int32) then xShifted f a
              else (0 : Int32)
def xStateX (g : Nat → Int32) (f : Nat → Int32) (a : Nat → Nat → Int32) (p1 : Int32) : Bool :=
  if p1 = (0 : Int32) then false
  else if p1 = (1 : Int32) then false
    else if p1 = (2 : Int32) then false
      else if p1 = (3 : Int32) then false
        else if p1 = (4 : Int32) then false
          else if p1 = (5 : Int32) then false
            else if p1 = (6 : Int32) then false
              else true
set_option maxHeartbeats 4000000 in
set_option maxRecDepth 100000 in
theorem kX4_state (l : Launch) (hl0 : l.stackTraces = false) (D : va_G) (cI : ClassId) (o : Nat → Nat) (tS : Nat) (sc : Nat → Nat) (g : Nat → Int32) (f : Nat → Int32) (a : Nat → Nat → Int32) (p1 : Int32) : KT l yX4_state wsX4_state 7 tS sc [.ref (o 10), .int p1] D cI (wX cI o g f a) (xStateX g f a p1 = true) "java/lang/IllegalArgumentException" (wX cI o g f a) (some (.int (xState g f a p1))) := by
  refine KT.of (cc := cX4_state) (maxL := 2) (by decide) rfl (Nat.le_of_ble_eq_true rfl) ?_
  intro p e s m below meth c A hx hb hr hts hown hlocks hml hne hK hP hD hS hA hG ls hl
  obtain ⟨hs41, hs46, hs58, hs68, hs70, hs83, hs114, hs116⟩ := hG.2.2.2.1
  obtain ⟨hn97, hn101, hn104, hn107, hn121, hn131⟩ := hG.2.2.1
  have hl : lv_has ls 2 [(0, .ref (o 10)), (1, .int p1)] := hl
  have hown : s.vm.findClass RX4 = some m.cls := hown
  have hi0 : ∀ w ∈ u_ws RX0 TX0 3, w ∈ wsX4_state := fun w h => List.mem_cons_of_mem _ (List.mem_append_left _ (List.mem_append_left _ (List.mem_append_right _ h)))
  have hi2 : ∀ w ∈ u_ws RX2 TX2 6, w ∈ wsX4_state := fun w h => List.mem_cons_of_mem _ (List.mem_append_left _ (List.mem_append_right _ h))
  have hi4 : ∀ w ∈ u_ws RX4 TX4 4, w ∈ wsX4_state := fun w h => List.mem_cons_of_mem _ (List.mem_append_left _ (List.mem_append_left _ (List.mem_append_left _ (List.mem_append_right _ h))))
  refine lv_iload_n hx hb dX4_state_0 rfl (lv_at hl 1 rfl) ?_
  by_cases c_1 : p1 = (0 : Int32)
  · refine k_tin (tgt := 44) hx hb (0 : Int32) c_1 dX4_state_1 (by decide) (by decide) rfl (by decide) ?_
    refine lv_aload_n hx hb dX4_state_44 rfl (lv_at hl 0 rfl) ?_
    refine va_get (ci := 4) (v := .ref (o 5)) (C := RX4) (T := TX4) (N := 4) hx hb hts hi4 hown hK hP 0 rfl rfl 1 (by decide) (hts (.fieldLink RX4 19 "InvaderBoard" "ports" "LInvaderBoard$Ports;") (List.mem_cons_of_mem _ (List.mem_append_left _ (List.mem_append_left _ (List.mem_append_left _ (List.mem_append_left _ (List.mem_of_getElem? (i := 2) rfl))))))) (fun _ h9 => h9) rfl dX4_state_45 ?_
    refine lv_iconst (v := 0) hx hb dX4_state_48 (by decide) ?_
    refine KC.calli (ci := 2) (rest := []) (wt := wX cI o g f a) (kX2_latchOf l D cI o f a (0 : Int32)) (cwV 1 hts gX4_state_X2_latchOf rfl rfl rfl (by decide +kernel) ⟨Nat.le_of_ble_eq_true rfl, Nat.le_of_ble_eq_true rfl⟩) ⟨hx, hb, hml, hown, hts⟩ hK hP hD hS hA rfl rfl rfl [7, 8, 9, 10] [0, 1, 2, 3, 4, 5, 6] [0, 1, 2, 3, 4, 5, 6, 7, 8, 9, 10] (by decide) rfl (wr := [_, _, _, _, _, _, _]) rfl (by decide) (by decide) (by decide) rfl rfl hl.1 rfl (Nat.le_of_ble_eq_true rfl) dX4_state_49 ⟨Nat.zero_le _, Nat.zero_le _⟩ (fun H locs hP hD hS => ?_)
    have hF : xState g f a p1 = xLatchOf f a (0 : Int32) := by
      unfold xState
      refine (if_pos c_1).trans ?_
      rfl
    rw [hF]
    have hT : xStateX g f a p1 = false := by
      unfold xStateX
      refine (if_pos c_1).trans ?_
      rfl
    exact KT.reti hx hb hr hlocks hK hP hD hS dX4_state_52 (by rw [hT]; decide) rfl
  by_cases c_2 : p1 = (1 : Int32)
  · refine k_tin (tgt := 53) hx hb (1 : Int32) c_2 dX4_state_1 (by decide) (by decide) rfl (by decide) ?_
    refine lv_aload_n hx hb dX4_state_53 rfl (lv_at hl 0 rfl) ?_
    refine va_get (ci := 4) (v := .ref (o 5)) (C := RX4) (T := TX4) (N := 4) hx hb hts hi4 hown hK hP 0 rfl rfl 1 (by decide) (hts (.fieldLink RX4 19 "InvaderBoard" "ports" "LInvaderBoard$Ports;") (List.mem_cons_of_mem _ (List.mem_append_left _ (List.mem_append_left _ (List.mem_append_left _ (List.mem_append_left _ (List.mem_of_getElem? (i := 2) rfl))))))) (fun _ h9 => h9) rfl dX4_state_54 ?_
    refine lv_iconst (v := 1) hx hb dX4_state_57 (by decide) ?_
    refine KC.calli (ci := 2) (rest := []) (wt := wX cI o g f a) (kX2_latchOf l D cI o f a (1 : Int32)) (cwV 1 hts gX4_state_X2_latchOf rfl rfl rfl (by decide +kernel) ⟨Nat.le_of_ble_eq_true rfl, Nat.le_of_ble_eq_true rfl⟩) ⟨hx, hb, hml, hown, hts⟩ hK hP hD hS hA rfl rfl rfl [7, 8, 9, 10] [0, 1, 2, 3, 4, 5, 6] [0, 1, 2, 3, 4, 5, 6, 7, 8, 9, 10] (by decide) rfl (wr := [_, _, _, _, _, _, _]) rfl (by decide) (by decide) (by decide) rfl rfl hl.1 rfl (Nat.le_of_ble_eq_true rfl) dX4_state_58 ⟨Nat.zero_le _, Nat.zero_le _⟩ (fun H locs hP hD hS => ?_)
    have hF : xState g f a p1 = xLatchOf f a (1 : Int32) := by
      unfold xState
      refine (if_neg c_1).trans ?_
      refine (if_pos c_2).trans ?_
      rfl
    rw [hF]
    have hT : xStateX g f a p1 = false := by
      unfold xStateX
      refine (if_neg c_1).trans ?_
      refine (if_pos c_2).trans ?_
      rfl
    exact KT.reti hx hb hr hlocks hK hP hD hS dX4_state_61 (by rw [hT]; decide) rfl
  by_cases c_3 : p1 = (2 : Int32)
  · refine k_tin (tgt := 62) hx hb (2 : Int32) c_3 dX4_state_1 (by decide) (by decide) rfl (by decide) ?_
    refine lv_aload_n hx hb dX4_state_62 rfl (lv_at hl 0 rfl) ?_
    refine va_get (ci := 4) (v := .ref (o 9)) (C := RX4) (T := TX4) (N := 4) hx hb hts hi4 hown hK hP 0 rfl rfl 3 (by decide) (hts (.fieldLink RX4 35 "InvaderBoard" "frames" "LInvaderBoard$Frames;") (List.mem_cons_of_mem _ (List.mem_append_left _ (List.mem_append_left _ (List.mem_append_left _ (List.mem_append_left _ (List.mem_of_getElem? (i := 3) rfl))))))) (fun _ h9 => h9) rfl dX4_state_63 ?_
    refine va_getN (ci := 0) (v := .int (g 8)) (C := RX0) (T := TX0) (N := 3) (own := RX4) hx hb hts hi0 hown hK hP 1 rfl rfl 0 (by decide) (va_Nw.use rfl hn97) (fun _ h9 => h9) rfl dX4_state_66 ?_
    have hF : xState g f a p1 = g 8 := by
      unfold xState
      refine (if_neg c_1).trans ?_
      refine (if_neg c_2).trans ?_
      refine (if_pos c_3).trans ?_
      rfl
    rw [hF]
    have hT : xStateX g f a p1 = false := by
      unfold xStateX
      refine (if_neg c_1).trans ?_
      refine (if_neg c_2).trans ?_
      refine (if_pos c_3).trans ?_
      rfl
    exact KT.reti hx hb hr hlocks hK hP hD hS dX4_state_69 (by rw [hT]; decide) rfl
  by_cases c_4 : p1 = (3 : Int32)
  · refine k_tin (tgt := 70) hx hb (3 : Int32) c_4 dX4_state_1 (by decide) (by decide) rfl (by decide) ?_
    refine lv_aload_n hx hb dX4_state_70 rfl (lv_at hl 0 rfl) ?_
    refine va_get (ci := 4) (v := .ref (o 9)) (C := RX4) (T := TX4) (N := 4) hx hb hts hi4 hown hK hP 0 rfl rfl 3 (by decide) (hts (.fieldLink RX4 35 "InvaderBoard" "frames" "LInvaderBoard$Frames;") (List.mem_cons_of_mem _ (List.mem_append_left _ (List.mem_append_left _ (List.mem_append_left _ (List.mem_append_left _ (List.mem_of_getElem? (i := 3) rfl))))))) (fun _ h9 => h9) rfl dX4_state_71 ?_
    refine va_getN (ci := 0) (v := .int (g 9)) (C := RX0) (T := TX0) (N := 3) (own := RX4) hx hb hts hi0 hown hK hP 1 rfl rfl 1 (by decide) (va_Nw.use rfl hn101) (fun _ h9 => h9) rfl dX4_state_74 ?_
    have hF : xState g f a p1 = g 9 := by
      unfold xState
      refine (if_neg c_1).trans ?_
      refine (if_neg c_2).trans ?_
      refine (if_neg c_3).trans ?_
      refine (if_pos c_4).trans ?_
      rfl
    rw [hF]
    have hT : xStateX g f a p1 = false := by
      unfold xStateX
      refine (if_neg c_1).trans ?_
      refine (if_neg c_2).trans ?_
      refine (if_neg c_3).trans ?_
      refine (if_pos c_4).trans ?_
      rfl
    exact KT.reti hx hb hr hlocks hK hP hD hS dX4_state_77 (by rw [hT]; decide) rfl
  by_cases c_5 : p1 = (4 : Int32)
  · refine k_tin (tgt := 78) hx hb (4 : Int32) c_5 dX4_state_1 (by decide) (by decide) rfl (by decide) ?_
    refine lv_aload_n hx hb dX4_state_78 rfl (lv_at hl 0 rfl) ?_
    refine va_get (ci := 4) (v := .ref (o 9)) (C := RX4) (T := TX4) (N := 4) hx hb hts hi4 hown hK hP 0 rfl rfl 3 (by decide) (hts (.fieldLink RX4 35 "InvaderBoard" "frames" "LInvaderBoard$Frames;") (List.mem_cons_of_mem _ (List.mem_append_left _ (List.mem_append_left _ (List.mem_append_left _ (List.mem_append_left _ (List.mem_of_getElem? (i := 3) rfl))))))) (fun _ h9 => h9) rfl dX4_state_79 ?_
    refine va_getN (ci := 0) (v := .int (g 10)) (C := RX0) (T := TX0) (N := 3) (own := RX4) hx hb hts hi0 hown hK hP 1 rfl rfl 2 (by decide) (va_Nw.use rfl hn104) (fun _ h9 => h9) rfl dX4_state_82 ?_
    have hF : xState g f a p1 = g 10 := by
      unfold xState
      refine (if_neg c_1).trans ?_
      refine (if_neg c_2).trans ?_
      refine (if_neg c_3).trans ?_
      refine (if_neg c_4).trans ?_
      refine (if_pos c_5).trans ?_
      rfl
    rw [hF]
    have hT : xStateX g f a p1 = false := by
      unfold xStateX
      refine (if_neg c_1).trans ?_
      refine (if_neg c_2).trans ?_
      refine (if_neg c_3).trans ?_
      refine (if_neg c_4).trans ?_
      refine (if_pos c_5).trans ?_
      rfl
    exact KT.reti hx hb hr hlocks hK hP hD hS dX4_state_85 (by rw [hT]; decide) rfl
  by_cases c_6 : p1 = (5 : Int32)
  · refine k_tin (tgt := 86) hx hb (5 : Int32) c_6 dX4_state_1 (by decide) (by decide) rfl (by decide) ?_
    refine lv_aload_n hx hb dX4_state_86 rfl (lv_at hl 0 rfl) ?_
    refine va_get (ci := 4) (v := .ref (o 5)) (C := RX4) (T := TX4) (N := 4) hx hb hts hi4 hown hK hP 0 rfl rfl 1 (by decide) (hts (.fieldLink RX4 19 "InvaderBoard" "ports" "LInvaderBoard$Ports;") (List.mem_cons_of_mem _ (List.mem_append_left _ (List.mem_append_left _ (List.mem_append_left _ (List.mem_append_left _ (List.mem_of_getElem? (i := 2) rfl))))))) (fun _ h9 => h9) rfl dX4_state_87 ?_
    refine va_getN (ci := 2) (v := .int (f 7)) (C := RX2) (T := TX2) (N := 6) (own := RX4) hx hb hts hi2 hown hK hP 7 rfl rfl 5 (by decide) (va_Nw.use rfl hn107) (fun _ h9 => h9) rfl dX4_state_90 ?_
    have hF : xState g f a p1 = f 7 := by
      unfold xState
      refine (if_neg c_1).trans ?_
      refine (if_neg c_2).trans ?_
      refine (if_neg c_3).trans ?_
      refine (if_neg c_4).trans ?_
      refine (if_neg c_5).trans ?_
      refine (if_pos c_6).trans ?_
      rfl
    rw [hF]
    have hT : xStateX g f a p1 = false := by
      unfold xStateX
      refine (if_neg c_1).trans ?_
      refine (if_neg c_2).trans ?_
      refine (if_neg c_3).trans ?_
      refine (if_neg c_4).trans ?_
      refine (if_neg c_5).trans ?_
      refine (if_pos c_6).trans ?_
      rfl
    exact KT.reti hx hb hr hlocks hK hP hD hS dX4_state_93 (by rw [hT]; decide) rfl
  by_cases c_7 : p1 = (6 : Int32)
  · refine k_tin (tgt := 94) hx hb (6 : Int32) c_7 dX4_state_1 (by decide) (by decide) rfl (by decide) ?_
    refine lv_aload_n hx hb dX4_state_94 rfl (lv_at hl 0 rfl) ?_
    refine va_get (ci := 4) (v := .ref (o 5)) (C := RX4) (T := TX4) (N := 4) hx hb hts hi4 hown hK hP 0 rfl rfl 1 (by decide) (hts (.fieldLink RX4 19 "InvaderBoard" "ports" "LInvaderBoard$Ports;") (List.mem_cons_of_mem _ (List.mem_append_left _ (List.mem_append_left _ (List.mem_append_left _ (List.mem_append_left _ (List.mem_of_getElem? (i := 2) rfl))))))) (fun _ h9 => h9) rfl dX4_state_95 ?_
    refine KC.calli (ci := 2) (rest := []) (wt := wX cI o g f a) (kX2_shifted l D cI o f a) (cwV 0 hts gX4_state_X2_shifted rfl rfl rfl (by decide +kernel) ⟨Nat.le_of_ble_eq_true rfl, Nat.le_of_ble_eq_true rfl⟩) ⟨hx, hb, hml, hown, hts⟩ hK hP hD hS hA rfl rfl rfl [7, 8, 9, 10] [0, 1, 2, 3, 4, 5, 6] [0, 1, 2, 3, 4, 5, 6, 7, 8, 9, 10] (by decide) rfl (wr := [_, _, _, _, _, _, _]) rfl (by decide) (by decide) (by decide) rfl rfl hl.1 rfl (Nat.le_of_ble_eq_true rfl) dX4_state_98 ⟨Nat.zero_le _, Nat.zero_le _⟩ (fun H locs hP hD hS => ?_)
    have hF : xState g f a p1 = xShifted f a := by
      unfold xState
      refine (if_neg c_1).trans ?_
      refine (if_neg c_2).trans ?_
      refine (if_neg c_3).trans ?_
      refine (if_neg c_4).trans ?_
      refine (if_neg c_5).trans ?_
      refine (if_neg c_6).trans ?_
      refine (if_pos c_7).trans ?_
      rfl
    rw [hF]
    have hT : xStateX g f a p1 = false := by
      unfold xStateX
      refine (if_neg c_1).trans ?_
      refine (if_neg c_2).trans ?_
      refine (if_neg c_3).trans ?_
      refine (if_neg c_4).trans ?_
      refine (if_neg c_5).trans ?_
      refine (if_neg c_6).trans ?_
      refine (if_pos c_7).trans ?_
      rfl
    exact KT.reti hx hb hr hlocks hK hP hD hS dX4_state_101 (by rw [hT]; decide) rfl
  refine lv_tableOut (tgt := 102) hx hb dX4_state_1 (by have := lv_neT c_1 (k := (0 : Int32)) (a := 0) (by decide); have := lv_neT c_2 (k := (1 : Int32)) (a := 1) (by decide); have := lv_neT c_3 (k := (2 : Int32)) (a := 2) (by decide); have := lv_neT c_4 (k := (3 : Int32)) (a := 3) (by decide); have := lv_neT c_5 (k := (4 : Int32)) (a := 4) (by decide); have := lv_neT c_6 (k := (5 : Int32)) (a := 5) (by decide); have := lv_neT c_7 (k := (6 : Int32)) (a := 6) (by decide); omega) (by decide) ?_
  have hT : xStateX g f a p1 = true := by
    unfold xStateX
    refine (if_neg c_1).trans ?_
    refine (if_neg c_2).trans ?_
    refine (if_neg c_3).trans ?_
    refine (if_neg c_4).trans ?_
    refine (if_neg c_5).trans ?_
    refine (if_neg c_6).trans ?_
    refine (if_neg c_7).trans ?_
    rfl
  exact KT.throw (sa := sc 6) hx hb hl0 hown (by decide +kernel) (hts (.classLink RX4 39 "java/lang/IllegalArgumentException") (List.mem_cons_of_mem _ (List.mem_append_left _ (List.mem_append_left _ (List.mem_append_left _ (List.mem_append_left _ (List.mem_of_getElem? (i := 0) rfl))))))) (hts (.initialized "java/lang/IllegalArgumentException") (List.mem_cons_of_mem _ (List.mem_append_left _ (List.mem_append_left _ (List.mem_append_left _ (List.mem_append_left _ (List.mem_of_getElem? (i := 1) rfl))))))) hs114 (hat_iae (fun w h => hts w ((fun w h => List.mem_cons_of_mem _ (List.mem_append_right _ h)) w h)) hG) good_iae hG hK hP hD hS (hl.1.trans hml.symm) hne hlocks (by decide) hT dX4_state_102 dX4_state_105 dX4_state_106 dX4_state_108 dX4_state_111
