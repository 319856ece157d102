/-! THE START -/
theorem mid0 : Mid zI (upd zI 11 (2 : Int32)) zI := ⟨⟨rfl, rfl, rfl, rfl, rfl, rfl, rfl, rfl, by decide⟩, ⟨rfl, rfl, rfl⟩, ⟨⟨0, by omega, nI_0.symm⟩, ⟨0, by omega, nI_0.symm⟩, ⟨0, by omega, nI_0.symm⟩, Or.inl rfl⟩, ⟨Or.inl rfl, Or.inl rfl, Or.inl rfl⟩, Or.inl rfl, Or.inl rfl, Or.inl rfl, Or.inl rfl, Or.inl rfl, Or.inl rfl⟩
theorem oka0 : OkA (fun _ => zI) := ⟨fun _ => ⟨0, by omega, nI_0.symm⟩, fun _ => ⟨0, by omega, nI_0.symm⟩, fun _ => ⟨0, by omega, nI_0.symm⟩, fun _ => ⟨0, by omega, nI_0.symm⟩, fun _ => ⟨0, by omega, nI_0.symm⟩⟩
set_option maxRecDepth 100000 in
theorem st_in : ∀ j : Fin 256, (flatC (Jvm.Cond.and given_1 narrow_1))[7 + j.val]? = some (Cond.eq (.elem (.static "InvaderBoard$Processor" "STATES" "[I") (.int (Int32.ofNat j.val))) (.int (xSt j.val))) := by decide +kernel
set_option maxRecDepth 100000 in
theorem st_a : Cond.arrayOf (.static "InvaderBoard$Processor" "STATES" "[I") .int ∈ flatC (Jvm.Cond.and given_1 narrow_1) := List.mem_of_getElem? (i := 5) (by decide +kernel)
set_option maxRecDepth 100000 in
theorem st_l : Cond.eq (.length (.static "InvaderBoard$Processor" "STATES" "[I")) (.int 256) ∈ flatC (Jvm.Cond.and given_1 narrow_1) := List.mem_of_getElem? (i := 6) (by decide +kernel)
set_option maxRecDepth 100000 in
theorem st_u : Cond.isRef (.static Bundle.tN "UNASSIGNED_STACK" Bundle.steD) ∈ flatC (Jvm.Cond.and given_1 narrow_1) := List.mem_of_getElem? (i := 263) (by decide +kernel)
set_option maxRecDepth 100000 in
theorem st_s : Cond.isRef (.static Bundle.tN "SUPPRESSED_SENTINEL" Bundle.listD) ∈ flatC (Jvm.Cond.and given_1 narrow_1) := List.mem_of_getElem? (i := 264) (by decide +kernel)
set_option maxRecDepth 100000 in
theorem st_G {b : Nat} {s : State} (hts : ∀ w ∈ lw_tbl, w.before #[Value.ref b] s = true) (hgv : (Jvm.Cond.and given_1 narrow_1).before #[Value.ref b] s = true) : ∃ (tS : Nat) (sc : Nat → Nat), sG tS sc (fun q : Nat => s.heap.size ≤ q) s s.heap := by
  have hf := flat_of_before _ hgv
  have hA : ∀ a : Nat, a < s.heap.size → ¬ (fun q : Nat => s.heap.size ≤ q) a := fun a h => Nat.not_le.mpr h
  obtain ⟨tS, htS, hT⟩ := va_Tof (tm := .static "InvaderBoard$Processor" "STATES" "[I") (ty := .int) (N := 256) (f := fun j => .int (xSt j)) (by decide) (hf _ st_a) (va_eqt (hf _ st_l)) (fun j hj => va_eqt (hf _ (List.mem_of_getElem? (st_in ⟨j, hj⟩)))) hA
  have hZ := va_Zof (hts (.laysStatic "InvaderBoard$Processor" "STATES" "[I") (lt1 _ (List.mem_of_getElem? (i := 205) rfl))) (hts (.initialized "InvaderBoard$Processor") (lt1 _ (List.mem_of_getElem? (i := 4) rfl))) htS hA
  have hU1 := vx_Zqof (hts (.laysStatic Bundle.tN "UNASSIGNED_STACK" Bundle.steD) (lt2 _ (List.mem_of_getElem? (i := 200) rfl))) (hts (.initialized Bundle.tN) (lt1 _ (List.mem_of_getElem? (i := 7) rfl))) (hf _ st_u) hA
  have hU2 := vx_Zqof (hts (.laysStatic Bundle.tN "SUPPRESSED_SENTINEL" Bundle.listD) (lt2 _ (List.mem_of_getElem? (i := 202) rfl))) (hts (.initialized Bundle.tN) (lt1 _ (List.mem_of_getElem? (i := 7) rfl))) (hf _ st_s) hA
  have hn97 : va_Nw (.fieldLinkNest "InvaderBoard" 97 "InvaderBoard$Frames" "gone" "I" "InvaderBoard") s := va_Nw.of rfl (hts _ (lt1 _ (List.mem_of_getElem? (i := 105) rfl)))
  have hn101 : va_Nw (.fieldLinkNest "InvaderBoard" 101 "InvaderBoard$Frames" "ended" "I" "InvaderBoard") s := va_Nw.of rfl (hts _ (lt1 _ (List.mem_of_getElem? (i := 107) rfl)))
  have hn104 : va_Nw (.fieldLinkNest "InvaderBoard" 104 "InvaderBoard$Frames" "waiting" "I" "InvaderBoard") s := va_Nw.of rfl (hts _ (lt1 _ (List.mem_of_getElem? (i := 109) rfl)))
  have hn107 : va_Nw (.fieldLinkNest "InvaderBoard" 107 "InvaderBoard$Ports" "framesUnfed" "I" "InvaderBoard") s := va_Nw.of rfl (hts _ (lt1 _ (List.mem_of_getElem? (i := 48) rfl)))
  have hn121 : va_Nw (.fieldLinkNest "InvaderBoard" 121 "InvaderBoard$Processor" "enabled" "Z" "InvaderBoard") s := va_Nw.of rfl (hts _ (lt1 _ (List.mem_of_getElem? (i := 75) rfl)))
  have hn131 : va_Nw (.fieldLinkNest "InvaderBoard" 131 "InvaderBoard$Processor" "halted" "Z" "InvaderBoard") s := va_Nw.of rfl (hts _ (lt1 _ (List.mem_of_getElem? (i := 78) rfl)))
  obtain ⟨cX, -, hfc, -⟩ := Cond.instantiable_spec (hts (.instantiable RX4 4) (lt1 _ (List.mem_of_getElem? (i := 15) rfl)))
  have hw41 : (Cond.stringRef RX4 41 "a word has 1 to 4 bytes to load").before #[Value.ref b] s = true := hts _ (lt2 _ (List.mem_of_getElem? (i := 213) rfl))
  obtain ⟨-, -, -, a41, -, -, -, -, -, hv41⟩ := Cond.stringRef_spec hfc hw41
  have hw46 : (Cond.stringRef RX4 46 "the bytes are not all inside the ROM").before #[Value.ref b] s = true := hts _ (lt3 _ (List.mem_of_getElem? (i := 0) rfl))
  obtain ⟨-, -, -, a46, -, -, -, -, -, hv46⟩ := Cond.stringRef_spec hfc hw46
  have hw58 : (Cond.stringRef RX4 58 "no such input port").before #[Value.ref b] s = true := hts _ (lt3 _ (List.mem_of_getElem? (i := 12) rfl))
  obtain ⟨-, -, -, a58, -, -, -, -, -, hv58⟩ := Cond.stringRef_spec hfc hw58
  have hw68 : (Cond.stringRef RX4 68 "a run has 1 to 40000 states").before #[Value.ref b] s = true := hts _ (lt3 _ (List.mem_of_getElem? (i := 25) rfl))
  obtain ⟨-, -, -, a68, -, -, -, -, -, hv68⟩ := Cond.stringRef_spec hfc hw68
  have hw70 : (Cond.stringRef RX4 70 "no such register").before #[Value.ref b] s = true := hts _ (lt3 _ (List.mem_of_getElem? (i := 33) rfl))
  obtain ⟨-, -, -, a70, -, -, -, -, -, hv70⟩ := Cond.stringRef_spec hfc hw70
  have hw83 : (Cond.stringRef RX4 83 "no such dot").before #[Value.ref b] s = true := hts _ (lt3 _ (List.mem_of_getElem? (i := 55) rfl))
  obtain ⟨-, -, -, a83, -, -, -, -, -, hv83⟩ := Cond.stringRef_spec hfc hw83
  have hw114 : (Cond.stringRef RX4 114 "no such part of the state").before #[Value.ref b] s = true := hts _ (lt3 _ (List.mem_of_getElem? (i := 74) rfl))
  obtain ⟨-, -, -, a114, -, -, -, -, -, hv114⟩ := Cond.stringRef_spec hfc hw114
  have hw116 : (Cond.stringRef RX4 116 "no such sound").before #[Value.ref b] s = true := hts _ (lt3 _ (List.mem_of_getElem? (i := 82) rfl))
  obtain ⟨-, -, -, a116, -, -, -, -, -, hv116⟩ := Cond.stringRef_spec hfc hw116
  have hr : sR_ (fun k => if k = 0 then a41 else if k = 1 then a46 else if k = 2 then a58 else if k = 3 then a68 else if k = 4 then a70 else if k = 5 then a83 else if k = 6 then a114 else a116) s := ⟨vk_R.of hw41 hv41, vk_R.of hw46 hv46, vk_R.of hw58 hv58, vk_R.of hw68 hv68, vk_R.of hw70 hv70, vk_R.of hw83 hv83, vk_R.of hw114 hv114, vk_R.of hw116 hv116⟩
  have hc : sC_ s := ⟨va_Nw.of rfl (hts _ (lt2 _ (List.mem_of_getElem? (i := 175) rfl))), va_Nw.of rfl (hts _ (lt3 _ (List.mem_of_getElem? (i := 48) rfl))), va_Nw.of rfl (hts _ (lt2 _ (List.mem_of_getElem? (i := 177) rfl))), va_Nw.of rfl (hts _ (lt2 _ (List.mem_of_getElem? (i := 179) rfl))), va_Nw.of rfl (hts _ (lt2 _ (List.mem_of_getElem? (i := 181) rfl)))⟩
  exact ⟨tS, _, ⟨hZ, hT⟩, ⟨hU1, hU2⟩, ⟨hn97, hn101, hn104, hn107, hn121, hn131⟩, hr, hc⟩
set_option maxRecDepth 100000 in
theorem st_I {b : Nat} {s : State} (hts : ∀ w ∈ lw_tbl, w.before #[Value.ref b] s = true) : sI_ s := ⟨va_Nw.of rfl (hts _ (lt1 _ (List.mem_of_getElem? (i := 24) rfl))), va_Nw.of rfl (hts _ (lt1 _ (List.mem_of_getElem? (i := 38) rfl))), va_Nw.of rfl (hts _ (lt1 _ (List.mem_of_getElem? (i := 100) rfl)))⟩
set_option maxRecDepth 100000 in
theorem st_K {b : Nat} {s : State} (hts : ∀ w ∈ lw_tbl, w.before #[Value.ref b] s = true) : ∃ (D : va_G) (cI : ClassId), va_K D vwCl [(cI, .int)] s := by
  obtain ⟨c0, i0, hk0⟩ := u_known (C := RX0) (T := TX0) (N := 3) (n := 3) hts luX0 (hts (.instantiable RX0 3) (lt1 _ (List.mem_of_getElem? (i := 99) rfl)))
  obtain ⟨c1, i1, hk1⟩ := u_known (C := RX1) (T := TX1) (N := 2) (n := 2) hts luX1 (hts (.instantiable RX1 2) (lt1 _ (List.mem_of_getElem? (i := 23) rfl)))
  obtain ⟨c2, i2, hk2⟩ := u_known (C := RX2) (T := TX2) (N := 6) (n := 6) hts luX2 (hts (.instantiable RX2 6) (lt1 _ (List.mem_of_getElem? (i := 37) rfl)))
  obtain ⟨c3, i3, hk3⟩ := u_known (C := RX3) (T := TX3) (N := 9) (n := 9) hts luX3 (hts (.instantiable RX3 9) (lt1 _ (List.mem_of_getElem? (i := 63) rfl)))
  obtain ⟨c4, i4, hk4⟩ := u_known (C := RX4) (T := TX4) (N := 4) (n := 4) hts luX4 (hts (.instantiable RX4 4) (lt1 _ (List.mem_of_getElem? (i := 15) rfl)))
  obtain ⟨c5, i5, hk5⟩ := u_known (C := RX5) (T := TX5) (N := 24) (n := 24) hts luX5 (hts (.instantiable RX5 24) (lt3 _ (List.mem_of_getElem? (i := 88) rfl)))
  obtain ⟨cI, kA, comp, h1, h2, h3⟩ := Cond.arrayClass_spec (hts (.arrayClass .int) (lt1 _ (List.mem_of_getElem? (i := 35) rfl)))
  refine ⟨(fun k => if k = 0 then c0 else if k = 1 then c1 else if k = 2 then c2 else if k = 3 then c3 else if k = 4 then c4 else c5, fun k => if k = 0 then i0 else if k = 1 then i1 else if k = 2 then i2 else if k = 3 then i3 else if k = 4 then i4 else i5), cI, ?_, ?_⟩
  · intro k q hq
    match k, hq with
    | 0, hq => cases hq; exact hk0
    | 1, hq => cases hq; exact hk1
    | 2, hq => cases hq; exact hk2
    | 3, hq => cases hq; exact hk3
    | 4, hq => cases hq; exact hk4
    | 5, hq => cases hq; exact hk5
    | k + 6, hq => simp [vwCl] at hq
  · intro k q hq
    match k, hq with
    | 0, hq =>
      cases hq
      exact ⟨fun n z => ⟨fun k h => (by cases h), kA, h2, comp, h3⟩, h1⟩
    | k + 1, hq => simp at hq
