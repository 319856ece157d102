theorem th_inv : ∀ (F : Nat → Int32) (a : Nat → Nat → Int32), (∃ g f : Nat → Int32, Mid g f F) ∧ OkA a → ∀ (r : Int32) (F1 : Nat → Int32) (a1 : Nat → Nat → Int32), rStep F a = (r, F1, a1) → ((∃ g f : Nat → Int32, Mid g f F1) ∧ OkA a1) ∧ 1 ≤ r.toInt ∧ r.toInt ≤ 100 := by
  intro F a h r F1 a1 e
  obtain ⟨⟨g, f, hM⟩, hA⟩ := h
  obtain ⟨n, g2, f2, F2, a2, e1, e2, hM2, hA2, hn, -⟩ := m_step hM hA
  have e3 := e.symm.trans e2
  injection e3 with q1 q2
  injection q2 with q2 q3
  subst q1
  subst q2
  subst q3
  obtain ⟨k, k1, k2, k3⟩ := hn
  rw [k3, nI_toInt (by omega)]
  exact ⟨⟨⟨g2, f2, hM2⟩, hA2⟩, by omega, by omega⟩
set_option maxHeartbeats 4000000 in
set_option maxRecDepth 100000 in
theorem law_load {p : Program} {l : Launch} {e : Env} {s : State} {m : MethodId} {below : List Frame} {meth : Method} {c : Code} {D : va_G} {cI cL : ClassId} {tS : Nat} {sc : Nat → Nat} {b L : Nat} {xs : Nat → Int32} {o : Nat → Nat} {ob : Nat} {x4 : Int32} {cells slots : Nat} {Q : State → Prop} (C : LC p l s m c D cI cL tS sc b L xs) (hf1 : cells + 1 ≤ room_1.cells ∧ slots + 6 ≤ room_1.slots) {g f F : Nat → Int32} {a : Nat → Nat → Int32} {w : Nat → Int64} {H : Heap} {locs : List Loc} {ls : Array Slot} (hM : Mid g f F) (hA : OkA a)
    (hP : va_P D vwCl (wL cI cL o ob g f a F a w) H) (hD : va_D (fun q : Nat => s.heap.size ≤ q) (wL cI cL o ob g f a F a w)) (hS : va_S (fun q : Nat => s.heap.size ≤ q) s.heap H locs) (hl : lv_has ls 7 [(0, .ref b), (1, .ref (o 10)), (2, .ref (o 20)), (3, .ref ob), (4, .int x4)]) (h1 : vp_in (x4 + 1) L) (h2 : vp_in (x4 + 2) L) (h3 : vp_in (x4 + 3) L)
    (kk : LN p l e s m below meth c D cI cL o ob b x4 (cells + 1) (slots + 6) Q) : W p l e room_1 s m #[Value.ref b] below meth c H locs cells slots Q (F0 m 100 ls []) := by
  obtain ⟨hl0, hx, hb, hml, hown, hts, hX, hbl, hK, hL, hG⟩ := C
  have hA0 : ∀ q : Nat, s.heap.size ≤ q → (fun q : Nat => s.heap.size ≤ q) q := fun _ h => h
  have hbA : ¬ (fun q : Nat => s.heap.size ≤ q) b := Nat.not_le.mpr hbl
  have hf0 : cells ≤ room_1.cells ∧ slots ≤ room_1.slots := ⟨Nat.le_trans (Nat.le_add_right _ 1) hf1.1, Nat.le_trans (Nat.le_add_right _ 6) hf1.2⟩
  cases ht : xLoadX g f a (xs (x4 + 1).toNatClampNeg) (xs (x4 + 2).toNatClampNeg) (xs (x4 + 3).toNatClampNeg) with
  | true =>
    have kcL := kL_load_t l hl0 D cI cL o tS sc ob w g f a (xs (x4 + 1).toNatClampNeg) (xs (x4 + 2).toNatClampNeg) (xs (x4 + 3).toNatClampNeg) ht
    have e6 := m_load (g := g) (f := f) F hA (xs (x4 + 1).toNatClampNeg) (xs (x4 + 2).toNatClampNeg) (xs (x4 + 3).toNatClampNeg)
    have e5 := e6.1
    rw [ht] at e5
    rw [th_load ht, th_ua] at e5
    have kc5 := kX5_load l D cI o F a (xs (x4 + 1).toNatClampNeg) (xs (x4 + 2).toNatClampNeg) (xs (x4 + 3).toNatClampNeg)
    rw [e5] at kc5
    dsimp only at kc5
    refine lv_aload_n hx hb dL_law_100 rfl (lv_at hl 1 rfl) ?_
    refine lv_aload_n hx hb dL_law_101 rfl (lv_at hl 0 rfl) ?_
    refine lv_iload hx hb dL_law_102 (lv_at hl 4 rfl) ?_
    refine lv_iconst (v := 1) hx hb dL_law_104 (by decide) ?_
    refine lv_iadd hx hb dL_law_105 ?_
    refine va_sld hx hb hX hbl hbA hS h1 dL_law_106 ?_
    refine lv_aload_n hx hb dL_law_107 rfl (lv_at hl 0 rfl) ?_
    refine lv_iload hx hb dL_law_108 (lv_at hl 4 rfl) ?_
    refine lv_iconst (v := 2) hx hb dL_law_110 (by decide) ?_
    refine lv_iadd hx hb dL_law_111 ?_
    refine va_sld hx hb hX hbl hbA hS h2 dL_law_112 ?_
    refine lv_aload_n hx hb dL_law_113 rfl (lv_at hl 0 rfl) ?_
    refine lv_iload hx hb dL_law_114 (lv_at hl 4 rfl) ?_
    refine lv_iconst (v := 3) hx hb dL_law_116 (by decide) ?_
    refine lv_iadd hx hb dL_law_117 ?_
    refine va_sld hx hb hX hbl hbA hS h3 dL_law_118 ?_
    refine lv_aload_n hx hb dL_law_119 rfl (lv_at hl 3 rfl) ?_
    refine KL.callS (rest := []) (wt := wL cI cL o ob g f a F a w) kcL (vx_cwSW 5 hts gL_law_L_load rfl rfl rfl (by decide +kernel) ⟨Nat.le_of_ble_eq_true rfl, Nat.le_of_ble_eq_true rfl⟩) ⟨hx, hb, hml, hown, hts⟩ hK hL hP hD hS hA0 hG [0, 1, 2, 3, 4, 5, 6, 7, 8, 9, 10, 18] [11, 12, 13, 14, 15, 16, 17] [7, 8, 9, 10, 11, 12, 13, 14, 15, 16, 17, 0, 1, 2, 3, 4, 5, 6, 18] (by decide) rfl (wr := [_, _, _, _, _, _, _]) rfl (by decide) (by decide) (by decide) rfl rfl hl.1 rfl (Nat.le_of_ble_eq_true rfl) dL_law_120 hf1 (fun H locs hP hD hS => ?_)
    refine lv_istore (lv' := [(5, .int 1), (0, .ref b), (1, .ref (o 10)), (2, .ref (o 20)), (3, .ref ob), (4, .int x4)]) hx hb dL_law_123 hl (by decide) rfl (fun ls hl => ?_)
    refine lv_aload_n hx hb dL_law_125 rfl (lv_at hl 3 rfl) ?_
    refine lv_aload_n hx hb dL_law_126 rfl (lv_at hl 1 rfl) ?_
    refine lv_iload hx hb dL_law_127 (lv_at hl 5 rfl) ?_
    refine lv_iconst (v := 1) hx hb dL_law_129 (by decide) ?_
    refine lv_iadd hx hb dL_law_130 ?_
    refine va_sld hx hb hX hbl hbA hS h1 dL_law_131 ?_
    refine lv_aload_n hx hb dL_law_132 rfl (lv_at hl 1 rfl) ?_
    refine lv_iload hx hb dL_law_133 (lv_at hl 5 rfl) ?_
    refine lv_iconst (v := 2) hx hb dL_law_135 (by decide) ?_
    refine lv_iadd hx hb dL_law_136 ?_
    refine va_sld hx hb hX hbl hbA hS h2 dL_law_137 ?_
    refine lv_aload_n hx hb dL_law_138 rfl (lv_at hl 1 rfl) ?_
    refine lv_iload hx hb dL_law_139 (lv_at hl 5 rfl) ?_
    refine lv_iconst (v := 3) hx hb dL_law_141 (by decide) ?_
    refine lv_iadd hx hb dL_law_142 ?_
    refine va_sld hx hb hX hbl hbA hS h3 dL_law_143 ?_
    refine KC.calli (ci := 5) (rest := []) (wt := wL cI cL o ob g f a (upd F 11 (Cd true)) a w) kc5 (cwV 3 hts gL_law_X5_load rfl rfl rfl (by decide +kernel) ⟨Nat.le_of_ble_eq_true rfl, Nat.le_of_ble_eq_true rfl⟩) ⟨hx, hb, hml, hown, hts⟩ hK hP hD hS hA0 rfl rfl rfl [11, 12, 13, 14, 15, 16, 17] [0, 1, 2, 3, 4, 5, 6, 7, 8, 9, 10, 18] [0, 1, 2, 3, 4, 5, 6, 7, 8, 9, 10, 12, 13, 14, 15, 16, 17, 18, 11] (by decide) rfl (wr := [_, _, _, _, _, _, _, _, _, _, _, _]) rfl (by decide) (by decide) (by decide) rfl rfl hl.1 rfl (Nat.le_of_ble_eq_true rfl) dL_law_144 hf1 (fun H locs hP hD hS => ?_)
    refine lv_istore (lv' := [(6, .int ((xLoad g f a (xs (x4 + 1).toNatClampNeg) (xs (x4 + 2).toNatClampNeg) (xs (x4 + 3).toNatClampNeg)).1)), (5, .int 1), (0, .ref b), (1, .ref (o 10)), (2, .ref (o 20)), (3, .ref ob), (4, .int x4)]) hx hb dL_law_147 hl (by decide) rfl (fun ls hl => ?_)
    refine lv_aload_n hx hb dL_law_149 rfl (lv_at hl 4 rfl) ?_
    have kcT := kX5_thrown l D cI o (upd F 11 (Cd true)) a
    refine KC.calli (ci := 5) (rest := []) (wt := wL cI cL o ob g f a (upd F 11 (Cd true)) a w) kcT (cwV 0 hts gL_law_X5_thrown rfl rfl rfl (by decide +kernel) ⟨Nat.le_of_ble_eq_true rfl, Nat.le_of_ble_eq_true rfl⟩) ⟨hx, hb, hml, hown, hts⟩ hK hP hD hS hA0 rfl rfl rfl [11, 12, 13, 14, 15, 16, 17] [0, 1, 2, 3, 4, 5, 6, 7, 8, 9, 10, 18] [0, 1, 2, 3, 4, 5, 6, 7, 8, 9, 10, 12, 13, 14, 15, 16, 17, 18, 11] (by decide) rfl (wr := [_, _, _, _, _, _, _, _, _, _, _, _]) rfl (by decide) (by decide) (by decide) rfl rfl hl.1 rfl (Nat.le_of_ble_eq_true rfl) dL_law_150 hf1 (fun H locs hP hD hS => ?_)
    refine lv_iload hx hb dL_law_153 (lv_at hl 1 rfl) ?_
    refine lv_icmp_eq (tgt := 160) hx hb dL_law_155 (by decide) (fun _ => ?_) (fun c9 => absurd ((th_cd F (Cd true))) c9)
    refine lv_iload hx hb dL_law_160 (lv_at hl 1 rfl) ?_
    refine lv_if_ne (tgt := 177) hx hb dL_law_162 (by decide) (fun _ => ?_) (fun c9 => absurd c9 (by decide))
    refine lv_goto (tgt := 667) hx hb dL_law_177 (by decide) ?_
    exact kk g f (upd F 11 (Cd true)) a w H locs _ (hM.cd _) hA hP hD hS (lv_sub hl [2, 3, 4, 5, 6] rfl)
  | false =>
    have kcL := kL_load_f l hl0 D cI cL o tS sc ob w g f a (xs (x4 + 1).toNatClampNeg) (xs (x4 + 2).toNatClampNeg) (xs (x4 + 3).toNatClampNeg) ht
    have e6 := m_load (g := g) (f := f) F hA (xs (x4 + 1).toNatClampNeg) (xs (x4 + 2).toNatClampNeg) (xs (x4 + 3).toNatClampNeg)
    have e5 := e6.1
    rw [ht] at e5
    have kc5 := kX5_load l D cI o F a (xs (x4 + 1).toNatClampNeg) (xs (x4 + 2).toNatClampNeg) (xs (x4 + 3).toNatClampNeg)
    rw [e5] at kc5
    dsimp only at kc5
    refine lv_aload_n hx hb dL_law_100 rfl (lv_at hl 1 rfl) ?_
    refine lv_aload_n hx hb dL_law_101 rfl (lv_at hl 0 rfl) ?_
    refine lv_iload hx hb dL_law_102 (lv_at hl 4 rfl) ?_
    refine lv_iconst (v := 1) hx hb dL_law_104 (by decide) ?_
    refine lv_iadd hx hb dL_law_105 ?_
    refine va_sld hx hb hX hbl hbA hS h1 dL_law_106 ?_
    refine lv_aload_n hx hb dL_law_107 rfl (lv_at hl 0 rfl) ?_
    refine lv_iload hx hb dL_law_108 (lv_at hl 4 rfl) ?_
    refine lv_iconst (v := 2) hx hb dL_law_110 (by decide) ?_
    refine lv_iadd hx hb dL_law_111 ?_
    refine va_sld hx hb hX hbl hbA hS h2 dL_law_112 ?_
    refine lv_aload_n hx hb dL_law_113 rfl (lv_at hl 0 rfl) ?_
    refine lv_iload hx hb dL_law_114 (lv_at hl 4 rfl) ?_
    refine lv_iconst (v := 3) hx hb dL_law_116 (by decide) ?_
    refine lv_iadd hx hb dL_law_117 ?_
    refine va_sld hx hb hX hbl hbA hS h3 dL_law_118 ?_
    refine lv_aload_n hx hb dL_law_119 rfl (lv_at hl 3 rfl) ?_
    refine KL.callS (rest := []) (wt := wL cI cL o ob g f (ua a 0 ((xLoad g f a (xs (x4 + 1).toNatClampNeg) (xs (x4 + 2).toNatClampNeg) (xs (x4 + 3).toNatClampNeg)).2)) F a (vp_updL w (0 : Int32).toNatClampNeg (((xLoad g f a (xs (x4 + 1).toNatClampNeg) (xs (x4 + 2).toNatClampNeg) (xs (x4 + 3).toNatClampNeg)).1)).toInt64)) kcL (vx_cwSW 5 hts gL_law_L_load rfl rfl rfl (by decide +kernel) ⟨Nat.le_of_ble_eq_true rfl, Nat.le_of_ble_eq_true rfl⟩) ⟨hx, hb, hml, hown, hts⟩ hK hL hP hD hS hA0 hG [0, 1, 2, 3, 4, 5, 6, 7, 8, 9, 10, 18] [11, 12, 13, 14, 15, 16, 17] [7, 8, 9, 10, 11, 12, 13, 14, 15, 16, 17, 0, 1, 2, 3, 4, 5, 6, 18] (by decide) rfl (wr := [_, _, _, _, _, _, _]) rfl (by decide) (by decide) (by decide) rfl rfl hl.1 rfl (Nat.le_of_ble_eq_true rfl) dL_law_120 hf1 (fun H locs hP hD hS => ?_)
    refine lv_istore (lv' := [(5, .int 0), (0, .ref b), (1, .ref (o 10)), (2, .ref (o 20)), (3, .ref ob), (4, .int x4)]) hx hb dL_law_123 hl (by decide) rfl (fun ls hl => ?_)
    refine lv_aload_n hx hb dL_law_125 rfl (lv_at hl 3 rfl) ?_
    refine lv_aload_n hx hb dL_law_126 rfl (lv_at hl 1 rfl) ?_
    refine lv_iload hx hb dL_law_127 (lv_at hl 5 rfl) ?_
    refine lv_iconst (v := 1) hx hb dL_law_129 (by decide) ?_
    refine lv_iadd hx hb dL_law_130 ?_
    refine va_sld hx hb hX hbl hbA hS h1 dL_law_131 ?_
    refine lv_aload_n hx hb dL_law_132 rfl (lv_at hl 1 rfl) ?_
    refine lv_iload hx hb dL_law_133 (lv_at hl 5 rfl) ?_
    refine lv_iconst (v := 2) hx hb dL_law_135 (by decide) ?_
    refine lv_iadd hx hb dL_law_136 ?_
    refine va_sld hx hb hX hbl hbA hS h2 dL_law_137 ?_
    refine lv_aload_n hx hb dL_law_138 rfl (lv_at hl 1 rfl) ?_
    refine lv_iload hx hb dL_law_139 (lv_at hl 5 rfl) ?_
    refine lv_iconst (v := 3) hx hb dL_law_141 (by decide) ?_
    refine lv_iadd hx hb dL_law_142 ?_
    refine va_sld hx hb hX hbl hbA hS h3 dL_law_143 ?_
    refine KC.calli (ci := 5) (rest := []) (wt := wL cI cL o ob g f (ua a 0 ((xLoad g f a (xs (x4 + 1).toNatClampNeg) (xs (x4 + 2).toNatClampNeg) (xs (x4 + 3).toNatClampNeg)).2)) (upd F 11 (Cd false)) (ua a 0 ((xLoad g f a (xs (x4 + 1).toNatClampNeg) (xs (x4 + 2).toNatClampNeg) (xs (x4 + 3).toNatClampNeg)).2)) (vp_updL w (0 : Int32).toNatClampNeg (((xLoad g f a (xs (x4 + 1).toNatClampNeg) (xs (x4 + 2).toNatClampNeg) (xs (x4 + 3).toNatClampNeg)).1)).toInt64)) kc5 (cwV 3 hts gL_law_X5_load rfl rfl rfl (by decide +kernel) ⟨Nat.le_of_ble_eq_true rfl, Nat.le_of_ble_eq_true rfl⟩) ⟨hx, hb, hml, hown, hts⟩ hK hP hD hS hA0 rfl rfl rfl [11, 12, 13, 14, 15, 16, 17] [0, 1, 2, 3, 4, 5, 6, 7, 8, 9, 10, 18] [0, 1, 2, 3, 4, 5, 6, 7, 8, 9, 10, 12, 13, 14, 15, 16, 17, 18, 11] (by decide) rfl (wr := [_, _, _, _, _, _, _, _, _, _, _, _]) rfl (by decide) (by decide) (by decide) rfl rfl hl.1 rfl (Nat.le_of_ble_eq_true rfl) dL_law_144 hf1 (fun H locs hP hD hS => ?_)
    refine lv_istore (lv' := [(6, .int ((xLoad g f a (xs (x4 + 1).toNatClampNeg) (xs (x4 + 2).toNatClampNeg) (xs (x4 + 3).toNatClampNeg)).1)), (5, .int 0), (0, .ref b), (1, .ref (o 10)), (2, .ref (o 20)), (3, .ref ob), (4, .int x4)]) hx hb dL_law_147 hl (by decide) rfl (fun ls hl => ?_)
    refine lv_aload_n hx hb dL_law_149 rfl (lv_at hl 4 rfl) ?_
    have kcT := kX5_thrown l D cI o (upd F 11 (Cd false)) (ua a 0 ((xLoad g f a (xs (x4 + 1).toNatClampNeg) (xs (x4 + 2).toNatClampNeg) (xs (x4 + 3).toNatClampNeg)).2))
    refine KC.calli (ci := 5) (rest := []) (wt := wL cI cL o ob g f (ua a 0 ((xLoad g f a (xs (x4 + 1).toNatClampNeg) (xs (x4 + 2).toNatClampNeg) (xs (x4 + 3).toNatClampNeg)).2)) (upd F 11 (Cd false)) (ua a 0 ((xLoad g f a (xs (x4 + 1).toNatClampNeg) (xs (x4 + 2).toNatClampNeg) (xs (x4 + 3).toNatClampNeg)).2)) (vp_updL w (0 : Int32).toNatClampNeg (((xLoad g f a (xs (x4 + 1).toNatClampNeg) (xs (x4 + 2).toNatClampNeg) (xs (x4 + 3).toNatClampNeg)).1)).toInt64)) kcT (cwV 0 hts gL_law_X5_thrown rfl rfl rfl (by decide +kernel) ⟨Nat.le_of_ble_eq_true rfl, Nat.le_of_ble_eq_true rfl⟩) ⟨hx, hb, hml, hown, hts⟩ hK hP hD hS hA0 rfl rfl rfl [11, 12, 13, 14, 15, 16, 17] [0, 1, 2, 3, 4, 5, 6, 7, 8, 9, 10, 18] [0, 1, 2, 3, 4, 5, 6, 7, 8, 9, 10, 12, 13, 14, 15, 16, 17, 18, 11] (by decide) rfl (wr := [_, _, _, _, _, _, _, _, _, _, _, _]) rfl (by decide) (by decide) (by decide) rfl rfl hl.1 rfl (Nat.le_of_ble_eq_true rfl) dL_law_150 hf1 (fun H locs hP hD hS => ?_)
    refine lv_iload hx hb dL_law_153 (lv_at hl 1 rfl) ?_
    refine lv_icmp_eq (tgt := 160) hx hb dL_law_155 (by decide) (fun _ => ?_) (fun c9 => absurd ((th_cd F (Cd false))) c9)
    refine lv_iload hx hb dL_law_160 (lv_at hl 1 rfl) ?_
    refine lv_if_ne (tgt := 177) hx hb dL_law_162 (by decide) (fun c9 => absurd rfl c9) (fun _ => ?_)
    refine lv_aload_n hx hb dL_law_165 rfl (lv_at hl 5 rfl) ?_
    refine lv_iconst (v := 0) hx hb dL_law_166 (by decide) ?_
    refine va_lald (tys := [(cL, .long)]) hx hb hL hP 18 0 rfl rfl vp_in01 dL_law_167 ?_
    refine lv_iload hx hb dL_law_168 (lv_at hl 0 rfl) ?_
    refine lv_i2l hx hb dL_law_170 rfl ?_
    refine lw_lcmp0 hx hb (th_out w _) dL_law_171 ?_
    refine lv_if_eq (tgt := 177) hx hb dL_law_172 (by decide) (fun _ => ?_) (fun c9 => absurd rfl c9)
    refine lv_goto (tgt := 667) hx hb dL_law_177 (by decide) ?_
    exact kk g f (upd F 11 (Cd false)) (ua a 0 ((xLoad g f a (xs (x4 + 1).toNatClampNeg) (xs (x4 + 2).toNatClampNeg) (xs (x4 + 3).toNatClampNeg)).2)) (vp_updL w (0 : Int32).toNatClampNeg (((xLoad g f a (xs (x4 + 1).toNatClampNeg) (xs (x4 + 2).toNatClampNeg) (xs (x4 + 3).toNatClampNeg)).1)).toInt64) H locs _ (hM.cd _) e6.2 hP hD hS (lv_sub hl [2, 3, 4, 5, 6] rfl)
set_option maxHeartbeats 4000000 in
set_option maxRecDepth 100000 in
theorem law_input {p : Program} {l : Launch} {e : Env} {s : State} {m : MethodId} {below : List Frame} {meth : Method} {c : Code} {D : va_G} {cI cL : ClassId} {tS : Nat} {sc : Nat → Nat} {b L : Nat} {xs : Nat → Int32} {o : Nat → Nat} {ob : Nat} {x4 : Int32} {cells slots : Nat} {Q : State → Prop} (C : LC p l s m c D cI cL tS sc b L xs) (hf1 : cells + 1 ≤ room_1.cells ∧ slots + 6 ≤ room_1.slots) {g f F : Nat → Int32} {a : Nat → Nat → Int32} {w : Nat → Int64} {H : Heap} {locs : List Loc} {ls : Array Slot} (hM : Mid g f F) (hA : OkA a)
    (hP : va_P D vwCl (wL cI cL o ob g f a F a w) H) (hD : va_D (fun q : Nat => s.heap.size ≤ q) (wL cI cL o ob g f a F a w)) (hS : va_S (fun q : Nat => s.heap.size ≤ q) s.heap H locs) (hl : lv_has ls 7 [(0, .ref b), (1, .ref (o 10)), (2, .ref (o 20)), (3, .ref ob), (4, .int x4)]) (h1 : vp_in (x4 + 1) L) (h2 : vp_in (x4 + 2) L)
    (kk : LN p l e s m below meth c D cI cL o ob b x4 (cells + 1) (slots + 6) Q) : W p l e room_1 s m #[Value.ref b] below meth c H locs cells slots Q (F0 m 191 ls []) := by
  obtain ⟨hl0, hx, hb, hml, hown, hts, hX, hbl, hK, hL, hG⟩ := C
  have hA0 : ∀ q : Nat, s.heap.size ≤ q → (fun q : Nat => s.heap.size ≤ q) q := fun _ h => h
  have hbA : ¬ (fun q : Nat => s.heap.size ≤ q) b := Nat.not_le.mpr hbl
  have hf0 : cells ≤ room_1.cells ∧ slots ≤ room_1.slots := ⟨Nat.le_trans (Nat.le_add_right _ 1) hf1.1, Nat.le_trans (Nat.le_add_right _ 6) hf1.2⟩
  cases ht : xInputX g f a (xs (x4 + 1).toNatClampNeg) (xs (x4 + 2).toNatClampNeg) with
  | true =>
    have kcL := kL_input_t l hl0 D cI cL o tS sc g f a (xs (x4 + 1).toNatClampNeg) (xs (x4 + 2).toNatClampNeg) ht
    have e6 := m_input (g := g) (f := f) F hA (xs (x4 + 1).toNatClampNeg) (xs (x4 + 2).toNatClampNeg)
    have e5 := e6.1
    rw [ht] at e5
    rw [th_input ht, th_ua] at e5
    have kc5 := kX5_input l D cI o F a (xs (x4 + 1).toNatClampNeg) (xs (x4 + 2).toNatClampNeg)
    rw [e5] at kc5
    dsimp only at kc5
    refine lv_aload_n hx hb dL_law_191 rfl (lv_at hl 1 rfl) ?_
    refine lv_aload_n hx hb dL_law_192 rfl (lv_at hl 0 rfl) ?_
    refine lv_iload hx hb dL_law_193 (lv_at hl 4 rfl) ?_
    refine lv_iconst (v := 1) hx hb dL_law_195 (by decide) ?_
    refine lv_iadd hx hb dL_law_196 ?_
    refine va_sld hx hb hX hbl hbA hS h1 dL_law_197 ?_
    refine lv_aload_n hx hb dL_law_198 rfl (lv_at hl 0 rfl) ?_
    refine lv_iload hx hb dL_law_199 (lv_at hl 4 rfl) ?_
    refine lv_iconst (v := 2) hx hb dL_law_201 (by decide) ?_
    refine lv_iadd hx hb dL_law_202 ?_
    refine va_sld hx hb hX hbl hbA hS h2 dL_law_203 ?_
    refine KL.callS (rest := []) (wt := wL cI cL o ob g f a F a w) kcL (vx_cwSW 3 hts gL_law_L_input rfl rfl rfl (by decide +kernel) ⟨Nat.le_of_ble_eq_true rfl, Nat.le_of_ble_eq_true rfl⟩) ⟨hx, hb, hml, hown, hts⟩ hK hL hP hD hS hA0 hG [0, 1, 2, 3, 4, 5, 6, 7, 8, 9, 10] [11, 12, 13, 14, 15, 16, 17, 18] [8, 9, 10, 11, 12, 13, 14, 15, 16, 17, 18, 0, 1, 2, 3, 4, 5, 6, 7] (by decide) rfl (wr := [_, _, _, _, _, _, _, _]) rfl (by decide) (by decide) (by decide) rfl rfl hl.1 rfl (Nat.le_of_ble_eq_true rfl) dL_law_204 hf1 (fun H locs hP hD hS => ?_)
    refine lv_istore (lv' := [(5, .int 1), (0, .ref b), (1, .ref (o 10)), (2, .ref (o 20)), (3, .ref ob), (4, .int x4)]) hx hb dL_law_207 hl (by decide) rfl (fun ls hl => ?_)
    refine lv_aload_n hx hb dL_law_209 rfl (lv_at hl 3 rfl) ?_
    refine lv_aload_n hx hb dL_law_210 rfl (lv_at hl 1 rfl) ?_
    refine lv_iload hx hb dL_law_211 (lv_at hl 5 rfl) ?_
    refine lv_iconst (v := 1) hx hb dL_law_213 (by decide) ?_
    refine lv_iadd hx hb dL_law_214 ?_
    refine va_sld hx hb hX hbl hbA hS h1 dL_law_215 ?_
    refine lv_aload_n hx hb dL_law_216 rfl (lv_at hl 1 rfl) ?_
    refine lv_iload hx hb dL_law_217 (lv_at hl 5 rfl) ?_
    refine lv_iconst (v := 2) hx hb dL_law_219 (by decide) ?_
    refine lv_iadd hx hb dL_law_220 ?_
    refine va_sld hx hb hX hbl hbA hS h2 dL_law_221 ?_
    refine KC.callv (ci := 5) (rest := []) (wt := wL cI cL o ob g f a (upd F 11 (Cd true)) a w) kc5 (cwV 2 hts gL_law_X5_input rfl rfl rfl (by decide +kernel) ⟨Nat.le_of_ble_eq_true rfl, Nat.le_of_ble_eq_true rfl⟩) ⟨hx, hb, hml, hown, hts⟩ hK hP hD hS hA0 rfl rfl rfl [11, 12, 13, 14, 15, 16, 17] [0, 1, 2, 3, 4, 5, 6, 7, 8, 9, 10, 18] [0, 1, 2, 3, 4, 5, 6, 7, 8, 9, 10, 12, 13, 14, 15, 16, 17, 18, 11] (by decide) rfl (wr := [_, _, _, _, _, _, _, _, _, _, _, _]) rfl (by decide) (by decide) (by decide) rfl rfl hl.1 rfl (Nat.le_of_ble_eq_true rfl) dL_law_222 hf1 (fun H locs hP hD hS => ?_)
    refine lv_aload_n hx hb dL_law_225 rfl (lv_at hl 3 rfl) ?_
    have kcT := kX5_thrown l D cI o (upd F 11 (Cd true)) a
    refine KC.calli (ci := 5) (rest := []) (wt := wL cI cL o ob g f a (upd F 11 (Cd true)) a w) kcT (cwV 0 hts gL_law_X5_thrown rfl rfl rfl (by decide +kernel) ⟨Nat.le_of_ble_eq_true rfl, Nat.le_of_ble_eq_true rfl⟩) ⟨hx, hb, hml, hown, hts⟩ hK hP hD hS hA0 rfl rfl rfl [11, 12, 13, 14, 15, 16, 17] [0, 1, 2, 3, 4, 5, 6, 7, 8, 9, 10, 18] [0, 1, 2, 3, 4, 5, 6, 7, 8, 9, 10, 12, 13, 14, 15, 16, 17, 18, 11] (by decide) rfl (wr := [_, _, _, _, _, _, _, _, _, _, _, _]) rfl (by decide) (by decide) (by decide) rfl rfl hl.1 rfl (Nat.le_of_ble_eq_true rfl) dL_law_226 hf1 (fun H locs hP hD hS => ?_)
    refine lv_iload hx hb dL_law_229 (lv_at hl 0 rfl) ?_
    refine lv_icmp_eq (tgt := 236) hx hb dL_law_231 (by decide) (fun _ => ?_) (fun c9 => absurd ((th_cd F (Cd true))) c9)
    refine lv_goto (tgt := 667) hx hb dL_law_236 (by decide) ?_
    exact kk g f (upd F 11 (Cd true)) a w H locs _ (hM.cd _) hA hP hD hS (lv_sub hl [1, 2, 3, 4, 5] rfl)
  | false =>
    have kcL := kL_input_f l hl0 D cI cL o tS sc g f a (xs (x4 + 1).toNatClampNeg) (xs (x4 + 2).toNatClampNeg) ht
    have e6 := m_input (g := g) (f := f) F hA (xs (x4 + 1).toNatClampNeg) (xs (x4 + 2).toNatClampNeg)
    have e5 := e6.1
    rw [ht] at e5
    have kc5 := kX5_input l D cI o F a (xs (x4 + 1).toNatClampNeg) (xs (x4 + 2).toNatClampNeg)
    rw [e5] at kc5
    dsimp only at kc5
    refine lv_aload_n hx hb dL_law_191 rfl (lv_at hl 1 rfl) ?_
    refine lv_aload_n hx hb dL_law_192 rfl (lv_at hl 0 rfl) ?_
    refine lv_iload hx hb dL_law_193 (lv_at hl 4 rfl) ?_
    refine lv_iconst (v := 1) hx hb dL_law_195 (by decide) ?_
    refine lv_iadd hx hb dL_law_196 ?_
    refine va_sld hx hb hX hbl hbA hS h1 dL_law_197 ?_
    refine lv_aload_n hx hb dL_law_198 rfl (lv_at hl 0 rfl) ?_
    refine lv_iload hx hb dL_law_199 (lv_at hl 4 rfl) ?_
    refine lv_iconst (v := 2) hx hb dL_law_201 (by decide) ?_
    refine lv_iadd hx hb dL_law_202 ?_
    refine va_sld hx hb hX hbl hbA hS h2 dL_law_203 ?_
    refine KL.callS (rest := []) (wt := wL cI cL o ob g f (ua a 3 (xInput g f a (xs (x4 + 1).toNatClampNeg) (xs (x4 + 2).toNatClampNeg))) F a w) kcL (vx_cwSW 3 hts gL_law_L_input rfl rfl rfl (by decide +kernel) ⟨Nat.le_of_ble_eq_true rfl, Nat.le_of_ble_eq_true rfl⟩) ⟨hx, hb, hml, hown, hts⟩ hK hL hP hD hS hA0 hG [0, 1, 2, 3, 4, 5, 6, 7, 8, 9, 10] [11, 12, 13, 14, 15, 16, 17, 18] [8, 9, 10, 11, 12, 13, 14, 15, 16, 17, 18, 0, 1, 2, 3, 4, 5, 6, 7] (by decide) rfl (wr := [_, _, _, _, _, _, _, _]) rfl (by decide) (by decide) (by decide) rfl rfl hl.1 rfl (Nat.le_of_ble_eq_true rfl) dL_law_204 hf1 (fun H locs hP hD hS => ?_)
    refine lv_istore (lv' := [(5, .int 0), (0, .ref b), (1, .ref (o 10)), (2, .ref (o 20)), (3, .ref ob), (4, .int x4)]) hx hb dL_law_207 hl (by decide) rfl (fun ls hl => ?_)
    refine lv_aload_n hx hb dL_law_209 rfl (lv_at hl 3 rfl) ?_
    refine lv_aload_n hx hb dL_law_210 rfl (lv_at hl 1 rfl) ?_
    refine lv_iload hx hb dL_law_211 (lv_at hl 5 rfl) ?_
    refine lv_iconst (v := 1) hx hb dL_law_213 (by decide) ?_
    refine lv_iadd hx hb dL_law_214 ?_
    refine va_sld hx hb hX hbl hbA hS h1 dL_law_215 ?_
    refine lv_aload_n hx hb dL_law_216 rfl (lv_at hl 1 rfl) ?_
    refine lv_iload hx hb dL_law_217 (lv_at hl 5 rfl) ?_
    refine lv_iconst (v := 2) hx hb dL_law_219 (by decide) ?_
    refine lv_iadd hx hb dL_law_220 ?_
    refine va_sld hx hb hX hbl hbA hS h2 dL_law_221 ?_
    refine KC.callv (ci := 5) (rest := []) (wt := wL cI cL o ob g f (ua a 3 (xInput g f a (xs (x4 + 1).toNatClampNeg) (xs (x4 + 2).toNatClampNeg))) (upd F 11 (Cd false)) (ua a 3 (xInput g f a (xs (x4 + 1).toNatClampNeg) (xs (x4 + 2).toNatClampNeg))) w) kc5 (cwV 2 hts gL_law_X5_input rfl rfl rfl (by decide +kernel) ⟨Nat.le_of_ble_eq_true rfl, Nat.le_of_ble_eq_true rfl⟩) ⟨hx, hb, hml, hown, hts⟩ hK hP hD hS hA0 rfl rfl rfl [11, 12, 13, 14, 15, 16, 17] [0, 1, 2, 3, 4, 5, 6, 7, 8, 9, 10, 18] [0, 1, 2, 3, 4, 5, 6, 7, 8, 9, 10, 12, 13, 14, 15, 16, 17, 18, 11] (by decide) rfl (wr := [_, _, _, _, _, _, _, _, _, _, _, _]) rfl (by decide) (by decide) (by decide) rfl rfl hl.1 rfl (Nat.le_of_ble_eq_true rfl) dL_law_222 hf1 (fun H locs hP hD hS => ?_)
    refine lv_aload_n hx hb dL_law_225 rfl (lv_at hl 3 rfl) ?_
    have kcT := kX5_thrown l D cI o (upd F 11 (Cd false)) (ua a 3 (xInput g f a (xs (x4 + 1).toNatClampNeg) (xs (x4 + 2).toNatClampNeg)))
    refine KC.calli (ci := 5) (rest := []) (wt := wL cI cL o ob g f (ua a 3 (xInput g f a (xs (x4 + 1).toNatClampNeg) (xs (x4 + 2).toNatClampNeg))) (upd F 11 (Cd false)) (ua a 3 (xInput g f a (xs (x4 + 1).toNatClampNeg) (xs (x4 + 2).toNatClampNeg))) w) kcT (cwV 0 hts gL_law_X5_thrown rfl rfl rfl (by decide +kernel) ⟨Nat.le_of_ble_eq_true rfl, Nat.le_of_ble_eq_true rfl⟩) ⟨hx, hb, hml, hown, hts⟩ hK hP hD hS hA0 rfl rfl rfl [11, 12, 13, 14, 15, 16, 17] [0, 1, 2, 3, 4, 5, 6, 7, 8, 9, 10, 18] [0, 1, 2, 3, 4, 5, 6, 7, 8, 9, 10, 12, 13, 14, 15, 16, 17, 18, 11] (by decide) rfl (wr := [_, _, _, _, _, _, _, _, _, _, _, _]) rfl (by decide) (by decide) (by decide) rfl rfl hl.1 rfl (Nat.le_of_ble_eq_true rfl) dL_law_226 hf1 (fun H locs hP hD hS => ?_)
    refine lv_iload hx hb dL_law_229 (lv_at hl 0 rfl) ?_
    refine lv_icmp_eq (tgt := 236) hx hb dL_law_231 (by decide) (fun _ => ?_) (fun c9 => absurd ((th_cd F (Cd false))) c9)
    refine lv_goto (tgt := 667) hx hb dL_law_236 (by decide) ?_
    exact kk g f (upd F 11 (Cd false)) (ua a 3 (xInput g f a (xs (x4 + 1).toNatClampNeg) (xs (x4 + 2).toNatClampNeg))) w H locs _ (hM.cd _) e6.2 hP hD hS (lv_sub hl [1, 2, 3, 4, 5] rfl)
set_option maxHeartbeats 4000000 in
set_option maxRecDepth 100000 in
theorem law_run {p : Program} {l : Launch} {e : Env} {s : State} {m : MethodId} {below : List Frame} {meth : Method} {c : Code} {D : va_G} {cI cL : ClassId} {tS : Nat} {sc : Nat → Nat} {b L : Nat} {xs : Nat → Int32} {o : Nat → Nat} {ob : Nat} {x4 : Int32} {cells slots : Nat} {Q : State → Prop} (C : LC p l s m c D cI cL tS sc b L xs) (hf1 : cells + 1 ≤ room_1.cells ∧ slots + 6 ≤ room_1.slots) {g f F : Nat → Int32} {a : Nat → Nat → Int32} {w : Nat → Int64} {H : Heap} {locs : List Loc} {ls : Array Slot} (hM : Mid g f F) (hA : OkA a)
    (hP : va_P D vwCl (wL cI cL o ob g f a F a w) H) (hD : va_D (fun q : Nat => s.heap.size ≤ q) (wL cI cL o ob g f a F a w)) (hS : va_S (fun q : Nat => s.heap.size ≤ q) s.heap H locs) (hl : lv_has ls 7 [(0, .ref b), (1, .ref (o 10)), (2, .ref (o 20)), (3, .ref ob), (4, .int x4)]) (h1 : vp_in (x4 + 1) L)
    (kk : LN p l e s m below meth c D cI cL o ob b x4 (cells + 1) (slots + 6) Q) : W p l e room_1 s m #[Value.ref b] below meth c H locs cells slots Q (F0 m 252 ls []) := by
  obtain ⟨hl0, hx, hb, hml, hown, hts, hX, hbl, hK, hL, hG⟩ := C
  have hA0 : ∀ q : Nat, s.heap.size ≤ q → (fun q : Nat => s.heap.size ≤ q) q := fun _ h => h
  have hbA : ¬ (fun q : Nat => s.heap.size ≤ q) b := Nat.not_le.mpr hbl
  have hf0 : cells ≤ room_1.cells ∧ slots ≤ room_1.slots := ⟨Nat.le_trans (Nat.le_add_right _ 1) hf1.1, Nat.le_trans (Nat.le_add_right _ 6) hf1.2⟩
  cases ht : xRunX g f a (xs (x4 + 1).toNatClampNeg) with
  | true =>
    have kcL := kL_run_t l hl0 D cI cL o tS sc ob w g f a (xs (x4 + 1).toNatClampNeg) ht
    obtain ⟨v, g2, f2, F2, a2, e1, e2, hM2, hA2, h11⟩ := m_run hM hA (xs (x4 + 1).toNatClampNeg)
    rw [ht] at h11
    have e9 := (th_run ht).symm.trans e1
    injection e9 with e91 e9
    injection e9 with e92 e9
    injection e9 with e93 e94
    subst e92
    subst e93
    subst e94
    have kc5 := kX5_run l D cI o F a (xs (x4 + 1).toNatClampNeg) (fun F a => (∃ g f : Nat → Int32, Mid g f F) ∧ OkA a) (fun F a h => ⟨th_rd h.2, th_bt (h.1.elim fun g h => h.elim fun f h => h.2.2.2.1.2.1)⟩) th_inv ⟨⟨g, f, hM.cd _⟩, hA⟩
    rw [e2] at kc5
    dsimp only at kc5
    refine lv_aload_n hx hb dL_law_252 rfl (lv_at hl 1 rfl) ?_
    refine lv_aload_n hx hb dL_law_253 rfl (lv_at hl 0 rfl) ?_
    refine lv_iload hx hb dL_law_254 (lv_at hl 4 rfl) ?_
    refine lv_iconst (v := 1) hx hb dL_law_256 (by decide) ?_
    refine lv_iadd hx hb dL_law_257 ?_
    refine va_sld hx hb hX hbl hbA hS h1 dL_law_258 ?_
    refine lv_aload_n hx hb dL_law_259 rfl (lv_at hl 3 rfl) ?_
    refine KL.callS (rest := []) (wt := wL cI cL o ob g f a F a w) kcL (vx_cwSW 3 hts gL_law_L_run rfl rfl rfl (by decide +kernel) ⟨Nat.le_of_ble_eq_true rfl, Nat.le_of_ble_eq_true rfl⟩) ⟨hx, hb, hml, hown, hts⟩ hK hL hP hD hS hA0 hG [0, 1, 2, 3, 4, 5, 6, 7, 8, 9, 10, 18] [11, 12, 13, 14, 15, 16, 17] [7, 8, 9, 10, 11, 12, 13, 14, 15, 16, 17, 0, 1, 2, 3, 4, 5, 6, 18] (by decide) rfl (wr := [_, _, _, _, _, _, _]) rfl (by decide) (by decide) (by decide) rfl rfl hl.1 rfl (Nat.le_of_ble_eq_true rfl) dL_law_260 hf1 (fun H locs hP hD hS => ?_)
    refine lv_istore (lv' := [(5, .int 1), (0, .ref b), (1, .ref (o 10)), (2, .ref (o 20)), (3, .ref ob), (4, .int x4)]) hx hb dL_law_263 hl (by decide) rfl (fun ls hl => ?_)
    refine lv_aload_n hx hb dL_law_265 rfl (lv_at hl 3 rfl) ?_
    refine lv_aload_n hx hb dL_law_266 rfl (lv_at hl 1 rfl) ?_
    refine lv_iload hx hb dL_law_267 (lv_at hl 5 rfl) ?_
    refine lv_iconst (v := 1) hx hb dL_law_269 (by decide) ?_
    refine lv_iadd hx hb dL_law_270 ?_
    refine va_sld hx hb hX hbl hbA hS h1 dL_law_271 ?_
    refine KC.calli (ci := 5) (rest := []) (wt := wL cI cL o ob g f a F2 a w) kc5 (cwV 1 hts gL_law_X5_run rfl rfl rfl (by decide +kernel) ⟨Nat.le_of_ble_eq_true rfl, Nat.le_of_ble_eq_true rfl⟩) ⟨hx, hb, hml, hown, hts⟩ hK hP hD hS hA0 rfl rfl rfl [11, 12, 13, 14, 15, 16, 17] [0, 1, 2, 3, 4, 5, 6, 7, 8, 9, 10, 18] [0, 1, 2, 3, 4, 5, 6, 7, 8, 9, 10, 12, 13, 14, 15, 16, 17, 18, 11] (by decide) rfl (wr := [_, _, _, _, _, _, _, _, _, _, _, _]) rfl (by decide) (by decide) (by decide) rfl rfl hl.1 rfl (Nat.le_of_ble_eq_true rfl) dL_law_272 hf1 (fun H locs hP hD hS => ?_)
    refine lv_istore (lv' := [(6, .int v), (5, .int 1), (0, .ref b), (1, .ref (o 10)), (2, .ref (o 20)), (3, .ref ob), (4, .int x4)]) hx hb dL_law_275 hl (by decide) rfl (fun ls hl => ?_)
    refine lv_aload_n hx hb dL_law_277 rfl (lv_at hl 4 rfl) ?_
    have kcT := kX5_thrown l D cI o F2 a
    refine KC.calli (ci := 5) (rest := []) (wt := wL cI cL o ob g f a F2 a w) kcT (cwV 0 hts gL_law_X5_thrown rfl rfl rfl (by decide +kernel) ⟨Nat.le_of_ble_eq_true rfl, Nat.le_of_ble_eq_true rfl⟩) ⟨hx, hb, hml, hown, hts⟩ hK hP hD hS hA0 rfl rfl rfl [11, 12, 13, 14, 15, 16, 17] [0, 1, 2, 3, 4, 5, 6, 7, 8, 9, 10, 18] [0, 1, 2, 3, 4, 5, 6, 7, 8, 9, 10, 12, 13, 14, 15, 16, 17, 18, 11] (by decide) rfl (wr := [_, _, _, _, _, _, _, _, _, _, _, _]) rfl (by decide) (by decide) (by decide) rfl rfl hl.1 rfl (Nat.le_of_ble_eq_true rfl) dL_law_278 hf1 (fun H locs hP hD hS => ?_)
    refine lv_iload hx hb dL_law_281 (lv_at hl 1 rfl) ?_
    refine lv_icmp_eq (tgt := 288) hx hb dL_law_283 (by decide) (fun _ => ?_) (fun c9 => absurd (h11) c9)
    refine lv_iload hx hb dL_law_288 (lv_at hl 1 rfl) ?_
    refine lv_if_ne (tgt := 305) hx hb dL_law_290 (by decide) (fun _ => ?_) (fun c9 => absurd c9 (by decide))
    refine lv_goto (tgt := 667) hx hb dL_law_305 (by decide) ?_
    exact kk g f F2 a w H locs _ hM2 hA2 hP hD hS (lv_sub hl [2, 3, 4, 5, 6] rfl)
  | false =>
    have kcL := kL_run_f l hl0 D cI cL o tS sc ob w g f a (xs (x4 + 1).toNatClampNeg) ht
    obtain ⟨v, g2, f2, F2, a2, e1, e2, hM2, hA2, h11⟩ := m_run hM hA (xs (x4 + 1).toNatClampNeg)
    rw [ht] at h11
    rw [e1] at kcL
    dsimp only at kcL
    have kc5 := kX5_run l D cI o F a (xs (x4 + 1).toNatClampNeg) (fun F a => (∃ g f : Nat → Int32, Mid g f F) ∧ OkA a) (fun F a h => ⟨th_rd h.2, th_bt (h.1.elim fun g h => h.elim fun f h => h.2.2.2.1.2.1)⟩) th_inv ⟨⟨g, f, hM.cd _⟩, hA⟩
    rw [e2] at kc5
    dsimp only at kc5
    refine lv_aload_n hx hb dL_law_252 rfl (lv_at hl 1 rfl) ?_
    refine lv_aload_n hx hb dL_law_253 rfl (lv_at hl 0 rfl) ?_
    refine lv_iload hx hb dL_law_254 (lv_at hl 4 rfl) ?_
    refine lv_iconst (v := 1) hx hb dL_law_256 (by decide) ?_
    refine lv_iadd hx hb dL_law_257 ?_
    refine va_sld hx hb hX hbl hbA hS h1 dL_law_258 ?_
    refine lv_aload_n hx hb dL_law_259 rfl (lv_at hl 3 rfl) ?_
    refine KL.callS (rest := []) (wt := wL cI cL o ob g2 f2 a2 F a (vp_updL w (0 : Int32).toNatClampNeg (v).toInt64)) kcL (vx_cwSW 3 hts gL_law_L_run rfl rfl rfl (by decide +kernel) ⟨Nat.le_of_ble_eq_true rfl, Nat.le_of_ble_eq_true rfl⟩) ⟨hx, hb, hml, hown, hts⟩ hK hL hP hD hS hA0 hG [0, 1, 2, 3, 4, 5, 6, 7, 8, 9, 10, 18] [11, 12, 13, 14, 15, 16, 17] [7, 8, 9, 10, 11, 12, 13, 14, 15, 16, 17, 0, 1, 2, 3, 4, 5, 6, 18] (by decide) rfl (wr := [_, _, _, _, _, _, _]) rfl (by decide) (by decide) (by decide) rfl rfl hl.1 rfl (Nat.le_of_ble_eq_true rfl) dL_law_260 hf1 (fun H locs hP hD hS => ?_)
    refine lv_istore (lv' := [(5, .int 0), (0, .ref b), (1, .ref (o 10)), (2, .ref (o 20)), (3, .ref ob), (4, .int x4)]) hx hb dL_law_263 hl (by decide) rfl (fun ls hl => ?_)
    refine lv_aload_n hx hb dL_law_265 rfl (lv_at hl 3 rfl) ?_
    refine lv_aload_n hx hb dL_law_266 rfl (lv_at hl 1 rfl) ?_
    refine lv_iload hx hb dL_law_267 (lv_at hl 5 rfl) ?_
    refine lv_iconst (v := 1) hx hb dL_law_269 (by decide) ?_
    refine lv_iadd hx hb dL_law_270 ?_
    refine va_sld hx hb hX hbl hbA hS h1 dL_law_271 ?_
    refine KC.calli (ci := 5) (rest := []) (wt := wL cI cL o ob g2 f2 a2 F2 a2 (vp_updL w (0 : Int32).toNatClampNeg (v).toInt64)) kc5 (cwV 1 hts gL_law_X5_run rfl rfl rfl (by decide +kernel) ⟨Nat.le_of_ble_eq_true rfl, Nat.le_of_ble_eq_true rfl⟩) ⟨hx, hb, hml, hown, hts⟩ hK hP hD hS hA0 rfl rfl rfl [11, 12, 13, 14, 15, 16, 17] [0, 1, 2, 3, 4, 5, 6, 7, 8, 9, 10, 18] [0, 1, 2, 3, 4, 5, 6, 7, 8, 9, 10, 12, 13, 14, 15, 16, 17, 18, 11] (by decide) rfl (wr := [_, _, _, _, _, _, _, _, _, _, _, _]) rfl (by decide) (by decide) (by decide) rfl rfl hl.1 rfl (Nat.le_of_ble_eq_true rfl) dL_law_272 hf1 (fun H locs hP hD hS => ?_)
    refine lv_istore (lv' := [(6, .int v), (5, .int 0), (0, .ref b), (1, .ref (o 10)), (2, .ref (o 20)), (3, .ref ob), (4, .int x4)]) hx hb dL_law_275 hl (by decide) rfl (fun ls hl => ?_)
    refine lv_aload_n hx hb dL_law_277 rfl (lv_at hl 4 rfl) ?_
    have kcT := kX5_thrown l D cI o F2 a2
    refine KC.calli (ci := 5) (rest := []) (wt := wL cI cL o ob g2 f2 a2 F2 a2 (vp_updL w (0 : Int32).toNatClampNeg (v).toInt64)) kcT (cwV 0 hts gL_law_X5_thrown rfl rfl rfl (by decide +kernel) ⟨Nat.le_of_ble_eq_true rfl, Nat.le_of_ble_eq_true rfl⟩) ⟨hx, hb, hml, hown, hts⟩ hK hP hD hS hA0 rfl rfl rfl [11, 12, 13, 14, 15, 16, 17] [0, 1, 2, 3, 4, 5, 6, 7, 8, 9, 10, 18] [0, 1, 2, 3, 4, 5, 6, 7, 8, 9, 10, 12, 13, 14, 15, 16, 17, 18, 11] (by decide) rfl (wr := [_, _, _, _, _, _, _, _, _, _, _, _]) rfl (by decide) (by decide) (by decide) rfl rfl hl.1 rfl (Nat.le_of_ble_eq_true rfl) dL_law_278 hf1 (fun H locs hP hD hS => ?_)
    refine lv_iload hx hb dL_law_281 (lv_at hl 1 rfl) ?_
    refine lv_icmp_eq (tgt := 288) hx hb dL_law_283 (by decide) (fun _ => ?_) (fun c9 => absurd (h11) c9)
    refine lv_iload hx hb dL_law_288 (lv_at hl 1 rfl) ?_
    refine lv_if_ne (tgt := 305) hx hb dL_law_290 (by decide) (fun c9 => absurd rfl c9) (fun _ => ?_)
    refine lv_aload_n hx hb dL_law_293 rfl (lv_at hl 5 rfl) ?_
    refine lv_iconst (v := 0) hx hb dL_law_294 (by decide) ?_
    refine va_lald (tys := [(cL, .long)]) hx hb hL hP 18 0 rfl rfl vp_in01 dL_law_295 ?_
    refine lv_iload hx hb dL_law_296 (lv_at hl 0 rfl) ?_
    refine lv_i2l hx hb dL_law_298 rfl ?_
    refine lw_lcmp0 hx hb (th_out w _) dL_law_299 ?_
    refine lv_if_eq (tgt := 305) hx hb dL_law_300 (by decide) (fun _ => ?_) (fun c9 => absurd rfl c9)
    refine lv_goto (tgt := 667) hx hb dL_law_305 (by decide) ?_
    exact kk g2 f2 F2 a2 (vp_updL w (0 : Int32).toNatClampNeg (v).toInt64) H locs _ hM2 hA2 hP hD hS (lv_sub hl [2, 3, 4, 5, 6] rfl)
