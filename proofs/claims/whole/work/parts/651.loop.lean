theorem law_lt {L i : Nat} (hL : L ≤ 2560) (h1 : i ≤ L) (c : ¬ Int32.ofNat L - 5 < nI i) : i + 5 ≤ L := by
  by_cases h : 5 ≤ L
  · obtain ⟨k, rfl⟩ : ∃ k, L = k + 5 := ⟨L - 5, by omega⟩
    have e : Int32.ofNat (k + 5) - 5 = nI k := by
      have e1 : Int32.ofNat (k + 5) = nI k + 5 := (nI_add k 5).symm
      rw [e1, Int32.add_sub_cancel]
    rw [e] at c
    rcases Nat.lt_or_ge k i with q | q
    · exact absurd (nI_lt q (by omega)) c
    · omega
  · exfalso
    apply c
    have h2 : Int32.ofNat L - 5 < 0 := by
      rcases (show L = 0 ∨ L = 1 ∨ L = 2 ∨ L = 3 ∨ L = 4 by omega) with rfl | rfl | rfl | rfl | rfl <;> decide
    exact Int32.lt_of_lt_of_le h2 (nI_pos' (by omega))
theorem law_in {L i : Nat} (k : Nat) (hL : L ≤ 2560) (h : i + 5 ≤ L) (hk : k < 5) : vp_in (nI i + nI k) L := by
  rw [nI_add]
  exact vp_in_nI (by omega) (by omega)
set_option maxHeartbeats 4000000 in
set_option maxRecDepth 100000 in
/-- the loop of the law, from its head, with the world in which class and reference agree -/
theorem law_loop {p : Program} {l : Launch} {e : Env} {s : State} {m : MethodId} {below : List Frame} {meth : Method} {c : Code} {D : va_G} {cI cL : ClassId} {tS : Nat} {sc : Nat → Nat} {b L : Nat} {xs : Nat → Int32} {o : Nat → Nat} {ob : Nat} (hL : L ≤ 2560) (C : LC p l s m c D cI cL tS sc b L xs) (hr : meth.sig.returnType = ret) (hlocks : meth.locks = false) :
    ∀ (n j : Nat), 5 * j ≤ L → L + 1 ≤ 5 * (j + n) → ∀ (g f F : Nat → Int32) (a : Nat → Nat → Int32) (w : Nat → Int64) (H : Heap) (locs : List Loc) (ls : Array Slot), Mid g f F → OkA a → va_P D vwCl (wL cI cL o ob g f a F a w) H → va_D (fun q : Nat => s.heap.size ≤ q) (wL cI cL o ob g f a F a w) → va_S (fun q : Nat => s.heap.size ≤ q) s.heap H locs →
      lv_has ls 7 [(0, .ref b), (1, .ref (o 10)), (2, .ref (o 20)), (3, .ref ob), (4, .int (nI (5 * j)))] → W p l e room_1 s m #[Value.ref b] below meth c H locs (19 + j) (20587 + 6 * j) (lw_Z below #[Value.ref b] s) (F0 m 23 ls []) := by
  obtain ⟨hl0, hx, hb, hml, hown, hts, hX, hbl, hK, hL9, hG⟩ := id C
  have hbA : ¬ (fun q : Nat => s.heap.size ≤ q) b := Nat.not_le.mpr hbl
  intro n
  induction n with
  | zero =>
    intro j h1 h2
    exact absurd h2 (by omega)
  | succ n ih =>
    intro j h1 h2 g f F a w H locs ls hM hA hP hD hS hl
    refine lv_iload hx hb dL_law_23 (lv_at hl 4 rfl) ?_
    refine lv_aload_n hx hb dL_law_25 rfl (lv_at hl 0 rfl) ?_
    refine va_slen hx hb hX hbl hbA hS dL_law_26 ?_
    refine lv_iconst (v := 5) hx hb dL_law_27 (by decide) ?_
    refine lv_isub hx hb dL_law_28 ?_
    refine lv_icmp_gt (tgt := 673) hx hb dL_law_29 (by decide) (fun _ => ?_) (fun c9 => ?_)
    · refine lv_iconst (v := 1) hx hb dL_law_673 (by decide) ?_
      refine va_forget (fun q hq => hS.2.2 q hq) ?_
      refine W.widen (k := 1051) (n := 28827) (by omega) (by omega) ?_
      exact lw_ret hx hb hr hlocks dL_law_674
    · have hlt : 5 * j + 5 ≤ L := law_lt hL h1 c9
      have q0 : vp_in (nI (5 * j)) L := vp_in_nI (by omega) (by omega)
      have q1 : vp_in (nI (5 * j) + 1) L := law_in 1 hL hlt (by decide)
      have q2 : vp_in (nI (5 * j) + 2) L := law_in 2 hL hlt (by decide)
      have q3 : vp_in (nI (5 * j) + 3) L := law_in 3 hL hlt (by decide)
      have q4 : vp_in (nI (5 * j) + 4) L := law_in 4 hL hlt (by decide)
      have hf1 : 19 + j + 1 ≤ room_1.cells ∧ 20587 + 6 * j + 6 ≤ room_1.slots := by
        constructor
        · show 19 + j + 1 ≤ 1051
          omega
        · show 20587 + 6 * j + 6 ≤ 28827
          omega
      have kk : LN p l e s m below meth c D cI cL o ob b (nI (5 * j)) (19 + j + 1) (20587 + 6 * j + 6) (lw_Z below #[Value.ref b] s) := by
        intro g f F a w H locs ls hM hA hP hD hS hl
        refine lv_iinc (v := nI (5 * (j + 1))) (lv' := [(4, .int (nI (5 * (j + 1)))), (0, .ref b), (1, .ref (o 10)), (2, .ref (o 20)), (3, .ref ob)]) hx hb dL_law_667 hl (k := 4) rfl ?_ (by decide) rfl (fun ls hl => ?_)
        · rw [show Int32.ofInt 5 = nI 5 by decide]
          exact nI_add (5 * j) 5
        · refine lv_goto (tgt := 23) hx hb dL_law_670 (by decide) ?_
          refine W.widen (k := 19 + (j + 1)) (n := 20587 + 6 * (j + 1)) (by omega) (by omega) ?_
          exact ih (j + 1) (by omega) (by omega) g f F a w H locs ls hM hA hP hD hS (lv_sub hl [1, 2, 3, 4, 0] rfl)
      obtain ⟨k, hk, ek⟩ := pk_andE (xs (nI (5 * j)).toNatClampNeg) (m := 15) 4 (by decide)
      refine lv_aload_n hx hb dL_law_32 rfl (lv_at hl 0 rfl) ?_
      refine lv_iload hx hb dL_law_33 (lv_at hl 4 rfl) ?_
      refine va_sld hx hb hX hbl hbA hS q0 dL_law_35 ?_
      refine lv_bipush (v := 15) hx hb dL_law_36 (by decide) ?_
      refine lv_iand hx hb dL_law_38 ?_
      rcases (show k = 0 ∨ k = 1 ∨ k = 2 ∨ k = 3 ∨ k = 4 ∨ k = 5 ∨ k = 6 ∨ k = 7 ∨ k = 8 ∨ k = 9 ∨ k = 10 ∨ k = 11 ∨ k = 12 ∨ k = 13 ∨ k = 14 ∨ k = 15 by omega) with rfl | rfl | rfl | rfl | rfl | rfl | rfl | rfl | rfl | rfl | rfl | rfl | rfl | rfl | rfl | rfl
      · refine k_tin (tgt := 100) hx hb (0 : Int32) (ek.trans (by decide)) dL_law_39 (by decide) (by decide) rfl (by decide) ?_
        exact law_load C hf1 hM hA hP hD hS hl q1 q2 q3 kk
      · refine k_tin (tgt := 180) hx hb (1 : Int32) (ek.trans (by decide)) dL_law_39 (by decide) (by decide) rfl (by decide) ?_
        exact law_reset C hf1 hM hA hP hD hS hl kk
      · refine k_tin (tgt := 191) hx hb (2 : Int32) (ek.trans (by decide)) dL_law_39 (by decide) (by decide) rfl (by decide) ?_
        exact law_input C hf1 hM hA hP hD hS hl q1 q2 kk
      · refine k_tin (tgt := 239) hx hb (3 : Int32) (ek.trans (by decide)) dL_law_39 (by decide) (by decide) rfl (by decide) ?_
        exact law_step C hf1 hM hA hP hD hS hl kk
      · refine k_tin (tgt := 252) hx hb (4 : Int32) (ek.trans (by decide)) dL_law_39 (by decide) (by decide) rfl (by decide) ?_
        exact law_run C hf1 hM hA hP hD hS hl q1 kk
      · refine k_tin (tgt := 308) hx hb (5 : Int32) (ek.trans (by decide)) dL_law_39 (by decide) (by decide) rfl (by decide) ?_
        exact law_register C hf1 hM hA hP hD hS hl q1 kk
      · refine k_tin (tgt := 364) hx hb (6 : Int32) (ek.trans (by decide)) dL_law_39 (by decide) (by decide) rfl (by decide) ?_
        exact law_memory C hf1 hM hA hP hD hS hl q1 kk
      · refine k_tin (tgt := 389) hx hb (7 : Int32) (ek.trans (by decide)) dL_law_39 (by decide) (by decide) rfl (by decide) ?_
        exact law_poke C hf1 hM hA hP hD hS hl q1 q2 kk
      · refine k_tin (tgt := 426) hx hb (8 : Int32) (ek.trans (by decide)) dL_law_39 (by decide) (by decide) rfl (by decide) ?_
        exact law_dot C hf1 hM hA hP hD hS hl q1 q2 kk
      · refine k_tin (tgt := 494) hx hb (9 : Int32) (ek.trans (by decide)) dL_law_39 (by decide) (by decide) rfl (by decide) ?_
        exact law_lit C hf1 hM hA hP hD hS hl q1 q2 q3 q4 kk
      · refine k_tin (tgt := 555) hx hb (10 : Int32) (ek.trans (by decide)) dL_law_39 (by decide) (by decide) rfl (by decide) ?_
        exact law_state C hf1 hM hA hP hD hS hl q1 kk
      · refine k_tin (tgt := 611) hx hb (11 : Int32) (ek.trans (by decide)) dL_law_39 (by decide) (by decide) rfl (by decide) ?_
        exact law_sounds C hf1 hM hA hP hD hS hl q1 kk
      · refine lv_tableOut (tgt := 667) hx hb dL_law_39 (Or.inr (by rw [ek]; decide)) (by decide) ?_
        refine W.widen (k := 19 + j + 1) (n := 20587 + 6 * j + 6) (Nat.le_add_right _ 1) (Nat.le_add_right _ 6) ?_
        exact kk g f F a w H locs ls hM hA hP hD hS hl
      · refine lv_tableOut (tgt := 667) hx hb dL_law_39 (Or.inr (by rw [ek]; decide)) (by decide) ?_
        refine W.widen (k := 19 + j + 1) (n := 20587 + 6 * j + 6) (Nat.le_add_right _ 1) (Nat.le_add_right _ 6) ?_
        exact kk g f F a w H locs ls hM hA hP hD hS hl
      · refine lv_tableOut (tgt := 667) hx hb dL_law_39 (Or.inr (by rw [ek]; decide)) (by decide) ?_
        refine W.widen (k := 19 + j + 1) (n := 20587 + 6 * j + 6) (Nat.le_add_right _ 1) (Nat.le_add_right _ 6) ?_
        exact kk g f F a w H locs ls hM hA hP hD hS hl
      · refine lv_tableOut (tgt := 667) hx hb dL_law_39 (Or.inr (by rw [ek]; decide)) (by decide) ?_
        refine W.widen (k := 19 + j + 1) (n := 20587 + 6 * j + 6) (Nat.le_add_right _ 1) (Nat.le_add_right _ 6) ?_
        exact kk g f F a w H locs ls hM hA hP hD hS hl
