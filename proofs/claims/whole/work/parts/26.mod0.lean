theorem iX6_thrown_X6 : ∀ w ∈ wsX60, w ∈ wsX6_thrown := by decide +kernel
theorem X6_thrown_hwd0 : (.fieldLink RX6 159 "SignatureSpansModel" "thrown" "I" : Cond) ∈ wsX6_thrown := by decide +kernel
set_option maxHeartbeats 4000000 in
set_option maxRecDepth 100000 in
/-- thrown -/
theorem c_X6_thrown (l : Launch) (D : va_G) (h : Nat) (r : Nat → Nat) (z1 z3 z4 z8 z22 z25 : Int32)  : kM (S := Unit) l yX6_thrown wsX6_thrown ({ frames := 7, cells := 0, slots := 0, locals := 100 }) 0 0 D [.ref h] [(h, .inr (6, [.ref (r 0), .int z1, .ref (r 2), .int z3, .int z4, .ref (r 5), .ref (r 6), .ref (r 7), .int z8, .ref (r 9), .ref (r 10), .ref (r 11), .ref (r 12), .ref (r 13), .ref (r 14), .ref (r 15), .ref (r 16), .ref (r 17), .ref (r 18), .ref (r 19), .ref (r 20), .ref (r 21), .int z22, .ref (r 23), .ref (r 24), .int z25, .ref (r 26), .ref (r 27), .ref (r 28), .ref (r 29), .ref (r 30), .ref (r 31)]))] (fun _ => some (.int z1)) (fun _ => [(h, .inr (6, [.ref (r 0), .int z1, .ref (r 2), .int z3, .int z4, .ref (r 5), .ref (r 6), .ref (r 7), .int z8, .ref (r 9), .ref (r 10), .ref (r 11), .ref (r 12), .ref (r 13), .ref (r 14), .ref (r 15), .ref (r 16), .ref (r 17), .ref (r 18), .ref (r 19), .ref (r 20), .ref (r 21), .int z22, .ref (r 23), .ref (r 24), .int z25, .ref (r 26), .ref (r 27), .ref (r 28), .ref (r 29), .ref (r 30), .ref (r 31)]))]) (fun _ => True) := by
  intro sz
  refine Met.ofW (cc := cX6_thrown) (maxL := 1) (ret := (some .int)) (by decide) rfl ?_
  intro p e s m args below meth c s₁ B hml hv
  obtain ⟨rfl, hsz, hP, hK, hD0, hE⟩ := hv
  have hx := B.exec
  have hb := B.bytes
  have hr := B.returns
  have hts := atoms_spec (ws := wsX6_thrown) B.pre
  have hown : s.vm.findClass RX6 = some m.cls := findClass_of_methodNamed B.named
  have hlocks := B.notSynchronized
  subst hsz
  have hD := hD0.self (sz := s.heap.size)
  generalize hAe : va_A [(h, .inr (6, [.ref (r 0), .int z1, .ref (r 2), .int z3, .int z4, .ref (r 5), .ref (r 6), .ref (r 7), .int z8, .ref (r 9), .ref (r 10), .ref (r 11), .ref (r 12), .ref (r 13), .ref (r 14), .ref (r 15), .ref (r 16), .ref (r 17), .ref (r 18), .ref (r 19), .ref (r 20), .ref (r 21), .int z22, .ref (r 23), .ref (r 24), .int z25, .ref (r 26), .ref (r 27), .ref (r 28), .ref (r 29), .ref (r 30), .ref (r 31)]))] s.heap.size = A at hD hE ⊢
  have hA : ∀ q : Nat, s.heap.size ≤ q → A q := fun q h => by rw [← hAe]; exact Or.inr h
  have hS : va_S A s.heap s.heap [] := va_S.rf
  have hl := lv_entry ([.ref h]) (n := 1) (Nat.le_of_ble_eq_true rfl)
  have inX6 : ∀ w ∈ wsX60, w ∈ wsX6_thrown := iX6_thrown_X6
  have hwd0 := hts (.fieldLink RX6 159 "SignatureSpansModel" "thrown" "I") X6_thrown_hwd0
  refine kgenQ (fun Q hQ => ?_)
  rw [lg_entry_eq]
  generalize (lg_sl ([.ref h]) ++ List.replicate (1 - (lg_sl ([.ref h])).length) Slot.unset).toArray = ls at hl ⊢
  have hl : lv_has ls 1 [(0, .ref h)] := hl
  refine lv_aload_n hx hb dX6_thrown_0 rfl (lv_at hl 0 rfl) ?_
  refine va_get (D := D) (ci := 6) (v := .int z1) (C := RX6) (T := TX6) (N := 32) hx hb hts inX6 hown hK hP 0 rfl rfl 1 (by decide) hwd0 (fun _ h9 => h9) rfl dX6_thrown_1 ?_
  rw [hQ]
  have hP9 : va_P D kC [(h, .inr (6, [.ref (r 0), .int z1, .ref (r 2), .int z3, .int z4, .ref (r 5), .ref (r 6), .ref (r 7), .int z8, .ref (r 9), .ref (r 10), .ref (r 11), .ref (r 12), .ref (r 13), .ref (r 14), .ref (r 15), .ref (r 16), .ref (r 17), .ref (r 18), .ref (r 19), .ref (r 20), .ref (r 21), .int z22, .ref (r 23), .ref (r 24), .int z25, .ref (r 26), .ref (r 27), .ref (r 28), .ref (r 29), .ref (r 30), .ref (r 31)]))] _ := hP
  have hD9 : va_D A [(h, .inr (6, [.ref (r 0), .int z1, .ref (r 2), .int z3, .int z4, .ref (r 5), .ref (r 6), .ref (r 7), .int z8, .ref (r 9), .ref (r 10), .ref (r 11), .ref (r 12), .ref (r 13), .ref (r 14), .ref (r 15), .ref (r 16), .ref (r 17), .ref (r 18), .ref (r 19), .ref (r 20), .ref (r 21), .int z22, .ref (r 23), .ref (r 24), .int z25, .ref (r 26), .ref (r 27), .ref (r 28), .ref (r 29), .ref (r 30), .ref (r 31)]))] := hD
  exact W.iret (v := z1) hx hb hr (fun tq ht hW => ⟨⟨(), rfl, trivial, by rw [ht]; exact hP9, va_K.moved hW.alike hK, hD9⟩, hS.F ht⟩) hS.2.2 dX6_thrown_4

theorem iX6_refused_X6 : ∀ w ∈ wsX60, w ∈ wsX6_refused := by decide +kernel
theorem X6_refused_hwd0 : (.fieldLink RX6 159 "SignatureSpansModel" "thrown" "I" : Cond) ∈ wsX6_refused := by decide +kernel
set_option maxHeartbeats 4000000 in
set_option maxRecDepth 100000 in
/-- refused -/
theorem c_X6_refused (l : Launch) (D : va_G) (h : Nat) (r : Nat → Nat) (z1 z3 z4 z8 z22 z25 : Int32) (x y z : Nat) (hx9 : x ≤ 1) (hy9 : y ≤ 1) (hz9 : z ≤ 1) : kM (S := Unit) l yX6_refused wsX6_refused ({ frames := 7, cells := 0, slots := 0, locals := 100 }) 0 0 D [.ref h, .int (nI x), .int (nI y), .int (nI z)] [(h, .inr (6, [.ref (r 0), .int z1, .ref (r 2), .int z3, .int z4, .ref (r 5), .ref (r 6), .ref (r 7), .int z8, .ref (r 9), .ref (r 10), .ref (r 11), .ref (r 12), .ref (r 13), .ref (r 14), .ref (r 15), .ref (r 16), .ref (r 17), .ref (r 18), .ref (r 19), .ref (r 20), .ref (r 21), .int z22, .ref (r 23), .ref (r 24), .int z25, .ref (r 26), .ref (r 27), .ref (r 28), .ref (r 29), .ref (r 30), .ref (r 31)]))] (fun _ => some (.int (kB (decide (0 < kRef x y z))))) (fun _ => [(h, .inr (6, [.ref (r 0), .int (nI (kRef x y z)), .ref (r 2), .int z3, .int z4, .ref (r 5), .ref (r 6), .ref (r 7), .int z8, .ref (r 9), .ref (r 10), .ref (r 11), .ref (r 12), .ref (r 13), .ref (r 14), .ref (r 15), .ref (r 16), .ref (r 17), .ref (r 18), .ref (r 19), .ref (r 20), .ref (r 21), .int z22, .ref (r 23), .ref (r 24), .int z25, .ref (r 26), .ref (r 27), .ref (r 28), .ref (r 29), .ref (r 30), .ref (r 31)]))]) (fun _ => True) := by
  intro sz
  refine Met.ofW (cc := cX6_refused) (maxL := 4) (ret := (some .boolean)) (by decide) rfl ?_
  intro p e s m args below meth c s₁ B hml hv
  obtain ⟨rfl, hsz, hP, hK, hD0, hE⟩ := hv
  have hx := B.exec
  have hb := B.bytes
  have hr := B.returns
  have hts := atoms_spec (ws := wsX6_refused) B.pre
  have hown : s.vm.findClass RX6 = some m.cls := findClass_of_methodNamed B.named
  have hlocks := B.notSynchronized
  subst hsz
  have hD := hD0.self (sz := s.heap.size)
  generalize hAe : va_A [(h, .inr (6, [.ref (r 0), .int z1, .ref (r 2), .int z3, .int z4, .ref (r 5), .ref (r 6), .ref (r 7), .int z8, .ref (r 9), .ref (r 10), .ref (r 11), .ref (r 12), .ref (r 13), .ref (r 14), .ref (r 15), .ref (r 16), .ref (r 17), .ref (r 18), .ref (r 19), .ref (r 20), .ref (r 21), .int z22, .ref (r 23), .ref (r 24), .int z25, .ref (r 26), .ref (r 27), .ref (r 28), .ref (r 29), .ref (r 30), .ref (r 31)]))] s.heap.size = A at hD hE ⊢
  have hA : ∀ q : Nat, s.heap.size ≤ q → A q := fun q h => by rw [← hAe]; exact Or.inr h
  have hS : va_S A s.heap s.heap [] := va_S.rf
  have hl := lv_entry ([.ref h, .int (nI x), .int (nI y), .int (nI z)]) (n := 4) (Nat.le_of_ble_eq_true rfl)
  have inX6 : ∀ w ∈ wsX60, w ∈ wsX6_refused := iX6_refused_X6
  have hwd0 := hts (.fieldLink RX6 159 "SignatureSpansModel" "thrown" "I") X6_refused_hwd0
  refine kgenQ (fun Q hQ => ?_)
  rw [lg_entry_eq]
  generalize (lg_sl ([.ref h, .int (nI x), .int (nI y), .int (nI z)]) ++ List.replicate (4 - (lg_sl ([.ref h, .int (nI x), .int (nI y), .int (nI z)])).length) Slot.unset).toArray = ls at hl ⊢
  have hl : lv_has ls 4 [(0, .ref h), (1, .int (nI x)), (2, .int (nI y)), (3, .int (nI z))] := hl
  refine lv_aload_n hx hb dX6_refused_0 rfl (lv_at hl 0 rfl) ?_
  refine lv_iload_n hx hb dX6_refused_1 rfl (lv_at hl 1 rfl) ?_
  refine kn_if_eq (tgt := 9) hx hb (by omega) dX6_refused_2 (by decide) (fun c_2 => ?_) (fun c_2 => ?_)
  · refine lv_iload_n hx hb dX6_refused_9 rfl (lv_at hl 2 rfl) ?_
    refine kn_if_eq (tgt := 17) hx hb (by omega) dX6_refused_10 (by decide) (fun c_10 => ?_) (fun c_10 => ?_)
    · refine lv_iload_n hx hb dX6_refused_17 rfl (lv_at hl 3 rfl) ?_
      refine kn_if_eq (tgt := 25) hx hb (by omega) dX6_refused_18 (by decide) (fun c_18 => ?_) (fun c_18 => ?_)
      · refine lv_iconst (v := nI 0) hx hb dX6_refused_25 (by decide) ?_
        refine va_put (D := D) (ci := 6) (v := .int (nI 0)) (ty := .int) (C := RX6) (T := TX6) (N := 32) hx hb hts inX6 tyX6 tyX6_ok nmX6 hown hK hP hD hS 0 rfl rfl 1 (by decide) hwd0 (fun _ h9 => h9) rfl (by decide +kernel) rfl rfl (Nat.le_of_ble_eq_true rfl) dX6_refused_26 (fun H locs hP hD hS => ?_)
        have hP : va_P D kC [(h, .inr (6, [.ref (r 0), .int (nI 0), .ref (r 2), .int z3, .int z4, .ref (r 5), .ref (r 6), .ref (r 7), .int z8, .ref (r 9), .ref (r 10), .ref (r 11), .ref (r 12), .ref (r 13), .ref (r 14), .ref (r 15), .ref (r 16), .ref (r 17), .ref (r 18), .ref (r 19), .ref (r 20), .ref (r 21), .int z22, .ref (r 23), .ref (r 24), .int z25, .ref (r 26), .ref (r 27), .ref (r 28), .ref (r 29), .ref (r 30), .ref (r 31)]))] _ := hP
        have hD : va_D A [(h, .inr (6, [.ref (r 0), .int (nI 0), .ref (r 2), .int z3, .int z4, .ref (r 5), .ref (r 6), .ref (r 7), .int z8, .ref (r 9), .ref (r 10), .ref (r 11), .ref (r 12), .ref (r 13), .ref (r 14), .ref (r 15), .ref (r 16), .ref (r 17), .ref (r 18), .ref (r 19), .ref (r 20), .ref (r 21), .int z22, .ref (r 23), .ref (r 24), .int z25, .ref (r 26), .ref (r 27), .ref (r 28), .ref (r 29), .ref (r 30), .ref (r 31)]))] := hD
        refine lv_aload_n hx hb dX6_refused_29 rfl (lv_at hl 0 rfl) ?_
        refine va_get (D := D) (ci := 6) (v := .int (nI 0)) (C := RX6) (T := TX6) (N := 32) hx hb hts inX6 hown hK hP 0 rfl rfl 1 (by decide) hwd0 (fun _ h9 => h9) rfl dX6_refused_30 ?_
        refine kn_if_le (tgt := 40) hx hb (by decide) dX6_refused_33 (by decide) (fun c_33 => ?_) (fun c_33 => absurd c_33 (by decide))
        refine lv_iconst (v := nI 0) hx hb dX6_refused_40 (by decide) ?_
        have hcode : kRef x y z = 0 := (if_neg (by omega)).trans ((if_neg (by omega)).trans (if_neg (by omega)))
        rw [hQ]
        have hP9 : va_P D kC [(h, .inr (6, [.ref (r 0), .int (nI (kRef x y z)), .ref (r 2), .int z3, .int z4, .ref (r 5), .ref (r 6), .ref (r 7), .int z8, .ref (r 9), .ref (r 10), .ref (r 11), .ref (r 12), .ref (r 13), .ref (r 14), .ref (r 15), .ref (r 16), .ref (r 17), .ref (r 18), .ref (r 19), .ref (r 20), .ref (r 21), .int z22, .ref (r 23), .ref (r 24), .int z25, .ref (r 26), .ref (r 27), .ref (r 28), .ref (r 29), .ref (r 30), .ref (r 31)]))] H := by rw [hcode]; exact hP
        have hD9 : va_D A [(h, .inr (6, [.ref (r 0), .int (nI (kRef x y z)), .ref (r 2), .int z3, .int z4, .ref (r 5), .ref (r 6), .ref (r 7), .int z8, .ref (r 9), .ref (r 10), .ref (r 11), .ref (r 12), .ref (r 13), .ref (r 14), .ref (r 15), .ref (r 16), .ref (r 17), .ref (r 18), .ref (r 19), .ref (r 20), .ref (r 21), .int z22, .ref (r 23), .ref (r 24), .int z25, .ref (r 26), .ref (r 27), .ref (r 28), .ref (r 29), .ref (r 30), .ref (r 31)]))] := by rw [hcode]; exact hD
        exact W.zret (v := nI 0) hx hb hr (rfl) (fun tq ht hW => ⟨⟨(), congrArg (fun z => Outcome.returned (some (Value.int z))) (by rw [hcode]; rfl), trivial, by rw [ht]; exact hP9, va_K.moved hW.alike hK, hD9⟩, hS.F ht⟩) hS.2.2 dX6_refused_41
      · refine lv_iconst (v := nI 3) hx hb dX6_refused_21 (by decide) ?_
        refine lv_goto (tgt := 26) hx hb dX6_refused_22 (by decide) ?_
        refine va_put (D := D) (ci := 6) (v := .int (nI 3)) (ty := .int) (C := RX6) (T := TX6) (N := 32) hx hb hts inX6 tyX6 tyX6_ok nmX6 hown hK hP hD hS 0 rfl rfl 1 (by decide) hwd0 (fun _ h9 => h9) rfl (by decide +kernel) rfl rfl (Nat.le_of_ble_eq_true rfl) dX6_refused_26 (fun H locs hP hD hS => ?_)
        have hP : va_P D kC [(h, .inr (6, [.ref (r 0), .int (nI 3), .ref (r 2), .int z3, .int z4, .ref (r 5), .ref (r 6), .ref (r 7), .int z8, .ref (r 9), .ref (r 10), .ref (r 11), .ref (r 12), .ref (r 13), .ref (r 14), .ref (r 15), .ref (r 16), .ref (r 17), .ref (r 18), .ref (r 19), .ref (r 20), .ref (r 21), .int z22, .ref (r 23), .ref (r 24), .int z25, .ref (r 26), .ref (r 27), .ref (r 28), .ref (r 29), .ref (r 30), .ref (r 31)]))] _ := hP
        have hD : va_D A [(h, .inr (6, [.ref (r 0), .int (nI 3), .ref (r 2), .int z3, .int z4, .ref (r 5), .ref (r 6), .ref (r 7), .int z8, .ref (r 9), .ref (r 10), .ref (r 11), .ref (r 12), .ref (r 13), .ref (r 14), .ref (r 15), .ref (r 16), .ref (r 17), .ref (r 18), .ref (r 19), .ref (r 20), .ref (r 21), .int z22, .ref (r 23), .ref (r 24), .int z25, .ref (r 26), .ref (r 27), .ref (r 28), .ref (r 29), .ref (r 30), .ref (r 31)]))] := hD
        refine lv_aload_n hx hb dX6_refused_29 rfl (lv_at hl 0 rfl) ?_
        refine va_get (D := D) (ci := 6) (v := .int (nI 3)) (C := RX6) (T := TX6) (N := 32) hx hb hts inX6 hown hK hP 0 rfl rfl 1 (by decide) hwd0 (fun _ h9 => h9) rfl dX6_refused_30 ?_
        refine kn_if_le (tgt := 40) hx hb (by decide) dX6_refused_33 (by decide) (fun c_33 => absurd c_33 (by decide)) (fun c_33 => ?_)
        refine lv_iconst (v := nI 1) hx hb dX6_refused_36 (by decide) ?_
        refine lv_goto (tgt := 41) hx hb dX6_refused_37 (by decide) ?_
        have hcode : kRef x y z = 3 := (if_neg (by omega)).trans ((if_neg (by omega)).trans (if_pos c_18))
        rw [hQ]
        have hP9 : va_P D kC [(h, .inr (6, [.ref (r 0), .int (nI (kRef x y z)), .ref (r 2), .int z3, .int z4, .ref (r 5), .ref (r 6), .ref (r 7), .int z8, .ref (r 9), .ref (r 10), .ref (r 11), .ref (r 12), .ref (r 13), .ref (r 14), .ref (r 15), .ref (r 16), .ref (r 17), .ref (r 18), .ref (r 19), .ref (r 20), .ref (r 21), .int z22, .ref (r 23), .ref (r 24), .int z25, .ref (r 26), .ref (r 27), .ref (r 28), .ref (r 29), .ref (r 30), .ref (r 31)]))] H := by rw [hcode]; exact hP
        have hD9 : va_D A [(h, .inr (6, [.ref (r 0), .int (nI (kRef x y z)), .ref (r 2), .int z3, .int z4, .ref (r 5), .ref (r 6), .ref (r 7), .int z8, .ref (r 9), .ref (r 10), .ref (r 11), .ref (r 12), .ref (r 13), .ref (r 14), .ref (r 15), .ref (r 16), .ref (r 17), .ref (r 18), .ref (r 19), .ref (r 20), .ref (r 21), .int z22, .ref (r 23), .ref (r 24), .int z25, .ref (r 26), .ref (r 27), .ref (r 28), .ref (r 29), .ref (r 30), .ref (r 31)]))] := by rw [hcode]; exact hD
        exact W.zret (v := nI 1) hx hb hr (rfl) (fun tq ht hW => ⟨⟨(), congrArg (fun z => Outcome.returned (some (Value.int z))) (by rw [hcode]; rfl), trivial, by rw [ht]; exact hP9, va_K.moved hW.alike hK, hD9⟩, hS.F ht⟩) hS.2.2 dX6_refused_41
    · refine lv_iconst (v := nI 2) hx hb dX6_refused_13 (by decide) ?_
      refine lv_goto (tgt := 26) hx hb dX6_refused_14 (by decide) ?_
      refine va_put (D := D) (ci := 6) (v := .int (nI 2)) (ty := .int) (C := RX6) (T := TX6) (N := 32) hx hb hts inX6 tyX6 tyX6_ok nmX6 hown hK hP hD hS 0 rfl rfl 1 (by decide) hwd0 (fun _ h9 => h9) rfl (by decide +kernel) rfl rfl (Nat.le_of_ble_eq_true rfl) dX6_refused_26 (fun H locs hP hD hS => ?_)
      have hP : va_P D kC [(h, .inr (6, [.ref (r 0), .int (nI 2), .ref (r 2), .int z3, .int z4, .ref (r 5), .ref (r 6), .ref (r 7), .int z8, .ref (r 9), .ref (r 10), .ref (r 11), .ref (r 12), .ref (r 13), .ref (r 14), .ref (r 15), .ref (r 16), .ref (r 17), .ref (r 18), .ref (r 19), .ref (r 20), .ref (r 21), .int z22, .ref (r 23), .ref (r 24), .int z25, .ref (r 26), .ref (r 27), .ref (r 28), .ref (r 29), .ref (r 30), .ref (r 31)]))] _ := hP
      have hD : va_D A [(h, .inr (6, [.ref (r 0), .int (nI 2), .ref (r 2), .int z3, .int z4, .ref (r 5), .ref (r 6), .ref (r 7), .int z8, .ref (r 9), .ref (r 10), .ref (r 11), .ref (r 12), .ref (r 13), .ref (r 14), .ref (r 15), .ref (r 16), .ref (r 17), .ref (r 18), .ref (r 19), .ref (r 20), .ref (r 21), .int z22, .ref (r 23), .ref (r 24), .int z25, .ref (r 26), .ref (r 27), .ref (r 28), .ref (r 29), .ref (r 30), .ref (r 31)]))] := hD
      refine lv_aload_n hx hb dX6_refused_29 rfl (lv_at hl 0 rfl) ?_
      refine va_get (D := D) (ci := 6) (v := .int (nI 2)) (C := RX6) (T := TX6) (N := 32) hx hb hts inX6 hown hK hP 0 rfl rfl 1 (by decide) hwd0 (fun _ h9 => h9) rfl dX6_refused_30 ?_
      refine kn_if_le (tgt := 40) hx hb (by decide) dX6_refused_33 (by decide) (fun c_33 => absurd c_33 (by decide)) (fun c_33 => ?_)
      refine lv_iconst (v := nI 1) hx hb dX6_refused_36 (by decide) ?_
      refine lv_goto (tgt := 41) hx hb dX6_refused_37 (by decide) ?_
      have hcode : kRef x y z = 2 := (if_neg (by omega)).trans (if_pos c_10)
      rw [hQ]
      have hP9 : va_P D kC [(h, .inr (6, [.ref (r 0), .int (nI (kRef x y z)), .ref (r 2), .int z3, .int z4, .ref (r 5), .ref (r 6), .ref (r 7), .int z8, .ref (r 9), .ref (r 10), .ref (r 11), .ref (r 12), .ref (r 13), .ref (r 14), .ref (r 15), .ref (r 16), .ref (r 17), .ref (r 18), .ref (r 19), .ref (r 20), .ref (r 21), .int z22, .ref (r 23), .ref (r 24), .int z25, .ref (r 26), .ref (r 27), .ref (r 28), .ref (r 29), .ref (r 30), .ref (r 31)]))] H := by rw [hcode]; exact hP
      have hD9 : va_D A [(h, .inr (6, [.ref (r 0), .int (nI (kRef x y z)), .ref (r 2), .int z3, .int z4, .ref (r 5), .ref (r 6), .ref (r 7), .int z8, .ref (r 9), .ref (r 10), .ref (r 11), .ref (r 12), .ref (r 13), .ref (r 14), .ref (r 15), .ref (r 16), .ref (r 17), .ref (r 18), .ref (r 19), .ref (r 20), .ref (r 21), .int z22, .ref (r 23), .ref (r 24), .int z25, .ref (r 26), .ref (r 27), .ref (r 28), .ref (r 29), .ref (r 30), .ref (r 31)]))] := by rw [hcode]; exact hD
      exact W.zret (v := nI 1) hx hb hr (rfl) (fun tq ht hW => ⟨⟨(), congrArg (fun z => Outcome.returned (some (Value.int z))) (by rw [hcode]; rfl), trivial, by rw [ht]; exact hP9, va_K.moved hW.alike hK, hD9⟩, hS.F ht⟩) hS.2.2 dX6_refused_41
  · refine lv_iconst (v := nI 1) hx hb dX6_refused_5 (by decide) ?_
    refine lv_goto (tgt := 26) hx hb dX6_refused_6 (by decide) ?_
    refine va_put (D := D) (ci := 6) (v := .int (nI 1)) (ty := .int) (C := RX6) (T := TX6) (N := 32) hx hb hts inX6 tyX6 tyX6_ok nmX6 hown hK hP hD hS 0 rfl rfl 1 (by decide) hwd0 (fun _ h9 => h9) rfl (by decide +kernel) rfl rfl (Nat.le_of_ble_eq_true rfl) dX6_refused_26 (fun H locs hP hD hS => ?_)
    have hP : va_P D kC [(h, .inr (6, [.ref (r 0), .int (nI 1), .ref (r 2), .int z3, .int z4, .ref (r 5), .ref (r 6), .ref (r 7), .int z8, .ref (r 9), .ref (r 10), .ref (r 11), .ref (r 12), .ref (r 13), .ref (r 14), .ref (r 15), .ref (r 16), .ref (r 17), .ref (r 18), .ref (r 19), .ref (r 20), .ref (r 21), .int z22, .ref (r 23), .ref (r 24), .int z25, .ref (r 26), .ref (r 27), .ref (r 28), .ref (r 29), .ref (r 30), .ref (r 31)]))] _ := hP
    have hD : va_D A [(h, .inr (6, [.ref (r 0), .int (nI 1), .ref (r 2), .int z3, .int z4, .ref (r 5), .ref (r 6), .ref (r 7), .int z8, .ref (r 9), .ref (r 10), .ref (r 11), .ref (r 12), .ref (r 13), .ref (r 14), .ref (r 15), .ref (r 16), .ref (r 17), .ref (r 18), .ref (r 19), .ref (r 20), .ref (r 21), .int z22, .ref (r 23), .ref (r 24), .int z25, .ref (r 26), .ref (r 27), .ref (r 28), .ref (r 29), .ref (r 30), .ref (r 31)]))] := hD
    refine lv_aload_n hx hb dX6_refused_29 rfl (lv_at hl 0 rfl) ?_
    refine va_get (D := D) (ci := 6) (v := .int (nI 1)) (C := RX6) (T := TX6) (N := 32) hx hb hts inX6 hown hK hP 0 rfl rfl 1 (by decide) hwd0 (fun _ h9 => h9) rfl dX6_refused_30 ?_
    refine kn_if_le (tgt := 40) hx hb (by decide) dX6_refused_33 (by decide) (fun c_33 => absurd c_33 (by decide)) (fun c_33 => ?_)
    refine lv_iconst (v := nI 1) hx hb dX6_refused_36 (by decide) ?_
    refine lv_goto (tgt := 41) hx hb dX6_refused_37 (by decide) ?_
    have hcode : kRef x y z = 1 := if_pos c_2
    rw [hQ]
    have hP9 : va_P D kC [(h, .inr (6, [.ref (r 0), .int (nI (kRef x y z)), .ref (r 2), .int z3, .int z4, .ref (r 5), .ref (r 6), .ref (r 7), .int z8, .ref (r 9), .ref (r 10), .ref (r 11), .ref (r 12), .ref (r 13), .ref (r 14), .ref (r 15), .ref (r 16), .ref (r 17), .ref (r 18), .ref (r 19), .ref (r 20), .ref (r 21), .int z22, .ref (r 23), .ref (r 24), .int z25, .ref (r 26), .ref (r 27), .ref (r 28), .ref (r 29), .ref (r 30), .ref (r 31)]))] H := by rw [hcode]; exact hP
    have hD9 : va_D A [(h, .inr (6, [.ref (r 0), .int (nI (kRef x y z)), .ref (r 2), .int z3, .int z4, .ref (r 5), .ref (r 6), .ref (r 7), .int z8, .ref (r 9), .ref (r 10), .ref (r 11), .ref (r 12), .ref (r 13), .ref (r 14), .ref (r 15), .ref (r 16), .ref (r 17), .ref (r 18), .ref (r 19), .ref (r 20), .ref (r 21), .int z22, .ref (r 23), .ref (r 24), .int z25, .ref (r 26), .ref (r 27), .ref (r 28), .ref (r 29), .ref (r 30), .ref (r 31)]))] := by rw [hcode]; exact hD
    exact W.zret (v := nI 1) hx hb hr (rfl) (fun tq ht hW => ⟨⟨(), congrArg (fun z => Outcome.returned (some (Value.int z))) (by rw [hcode]; rfl), trivial, by rw [ht]; exact hP9, va_K.moved hW.alike hK, hD9⟩, hS.F ht⟩) hS.2.2 dX6_refused_41

theorem iX6_isNoneok_X6 : ∀ w ∈ wsX60, w ∈ wsX6_isNone := by decide +kernel
theorem X6_isNoneok_hwd0 : (.fieldLink RX6 162 "SignatureSpansModel" "count" "I" : Cond) ∈ wsX6_isNone := by decide +kernel
set_option maxHeartbeats 4000000 in
set_option maxRecDepth 100000 in
/-- isNone: it is there -/
theorem c_X6_isNone (l : Launch) (D : va_G) (h : Nat) (r : Nat → Nat) (z1 z3 z4 z22 z25 : Int32) (cn i : Nat) (hi : i < cn) (hcn : cn ≤ 8) : kM (S := Unit) l yX6_isNone wsX6_isNone ({ frames := 7, cells := 0, slots := 0, locals := 100 }) 0 0 D [.ref h, .int (nI i)] [(h, .inr (6, [.ref (r 0), .int z1, .ref (r 2), .int z3, .int z4, .ref (r 5), .ref (r 6), .ref (r 7), .int (nI cn), .ref (r 9), .ref (r 10), .ref (r 11), .ref (r 12), .ref (r 13), .ref (r 14), .ref (r 15), .ref (r 16), .ref (r 17), .ref (r 18), .ref (r 19), .ref (r 20), .ref (r 21), .int z22, .ref (r 23), .ref (r 24), .int z25, .ref (r 26), .ref (r 27), .ref (r 28), .ref (r 29), .ref (r 30), .ref (r 31)]))] (fun _ => some (.int (nI 0))) (fun _ => [(h, .inr (6, [.ref (r 0), .int z1, .ref (r 2), .int z3, .int z4, .ref (r 5), .ref (r 6), .ref (r 7), .int (nI cn), .ref (r 9), .ref (r 10), .ref (r 11), .ref (r 12), .ref (r 13), .ref (r 14), .ref (r 15), .ref (r 16), .ref (r 17), .ref (r 18), .ref (r 19), .ref (r 20), .ref (r 21), .int z22, .ref (r 23), .ref (r 24), .int z25, .ref (r 26), .ref (r 27), .ref (r 28), .ref (r 29), .ref (r 30), .ref (r 31)]))]) (fun _ => True) := by
  intro sz
  refine Met.ofW (cc := cX6_isNone) (maxL := 2) (ret := (some .boolean)) (by decide) rfl ?_
  intro p e s m args below meth c s₁ B hml hv
  obtain ⟨rfl, hsz, hP, hK, hD0, hE⟩ := hv
  have hx := B.exec
  have hb := B.bytes
  have hr := B.returns
  have hts := atoms_spec (ws := wsX6_isNone) B.pre
  have hown : s.vm.findClass RX6 = some m.cls := findClass_of_methodNamed B.named
  have hlocks := B.notSynchronized
  subst hsz
  have hD := hD0.self (sz := s.heap.size)
  generalize hAe : va_A [(h, .inr (6, [.ref (r 0), .int z1, .ref (r 2), .int z3, .int z4, .ref (r 5), .ref (r 6), .ref (r 7), .int (nI cn), .ref (r 9), .ref (r 10), .ref (r 11), .ref (r 12), .ref (r 13), .ref (r 14), .ref (r 15), .ref (r 16), .ref (r 17), .ref (r 18), .ref (r 19), .ref (r 20), .ref (r 21), .int z22, .ref (r 23), .ref (r 24), .int z25, .ref (r 26), .ref (r 27), .ref (r 28), .ref (r 29), .ref (r 30), .ref (r 31)]))] s.heap.size = A at hD hE ⊢
  have hA : ∀ q : Nat, s.heap.size ≤ q → A q := fun q h => by rw [← hAe]; exact Or.inr h
  have hS : va_S A s.heap s.heap [] := va_S.rf
  have hl := lv_entry ([.ref h, .int (nI i)]) (n := 2) (Nat.le_of_ble_eq_true rfl)
  have inX6 : ∀ w ∈ wsX60, w ∈ wsX6_isNone := iX6_isNoneok_X6
  have hwd0 := hts (.fieldLink RX6 162 "SignatureSpansModel" "count" "I") X6_isNoneok_hwd0
  refine kgenQ (fun Q hQ => ?_)
  rw [lg_entry_eq]
  generalize (lg_sl ([.ref h, .int (nI i)]) ++ List.replicate (2 - (lg_sl ([.ref h, .int (nI i)])).length) Slot.unset).toArray = ls at hl ⊢
  have hl : lv_has ls 2 [(0, .ref h), (1, .int (nI i))] := hl
  refine lv_iload_n hx hb dX6_isNone_0 rfl (lv_at hl 1 rfl) ?_
  refine kn_if_lt (tgt := 12) hx hb (by omega) dX6_isNone_1 (by decide) ?_
  refine lv_iload_n hx hb dX6_isNone_4 rfl (lv_at hl 1 rfl) ?_
  refine lv_aload_n hx hb dX6_isNone_5 rfl (lv_at hl 0 rfl) ?_
  refine va_get (D := D) (ci := 6) (v := .int (nI cn)) (C := RX6) (T := TX6) (N := 32) hx hb hts inX6 hown hK hP 0 rfl rfl 8 (by decide) hwd0 (fun _ h9 => h9) rfl dX6_isNone_6 ?_
  refine kn_icmp_lt (tgt := 16) hx hb (by omega) (by omega) dX6_isNone_9 (by decide) (fun c_9 => ?_) (fun c_9 => absurd c_9 (by omega))
  refine lv_iconst (v := nI 0) hx hb dX6_isNone_16 (by decide) ?_
  rw [hQ]
  have hP9 : va_P D kC [(h, .inr (6, [.ref (r 0), .int z1, .ref (r 2), .int z3, .int z4, .ref (r 5), .ref (r 6), .ref (r 7), .int (nI cn), .ref (r 9), .ref (r 10), .ref (r 11), .ref (r 12), .ref (r 13), .ref (r 14), .ref (r 15), .ref (r 16), .ref (r 17), .ref (r 18), .ref (r 19), .ref (r 20), .ref (r 21), .int z22, .ref (r 23), .ref (r 24), .int z25, .ref (r 26), .ref (r 27), .ref (r 28), .ref (r 29), .ref (r 30), .ref (r 31)]))] _ := hP
  have hD9 : va_D A [(h, .inr (6, [.ref (r 0), .int z1, .ref (r 2), .int z3, .int z4, .ref (r 5), .ref (r 6), .ref (r 7), .int (nI cn), .ref (r 9), .ref (r 10), .ref (r 11), .ref (r 12), .ref (r 13), .ref (r 14), .ref (r 15), .ref (r 16), .ref (r 17), .ref (r 18), .ref (r 19), .ref (r 20), .ref (r 21), .int z22, .ref (r 23), .ref (r 24), .int z25, .ref (r 26), .ref (r 27), .ref (r 28), .ref (r 29), .ref (r 30), .ref (r 31)]))] := hD
  exact W.zret (v := nI 0) hx hb hr (rfl) (fun tq ht hW => ⟨⟨(), rfl, trivial, by rw [ht]; exact hP9, va_K.moved hW.alike hK, hD9⟩, hS.F ht⟩) hS.2.2 dX6_isNone_17

theorem iX6_isNoneno_X6 : ∀ w ∈ wsX60, w ∈ wsX6_isNone := by decide +kernel
theorem X6_isNoneno_hwd0 : (.fieldLink RX6 162 "SignatureSpansModel" "count" "I" : Cond) ∈ wsX6_isNone := by decide +kernel
set_option maxHeartbeats 4000000 in
set_option maxRecDepth 100000 in
/-- isNone: it is not there -/
theorem c_X6_isNone_no (l : Launch) (D : va_G) (h : Nat) (r : Nat → Nat) (z1 z3 z4 z22 z25 : Int32) (cn : Nat) (x : Int32) (hno : x < 0 ∨ nI cn ≤ x) : kM (S := Unit) l yX6_isNone wsX6_isNone ({ frames := 7, cells := 0, slots := 0, locals := 100 }) 0 0 D [.ref h, .int x] [(h, .inr (6, [.ref (r 0), .int z1, .ref (r 2), .int z3, .int z4, .ref (r 5), .ref (r 6), .ref (r 7), .int (nI cn), .ref (r 9), .ref (r 10), .ref (r 11), .ref (r 12), .ref (r 13), .ref (r 14), .ref (r 15), .ref (r 16), .ref (r 17), .ref (r 18), .ref (r 19), .ref (r 20), .ref (r 21), .int z22, .ref (r 23), .ref (r 24), .int z25, .ref (r 26), .ref (r 27), .ref (r 28), .ref (r 29), .ref (r 30), .ref (r 31)]))] (fun _ => some (.int (nI 1))) (fun _ => [(h, .inr (6, [.ref (r 0), .int z1, .ref (r 2), .int z3, .int z4, .ref (r 5), .ref (r 6), .ref (r 7), .int (nI cn), .ref (r 9), .ref (r 10), .ref (r 11), .ref (r 12), .ref (r 13), .ref (r 14), .ref (r 15), .ref (r 16), .ref (r 17), .ref (r 18), .ref (r 19), .ref (r 20), .ref (r 21), .int z22, .ref (r 23), .ref (r 24), .int z25, .ref (r 26), .ref (r 27), .ref (r 28), .ref (r 29), .ref (r 30), .ref (r 31)]))]) (fun _ => True) := by
  intro sz
  refine Met.ofW (cc := cX6_isNone) (maxL := 2) (ret := (some .boolean)) (by decide) rfl ?_
  intro p e s m args below meth c s₁ B hml hv
  obtain ⟨rfl, hsz, hP, hK, hD0, hE⟩ := hv
  have hx := B.exec
  have hb := B.bytes
  have hr := B.returns
  have hts := atoms_spec (ws := wsX6_isNone) B.pre
  have hown : s.vm.findClass RX6 = some m.cls := findClass_of_methodNamed B.named
  have hlocks := B.notSynchronized
  subst hsz
  have hD := hD0.self (sz := s.heap.size)
  generalize hAe : va_A [(h, .inr (6, [.ref (r 0), .int z1, .ref (r 2), .int z3, .int z4, .ref (r 5), .ref (r 6), .ref (r 7), .int (nI cn), .ref (r 9), .ref (r 10), .ref (r 11), .ref (r 12), .ref (r 13), .ref (r 14), .ref (r 15), .ref (r 16), .ref (r 17), .ref (r 18), .ref (r 19), .ref (r 20), .ref (r 21), .int z22, .ref (r 23), .ref (r 24), .int z25, .ref (r 26), .ref (r 27), .ref (r 28), .ref (r 29), .ref (r 30), .ref (r 31)]))] s.heap.size = A at hD hE ⊢
  have hA : ∀ q : Nat, s.heap.size ≤ q → A q := fun q h => by rw [← hAe]; exact Or.inr h
  have hS : va_S A s.heap s.heap [] := va_S.rf
  have hl := lv_entry ([.ref h, .int x]) (n := 2) (Nat.le_of_ble_eq_true rfl)
  have inX6 : ∀ w ∈ wsX60, w ∈ wsX6_isNone := iX6_isNoneno_X6
  have hwd0 := hts (.fieldLink RX6 162 "SignatureSpansModel" "count" "I") X6_isNoneno_hwd0
  refine kgenQ (fun Q hQ => ?_)
  rw [lg_entry_eq]
  generalize (lg_sl ([.ref h, .int x]) ++ List.replicate (2 - (lg_sl ([.ref h, .int x])).length) Slot.unset).toArray = ls at hl ⊢
  have hl : lv_has ls 2 [(0, .ref h), (1, .int x)] := hl
  refine lv_iload_n hx hb dX6_isNone_0 rfl (lv_at hl 1 rfl) ?_
  refine lv_if_lt (tgt := 12) hx hb dX6_isNone_1 (by decide) (fun c_1 => ?_) (fun c_1 => ?_)
  · refine lv_iconst (v := nI 1) hx hb dX6_isNone_12 (by decide) ?_
    refine lv_goto (tgt := 17) hx hb dX6_isNone_13 (by decide) ?_
    rw [hQ]
    have hP9 : va_P D kC [(h, .inr (6, [.ref (r 0), .int z1, .ref (r 2), .int z3, .int z4, .ref (r 5), .ref (r 6), .ref (r 7), .int (nI cn), .ref (r 9), .ref (r 10), .ref (r 11), .ref (r 12), .ref (r 13), .ref (r 14), .ref (r 15), .ref (r 16), .ref (r 17), .ref (r 18), .ref (r 19), .ref (r 20), .ref (r 21), .int z22, .ref (r 23), .ref (r 24), .int z25, .ref (r 26), .ref (r 27), .ref (r 28), .ref (r 29), .ref (r 30), .ref (r 31)]))] _ := hP
    have hD9 : va_D A [(h, .inr (6, [.ref (r 0), .int z1, .ref (r 2), .int z3, .int z4, .ref (r 5), .ref (r 6), .ref (r 7), .int (nI cn), .ref (r 9), .ref (r 10), .ref (r 11), .ref (r 12), .ref (r 13), .ref (r 14), .ref (r 15), .ref (r 16), .ref (r 17), .ref (r 18), .ref (r 19), .ref (r 20), .ref (r 21), .int z22, .ref (r 23), .ref (r 24), .int z25, .ref (r 26), .ref (r 27), .ref (r 28), .ref (r 29), .ref (r 30), .ref (r 31)]))] := hD
    exact W.zret (v := nI 1) hx hb hr (rfl) (fun tq ht hW => ⟨⟨(), rfl, trivial, by rw [ht]; exact hP9, va_K.moved hW.alike hK, hD9⟩, hS.F ht⟩) hS.2.2 dX6_isNone_17
  · refine lv_iload_n hx hb dX6_isNone_4 rfl (lv_at hl 1 rfl) ?_
    refine lv_aload_n hx hb dX6_isNone_5 rfl (lv_at hl 0 rfl) ?_
    refine va_get (D := D) (ci := 6) (v := .int (nI cn)) (C := RX6) (T := TX6) (N := 32) hx hb hts inX6 hown hK hP 0 rfl rfl 8 (by decide) hwd0 (fun _ h9 => h9) rfl dX6_isNone_6 ?_
    refine lv_icmp_lt (tgt := 16) hx hb dX6_isNone_9 (by decide) (fun c_9 => ?_) (fun c_9 => ?_)
    · exact absurd hno (fun q => q.elim c_1 (Int32.not_le.mpr c_9))
    · refine lv_iconst (v := nI 1) hx hb dX6_isNone_12 (by decide) ?_
      refine lv_goto (tgt := 17) hx hb dX6_isNone_13 (by decide) ?_
      rw [hQ]
      have hP9 : va_P D kC [(h, .inr (6, [.ref (r 0), .int z1, .ref (r 2), .int z3, .int z4, .ref (r 5), .ref (r 6), .ref (r 7), .int (nI cn), .ref (r 9), .ref (r 10), .ref (r 11), .ref (r 12), .ref (r 13), .ref (r 14), .ref (r 15), .ref (r 16), .ref (r 17), .ref (r 18), .ref (r 19), .ref (r 20), .ref (r 21), .int z22, .ref (r 23), .ref (r 24), .int z25, .ref (r 26), .ref (r 27), .ref (r 28), .ref (r 29), .ref (r 30), .ref (r 31)]))] _ := hP
      have hD9 : va_D A [(h, .inr (6, [.ref (r 0), .int z1, .ref (r 2), .int z3, .int z4, .ref (r 5), .ref (r 6), .ref (r 7), .int (nI cn), .ref (r 9), .ref (r 10), .ref (r 11), .ref (r 12), .ref (r 13), .ref (r 14), .ref (r 15), .ref (r 16), .ref (r 17), .ref (r 18), .ref (r 19), .ref (r 20), .ref (r 21), .int z22, .ref (r 23), .ref (r 24), .int z25, .ref (r 26), .ref (r 27), .ref (r 28), .ref (r 29), .ref (r 30), .ref (r 31)]))] := hD
      exact W.zret (v := nI 1) hx hb hr (rfl) (fun tq ht hW => ⟨⟨(), rfl, trivial, by rw [ht]; exact hP9, va_K.moved hW.alike hK, hD9⟩, hS.F ht⟩) hS.2.2 dX6_isNone_17

set_option maxHeartbeats 4000000 in
set_option maxRecDepth 100000 in
/-- isOne -/
theorem c_X6_isOne (l : Launch) (D : va_G) (x : Int32) : kM (S := Unit) l yX6_isOne wsX6_isOne ({ frames := 7, cells := 0, slots := 0, locals := 100 }) 0 0 D [.int x] [] (fun _ => some (.int (kB (k01 x)))) (fun _ => []) (fun _ => True) := by
  intro sz
  refine Met.ofW (cc := cX6_isOne) (maxL := 1) (ret := (some .boolean)) (by decide) rfl ?_
  intro p e s m args below meth c s₁ B hml hv
  obtain ⟨rfl, hsz, hP, hK, hD0, hE⟩ := hv
  have hx := B.exec
  have hb := B.bytes
  have hr := B.returns
  have hts := atoms_spec (ws := wsX6_isOne) B.pre
  have hown : s.vm.findClass RX6 = some m.cls := findClass_of_methodNamed B.named
  have hlocks := B.notSynchronized
  subst hsz
  have hD := hD0.self (sz := s.heap.size)
  generalize hAe : va_A [] s.heap.size = A at hD hE ⊢
  have hA : ∀ q : Nat, s.heap.size ≤ q → A q := fun q h => by rw [← hAe]; exact Or.inr h
  have hS : va_S A s.heap s.heap [] := va_S.rf
  have hl := lv_entry ([.int x]) (n := 1) (Nat.le_of_ble_eq_true rfl)
  refine kgenQ (fun Q hQ => ?_)
  rw [lg_entry_eq]
  generalize (lg_sl ([.int x]) ++ List.replicate (1 - (lg_sl ([.int x])).length) Slot.unset).toArray = ls at hl ⊢
  have hl : lv_has ls 1 [(0, .int x)] := hl
  refine lv_iload_n hx hb dX6_isOne_0 rfl (lv_at hl 0 rfl) ?_
  refine lv_if_eq (tgt := 9) hx hb dX6_isOne_1 (by decide) (fun c_1 => ?_) (fun c_1 => ?_)
  · refine lv_iconst (v := nI 1) hx hb dX6_isOne_9 (by decide) ?_
    refine lv_goto (tgt := 14) hx hb dX6_isOne_10 (by decide) ?_
    rw [hQ]
    have hP9 : va_P D kC [] _ := hP
    have hD9 : va_D A [] := hD
    exact W.zret (v := nI 1) hx hb hr (rfl) (fun tq ht hW => ⟨⟨(), congrArg (fun z => Outcome.returned (some (Value.int z))) (kB_t (by rw [c_1]; decide)), trivial, by rw [ht]; exact hP9, va_K.moved hW.alike hK, hD9⟩, hS.F ht⟩) hS.2.2 dX6_isOne_14
  · refine lv_iload_n hx hb dX6_isOne_4 rfl (lv_at hl 0 rfl) ?_
    refine lv_iconst (v := nI 1) hx hb dX6_isOne_5 (by decide) ?_
    refine lv_icmp_ne (tgt := 13) hx hb dX6_isOne_6 (by decide) (fun c_6 => ?_) (fun c_6 => ?_)
    · refine lv_iconst (v := nI 0) hx hb dX6_isOne_13 (by decide) ?_
      rw [hQ]
      have hP9 : va_P D kC [] _ := hP
      have hD9 : va_D A [] := hD
      exact W.zret (v := nI 0) hx hb hr (rfl) (fun tq ht hW => ⟨⟨(), congrArg (fun z => Outcome.returned (some (Value.int z))) (kB_f (k01_f c_1 c_6)), trivial, by rw [ht]; exact hP9, va_K.moved hW.alike hK, hD9⟩, hS.F ht⟩) hS.2.2 dX6_isOne_14
    · refine lv_iconst (v := nI 1) hx hb dX6_isOne_9 (by decide) ?_
      refine lv_goto (tgt := 14) hx hb dX6_isOne_10 (by decide) ?_
      rw [hQ]
      have hP9 : va_P D kC [] _ := hP
      have hD9 : va_D A [] := hD
      exact W.zret (v := nI 1) hx hb hr (rfl) (fun tq ht hW => ⟨⟨(), congrArg (fun z => Outcome.returned (some (Value.int z))) (kB_t (by rw [c_6]; decide)), trivial, by rw [ht]; exact hP9, va_K.moved hW.alike hK, hD9⟩, hS.F ht⟩) hS.2.2 dX6_isOne_14

theorem iX6_note_X6 : ∀ w ∈ wsX60, w ∈ wsX6_note := by decide +kernel
theorem X6_note_hwd0 : (.fieldLink RX6 131 "SignatureSpansModel" "kinds" "[I" : Cond) ∈ wsX6_note := by decide +kernel
theorem X6_note_hwd1 : (.fieldLink RX6 191 "SignatureSpansModel" "changes" "I" : Cond) ∈ wsX6_note := by decide +kernel
theorem X6_note_hwd2 : (.fieldLink RX6 134 "SignatureSpansModel" "fields" "[I" : Cond) ∈ wsX6_note := by decide +kernel
set_option maxHeartbeats 4000000 in
set_option maxRecDepth 100000 in
/-- note -/
theorem c_X6_note (l : Launch) (D : va_G) (h : Nat) (r : Nat → Nat) (z1 z3 z4 z8 z25 : Int32) (ch x y : Nat) (kd fd : Nat → Nat) (hch : ch < 40) : kM (S := Unit) l yX6_note wsX6_note ({ frames := 7, cells := 0, slots := 0, locals := 100 }) 0 0 D [.ref h, .int (nI x), .int (nI y)] [(h, .inr (6, [.ref (r 0), .int z1, .ref (r 2), .int z3, .int z4, .ref (r 5), .ref (r 6), .ref (r 7), .int z8, .ref (r 9), .ref (r 10), .ref (r 11), .ref (r 12), .ref (r 13), .ref (r 14), .ref (r 15), .ref (r 16), .ref (r 17), .ref (r 18), .ref (r 19), .ref (r 20), .ref (r 21), .int (nI ch), .ref (r 23), .ref (r 24), .int z25, .ref (r 26), .ref (r 27), .ref (r 28), .ref (r 29), .ref (r 30), .ref (r 31)])), ((r 23), .inl (D.1 20, 40, .inl (fun j => nI (kd j)))), ((r 24), .inl (D.1 20, 40, .inl (fun j => nI (fd j))))] (fun _ => none) (fun _ => [(h, .inr (6, [.ref (r 0), .int z1, .ref (r 2), .int z3, .int z4, .ref (r 5), .ref (r 6), .ref (r 7), .int z8, .ref (r 9), .ref (r 10), .ref (r 11), .ref (r 12), .ref (r 13), .ref (r 14), .ref (r 15), .ref (r 16), .ref (r 17), .ref (r 18), .ref (r 19), .ref (r 20), .ref (r 21), .int (nI (ch + 1)), .ref (r 23), .ref (r 24), .int z25, .ref (r 26), .ref (r 27), .ref (r 28), .ref (r 29), .ref (r 30), .ref (r 31)])), ((r 23), .inl (D.1 20, 40, .inl (fun j => nI ((va_up kd ch x) j)))), ((r 24), .inl (D.1 20, 40, .inl (fun j => nI ((va_up fd ch y) j))))]) (fun _ => True) := by
  intro sz
  refine Met.ofW (cc := cX6_note) (maxL := 3) (ret := none) (by decide) rfl ?_
  intro p e s m args below meth c s₁ B hml hv
  obtain ⟨rfl, hsz, hP, hK, hD0, hE⟩ := hv
  have hx := B.exec
  have hb := B.bytes
  have hr := B.returns
  have hts := atoms_spec (ws := wsX6_note) B.pre
  have hown : s.vm.findClass RX6 = some m.cls := findClass_of_methodNamed B.named
  have hlocks := B.notSynchronized
  subst hsz
  have hD := hD0.self (sz := s.heap.size)
  generalize hAe : va_A [(h, .inr (6, [.ref (r 0), .int z1, .ref (r 2), .int z3, .int z4, .ref (r 5), .ref (r 6), .ref (r 7), .int z8, .ref (r 9), .ref (r 10), .ref (r 11), .ref (r 12), .ref (r 13), .ref (r 14), .ref (r 15), .ref (r 16), .ref (r 17), .ref (r 18), .ref (r 19), .ref (r 20), .ref (r 21), .int (nI ch), .ref (r 23), .ref (r 24), .int z25, .ref (r 26), .ref (r 27), .ref (r 28), .ref (r 29), .ref (r 30), .ref (r 31)])), ((r 23), .inl (D.1 20, 40, .inl (fun j => nI (kd j)))), ((r 24), .inl (D.1 20, 40, .inl (fun j => nI (fd j))))] s.heap.size = A at hD hE ⊢
  have hA : ∀ q : Nat, s.heap.size ≤ q → A q := fun q h => by rw [← hAe]; exact Or.inr h
  have hS : va_S A s.heap s.heap [] := va_S.rf
  have hl := lv_entry ([.ref h, .int (nI x), .int (nI y)]) (n := 3) (Nat.le_of_ble_eq_true rfl)
  have inX6 : ∀ w ∈ wsX60, w ∈ wsX6_note := iX6_note_X6
  have hwd0 := hts (.fieldLink RX6 131 "SignatureSpansModel" "kinds" "[I") X6_note_hwd0
  have hwd1 := hts (.fieldLink RX6 191 "SignatureSpansModel" "changes" "I") X6_note_hwd1
  have hwd2 := hts (.fieldLink RX6 134 "SignatureSpansModel" "fields" "[I") X6_note_hwd2
  refine kgenQ (fun Q hQ => ?_)
  rw [lg_entry_eq]
  generalize (lg_sl ([.ref h, .int (nI x), .int (nI y)]) ++ List.replicate (3 - (lg_sl ([.ref h, .int (nI x), .int (nI y)])).length) Slot.unset).toArray = ls at hl ⊢
  have hl : lv_has ls 3 [(0, .ref h), (1, .int (nI x)), (2, .int (nI y))] := hl
  refine lv_aload_n hx hb dX6_note_0 rfl (lv_at hl 0 rfl) ?_
  refine va_get (D := D) (ci := 6) (v := .ref (r 23)) (C := RX6) (T := TX6) (N := 32) hx hb hts inX6 hown hK hP 0 rfl rfl 23 (by decide) hwd0 (fun _ h9 => h9) rfl dX6_note_1 ?_
  refine lv_aload_n hx hb dX6_note_4 rfl (lv_at hl 0 rfl) ?_
  refine va_get (D := D) (ci := 6) (v := .int (nI ch)) (C := RX6) (T := TX6) (N := 32) hx hb hts inX6 hown hK hP 0 rfl rfl 22 (by decide) hwd1 (fun _ h9 => h9) rfl dX6_note_5 ?_
  refine lv_iload_n hx hb dX6_note_8 rfl (lv_at hl 1 rfl) ?_
  refine kn_iast hx hb hK hP hD hS 1 0 rfl rfl (i := ch) (by omega) (by decide) dX6_note_9 (fun H locs hP hD hS => ?_)
  have hP : va_P D kC [(h, .inr (6, [.ref (r 0), .int z1, .ref (r 2), .int z3, .int z4, .ref (r 5), .ref (r 6), .ref (r 7), .int z8, .ref (r 9), .ref (r 10), .ref (r 11), .ref (r 12), .ref (r 13), .ref (r 14), .ref (r 15), .ref (r 16), .ref (r 17), .ref (r 18), .ref (r 19), .ref (r 20), .ref (r 21), .int (nI ch), .ref (r 23), .ref (r 24), .int z25, .ref (r 26), .ref (r 27), .ref (r 28), .ref (r 29), .ref (r 30), .ref (r 31)])), ((r 23), .inl (D.1 20, 40, .inl (upd (fun j => nI (kd j)) ch (nI x)))), ((r 24), .inl (D.1 20, 40, .inl (fun j => nI (fd j))))] _ := hP
  have hD : va_D A [(h, .inr (6, [.ref (r 0), .int z1, .ref (r 2), .int z3, .int z4, .ref (r 5), .ref (r 6), .ref (r 7), .int z8, .ref (r 9), .ref (r 10), .ref (r 11), .ref (r 12), .ref (r 13), .ref (r 14), .ref (r 15), .ref (r 16), .ref (r 17), .ref (r 18), .ref (r 19), .ref (r 20), .ref (r 21), .int (nI ch), .ref (r 23), .ref (r 24), .int z25, .ref (r 26), .ref (r 27), .ref (r 28), .ref (r 29), .ref (r 30), .ref (r 31)])), ((r 23), .inl (D.1 20, 40, .inl (upd (fun j => nI (kd j)) ch (nI x)))), ((r 24), .inl (D.1 20, 40, .inl (fun j => nI (fd j))))] := hD
  have eu9 : upd (fun j => nI (kd j)) ch (nI x) = (fun j => nI ((va_up kd ch x) j)) := kUpN _ _ _
  rw [eu9] at hP hD
  refine lv_aload_n hx hb dX6_note_10 rfl (lv_at hl 0 rfl) ?_
  refine va_get (D := D) (ci := 6) (v := .ref (r 24)) (C := RX6) (T := TX6) (N := 32) hx hb hts inX6 hown hK hP 0 rfl rfl 24 (by decide) hwd2 (fun _ h9 => h9) rfl dX6_note_11 ?_
  refine lv_aload_n hx hb dX6_note_14 rfl (lv_at hl 0 rfl) ?_
  refine va_get (D := D) (ci := 6) (v := .int (nI ch)) (C := RX6) (T := TX6) (N := 32) hx hb hts inX6 hown hK hP 0 rfl rfl 22 (by decide) hwd1 (fun _ h9 => h9) rfl dX6_note_15 ?_
  refine lv_iload_n hx hb dX6_note_18 rfl (lv_at hl 2 rfl) ?_
  refine kn_iast hx hb hK hP hD hS 2 0 rfl rfl (i := ch) (by omega) (by decide) dX6_note_19 (fun H locs hP hD hS => ?_)
  have hP : va_P D kC [(h, .inr (6, [.ref (r 0), .int z1, .ref (r 2), .int z3, .int z4, .ref (r 5), .ref (r 6), .ref (r 7), .int z8, .ref (r 9), .ref (r 10), .ref (r 11), .ref (r 12), .ref (r 13), .ref (r 14), .ref (r 15), .ref (r 16), .ref (r 17), .ref (r 18), .ref (r 19), .ref (r 20), .ref (r 21), .int (nI ch), .ref (r 23), .ref (r 24), .int z25, .ref (r 26), .ref (r 27), .ref (r 28), .ref (r 29), .ref (r 30), .ref (r 31)])), ((r 23), .inl (D.1 20, 40, .inl (fun j => nI ((va_up kd ch x) j)))), ((r 24), .inl (D.1 20, 40, .inl (upd (fun j => nI (fd j)) ch (nI y))))] _ := hP
  have hD : va_D A [(h, .inr (6, [.ref (r 0), .int z1, .ref (r 2), .int z3, .int z4, .ref (r 5), .ref (r 6), .ref (r 7), .int z8, .ref (r 9), .ref (r 10), .ref (r 11), .ref (r 12), .ref (r 13), .ref (r 14), .ref (r 15), .ref (r 16), .ref (r 17), .ref (r 18), .ref (r 19), .ref (r 20), .ref (r 21), .int (nI ch), .ref (r 23), .ref (r 24), .int z25, .ref (r 26), .ref (r 27), .ref (r 28), .ref (r 29), .ref (r 30), .ref (r 31)])), ((r 23), .inl (D.1 20, 40, .inl (fun j => nI ((va_up kd ch x) j)))), ((r 24), .inl (D.1 20, 40, .inl (upd (fun j => nI (fd j)) ch (nI y))))] := hD
  have eu19 : upd (fun j => nI (fd j)) ch (nI y) = (fun j => nI ((va_up fd ch y) j)) := kUpN _ _ _
  rw [eu19] at hP hD
  refine lv_aload_n hx hb dX6_note_20 rfl (lv_at hl 0 rfl) ?_
  refine lv_dup hx hb dX6_note_21 rfl ?_
  refine va_get (D := D) (ci := 6) (v := .int (nI ch)) (C := RX6) (T := TX6) (N := 32) hx hb hts inX6 hown hK hP 0 rfl rfl 22 (by decide) hwd1 (fun _ h9 => h9) rfl dX6_note_22 ?_
  refine lv_iconst (v := nI 1) hx hb dX6_note_25 (by decide) ?_
  refine kn_iadd hx hb dX6_note_26 ?_
  refine va_put (D := D) (ci := 6) (v := .int (nI (ch + 1))) (ty := .int) (C := RX6) (T := TX6) (N := 32) hx hb hts inX6 tyX6 tyX6_ok nmX6 hown hK hP hD hS 0 rfl rfl 22 (by decide) hwd1 (fun _ h9 => h9) rfl (by decide +kernel) rfl rfl (Nat.le_of_ble_eq_true rfl) dX6_note_27 (fun H locs hP hD hS => ?_)
  have hP : va_P D kC [(h, .inr (6, [.ref (r 0), .int z1, .ref (r 2), .int z3, .int z4, .ref (r 5), .ref (r 6), .ref (r 7), .int z8, .ref (r 9), .ref (r 10), .ref (r 11), .ref (r 12), .ref (r 13), .ref (r 14), .ref (r 15), .ref (r 16), .ref (r 17), .ref (r 18), .ref (r 19), .ref (r 20), .ref (r 21), .int (nI (ch + 1)), .ref (r 23), .ref (r 24), .int z25, .ref (r 26), .ref (r 27), .ref (r 28), .ref (r 29), .ref (r 30), .ref (r 31)])), ((r 23), .inl (D.1 20, 40, .inl (fun j => nI ((va_up kd ch x) j)))), ((r 24), .inl (D.1 20, 40, .inl (fun j => nI ((va_up fd ch y) j))))] _ := hP
  have hD : va_D A [(h, .inr (6, [.ref (r 0), .int z1, .ref (r 2), .int z3, .int z4, .ref (r 5), .ref (r 6), .ref (r 7), .int z8, .ref (r 9), .ref (r 10), .ref (r 11), .ref (r 12), .ref (r 13), .ref (r 14), .ref (r 15), .ref (r 16), .ref (r 17), .ref (r 18), .ref (r 19), .ref (r 20), .ref (r 21), .int (nI (ch + 1)), .ref (r 23), .ref (r 24), .int z25, .ref (r 26), .ref (r 27), .ref (r 28), .ref (r 29), .ref (r 30), .ref (r 31)])), ((r 23), .inl (D.1 20, 40, .inl (fun j => nI ((va_up kd ch x) j)))), ((r 24), .inl (D.1 20, 40, .inl (fun j => nI ((va_up fd ch y) j))))] := hD
  rw [hQ]
  have hP9 : va_P D kC [(h, .inr (6, [.ref (r 0), .int z1, .ref (r 2), .int z3, .int z4, .ref (r 5), .ref (r 6), .ref (r 7), .int z8, .ref (r 9), .ref (r 10), .ref (r 11), .ref (r 12), .ref (r 13), .ref (r 14), .ref (r 15), .ref (r 16), .ref (r 17), .ref (r 18), .ref (r 19), .ref (r 20), .ref (r 21), .int (nI (ch + 1)), .ref (r 23), .ref (r 24), .int z25, .ref (r 26), .ref (r 27), .ref (r 28), .ref (r 29), .ref (r 30), .ref (r 31)])), ((r 23), .inl (D.1 20, 40, .inl (fun j => nI ((va_up kd ch x) j)))), ((r 24), .inl (D.1 20, 40, .inl (fun j => nI ((va_up fd ch y) j))))] _ := hP
  have hD9 : va_D A [(h, .inr (6, [.ref (r 0), .int z1, .ref (r 2), .int z3, .int z4, .ref (r 5), .ref (r 6), .ref (r 7), .int z8, .ref (r 9), .ref (r 10), .ref (r 11), .ref (r 12), .ref (r 13), .ref (r 14), .ref (r 15), .ref (r 16), .ref (r 17), .ref (r 18), .ref (r 19), .ref (r 20), .ref (r 21), .int (nI (ch + 1)), .ref (r 23), .ref (r 24), .int z25, .ref (r 26), .ref (r 27), .ref (r 28), .ref (r 29), .ref (r 30), .ref (r 31)])), ((r 23), .inl (D.1 20, 40, .inl (fun j => nI ((va_up kd ch x) j)))), ((r 24), .inl (D.1 20, 40, .inl (fun j => nI ((va_up fd ch y) j))))] := hD
  exact W.vret hx hb hr (fun tq ht hW => ⟨⟨(), rfl, trivial, by rw [ht]; exact hP9, va_K.moved hW.alike hK, hD9⟩, hS.F ht⟩) hS.2.2 dX6_note_30

theorem iX6_mayBe_X6 : ∀ w ∈ wsX60, w ∈ wsX6_mayBe := by decide +kernel
theorem X6_mayBe_hwd0 : (.fieldLink RX6 119 "SignatureSpansModel" "allowed" "[I" : Cond) ∈ wsX6_mayBe := by decide +kernel
theorem X6_mayBe_hwd1 : (.fieldLink RX6 125 "SignatureSpansModel" "levels" "[I" : Cond) ∈ wsX6_mayBe := by decide +kernel
theorem X6_mayBe_hwd2 : (.fieldLink RX6 122 "SignatureSpansModel" "locked" "[Z" : Cond) ∈ wsX6_mayBe := by decide +kernel
set_option maxHeartbeats 4000000 in
set_option maxRecDepth 100000 in
/-- mayBe -/
theorem c_X6_mayBe (l : Launch) (D : va_G) (h : Nat) (r : Nat → Nat) (z1 z3 z4 z8 z22 z25 : Int32) (i kd f : Nat) (al lo : Nat → Int32) (le : Nat → Nat) (hi : i < 8) (hkd : kd < 4) (hf : f < 20) (hle : ∀ k, k < 8 → le k ≤ 3) : kM (S := Unit) l yX6_mayBe wsX6_mayBe ({ frames := 7, cells := 0, slots := 0, locals := 100 }) 0 0 D [.ref h, .int (nI i), .int (nI kd), .int (nI f)] [(h, .inr (6, [.ref (r 0), .int z1, .ref (r 2), .int z3, .int z4, .ref (r 5), .ref (r 6), .ref (r 7), .int z8, .ref (r 9), .ref (r 10), .ref (r 11), .ref (r 12), .ref (r 13), .ref (r 14), .ref (r 15), .ref (r 16), .ref (r 17), .ref (r 18), .ref (r 19), .ref (r 20), .ref (r 21), .int z22, .ref (r 23), .ref (r 24), .int z25, .ref (r 26), .ref (r 27), .ref (r 28), .ref (r 29), .ref (r 30), .ref (r 31)])), ((r 18), .inl (D.1 20, 8, .inl al)), ((r 19), .inl (D.1 22, 160, .inl lo)), ((r 20), .inl (D.1 20, 8, .inl (fun j => nI (le j))))] (fun _ => some (.int (kB (kMay (al i) (le i) (decide (¬ lo (20 * i + f) = 0)) kd)))) (fun _ => [(h, .inr (6, [.ref (r 0), .int z1, .ref (r 2), .int z3, .int z4, .ref (r 5), .ref (r 6), .ref (r 7), .int z8, .ref (r 9), .ref (r 10), .ref (r 11), .ref (r 12), .ref (r 13), .ref (r 14), .ref (r 15), .ref (r 16), .ref (r 17), .ref (r 18), .ref (r 19), .ref (r 20), .ref (r 21), .int z22, .ref (r 23), .ref (r 24), .int z25, .ref (r 26), .ref (r 27), .ref (r 28), .ref (r 29), .ref (r 30), .ref (r 31)])), ((r 18), .inl (D.1 20, 8, .inl al)), ((r 19), .inl (D.1 22, 160, .inl lo)), ((r 20), .inl (D.1 20, 8, .inl (fun j => nI (le j))))]) (fun _ => True) := by
  intro sz
  refine Met.ofW (cc := cX6_mayBe) (maxL := 5) (ret := (some .boolean)) (by decide) rfl ?_
  intro p e s m args below meth c s₁ B hml hv
  obtain ⟨rfl, hsz, hP, hK, hD0, hE⟩ := hv
  have hx := B.exec
  have hb := B.bytes
  have hr := B.returns
  have hts := atoms_spec (ws := wsX6_mayBe) B.pre
  have hown : s.vm.findClass RX6 = some m.cls := findClass_of_methodNamed B.named
  have hlocks := B.notSynchronized
  subst hsz
  have hD := hD0.self (sz := s.heap.size)
  generalize hAe : va_A [(h, .inr (6, [.ref (r 0), .int z1, .ref (r 2), .int z3, .int z4, .ref (r 5), .ref (r 6), .ref (r 7), .int z8, .ref (r 9), .ref (r 10), .ref (r 11), .ref (r 12), .ref (r 13), .ref (r 14), .ref (r 15), .ref (r 16), .ref (r 17), .ref (r 18), .ref (r 19), .ref (r 20), .ref (r 21), .int z22, .ref (r 23), .ref (r 24), .int z25, .ref (r 26), .ref (r 27), .ref (r 28), .ref (r 29), .ref (r 30), .ref (r 31)])), ((r 18), .inl (D.1 20, 8, .inl al)), ((r 19), .inl (D.1 22, 160, .inl lo)), ((r 20), .inl (D.1 20, 8, .inl (fun j => nI (le j))))] s.heap.size = A at hD hE ⊢
  have hA : ∀ q : Nat, s.heap.size ≤ q → A q := fun q h => by rw [← hAe]; exact Or.inr h
  have hS : va_S A s.heap s.heap [] := va_S.rf
  have hl := lv_entry ([.ref h, .int (nI i), .int (nI kd), .int (nI f)]) (n := 5) (Nat.le_of_ble_eq_true rfl)
  have inX6 : ∀ w ∈ wsX60, w ∈ wsX6_mayBe := iX6_mayBe_X6
  have hwd0 := hts (.fieldLink RX6 119 "SignatureSpansModel" "allowed" "[I") X6_mayBe_hwd0
  have hwd1 := hts (.fieldLink RX6 125 "SignatureSpansModel" "levels" "[I") X6_mayBe_hwd1
  have hwd2 := hts (.fieldLink RX6 122 "SignatureSpansModel" "locked" "[Z") X6_mayBe_hwd2
  refine kgenQ (fun Q hQ => ?_)
  rw [lg_entry_eq]
  generalize (lg_sl ([.ref h, .int (nI i), .int (nI kd), .int (nI f)]) ++ List.replicate (5 - (lg_sl ([.ref h, .int (nI i), .int (nI kd), .int (nI f)])).length) Slot.unset).toArray = ls at hl ⊢
  have hl : lv_has ls 5 [(0, .ref h), (1, .int (nI i)), (2, .int (nI kd)), (3, .int (nI f))] := hl
  refine lv_aload_n hx hb dX6_mayBe_0 rfl (lv_at hl 0 rfl) ?_
  refine va_get (D := D) (ci := 6) (v := .ref (r 18)) (C := RX6) (T := TX6) (N := 32) hx hb hts inX6 hown hK hP 0 rfl rfl 18 (by decide) hwd0 (fun _ h9 => h9) rfl dX6_mayBe_1 ?_
  refine lv_iload_n hx hb dX6_mayBe_4 rfl (lv_at hl 1 rfl) ?_
  refine kn_iald hx hb hK hP 1 0 rfl rfl (i := i) (by omega) (by decide) dX6_mayBe_5 ?_
  refine lv_iload_n hx hb dX6_mayBe_6 rfl (lv_at hl 2 rfl) ?_
  refine lv_ishr hx hb dX6_mayBe_7 ?_
  refine lv_iconst (v := nI 1) hx hb dX6_mayBe_8 (by decide) ?_
  refine lv_iand hx hb dX6_mayBe_9 ?_
  refine lv_iconst (v := nI 1) hx hb dX6_mayBe_10 (by decide) ?_
  refine lv_icmp_ne (tgt := 18) hx hb dX6_mayBe_11 (by decide) (fun c_11 => ?_) (fun c_11 => ?_)
  · have hbf : kBit (al i) kd = false := decide_eq_false (fun q => c_11 ((k_bit1 _).mpr q))
    refine lv_iconst (v := nI 0) hx hb dX6_mayBe_18 (by decide) ?_
    refine lv_istore (lv' := [(4, .int (nI 0)), (0, .ref h), (1, .int (nI i)), (2, .int (nI kd)), (3, .int (nI f))]) hx hb dX6_mayBe_19 hl (by decide) rfl (fun ls hl => ?_)
    have hle9 := hle i (by omega)
    refine lv_aload_n hx hb dX6_mayBe_21 rfl (lv_at hl 1 rfl) ?_
    refine va_get (D := D) (ci := 6) (v := .ref (r 20)) (C := RX6) (T := TX6) (N := 32) hx hb hts inX6 hown hK hP 0 rfl rfl 20 (by decide) hwd1 (fun _ h9 => h9) rfl dX6_mayBe_22 ?_
    refine lv_iload_n hx hb dX6_mayBe_25 rfl (lv_at hl 2 rfl) ?_
    refine kn_iald hx hb hK hP 3 0 rfl rfl (i := i) (by omega) (by decide) dX6_mayBe_26 ?_
    refine kn_if_le (tgt := 75) hx hb (by omega) dX6_mayBe_27 (by decide) (fun c_27 => ?_) (fun c_27 => ?_)
    · refine lv_iload hx hb dX6_mayBe_75 (lv_at hl 0 rfl) ?_
      refine kn_if_eq (tgt := 102) hx hb (by decide) dX6_mayBe_77 (by decide) (fun c_77 => ?_) (fun c_77 => absurd c_77 (by decide))
      refine lv_iconst (v := nI 0) hx hb dX6_mayBe_102 (by decide) ?_
      rw [hQ]
      have hP9 : va_P D kC [(h, .inr (6, [.ref (r 0), .int z1, .ref (r 2), .int z3, .int z4, .ref (r 5), .ref (r 6), .ref (r 7), .int z8, .ref (r 9), .ref (r 10), .ref (r 11), .ref (r 12), .ref (r 13), .ref (r 14), .ref (r 15), .ref (r 16), .ref (r 17), .ref (r 18), .ref (r 19), .ref (r 20), .ref (r 21), .int z22, .ref (r 23), .ref (r 24), .int z25, .ref (r 26), .ref (r 27), .ref (r 28), .ref (r 29), .ref (r 30), .ref (r 31)])), ((r 18), .inl (D.1 20, 8, .inl al)), ((r 19), .inl (D.1 22, 160, .inl lo)), ((r 20), .inl (D.1 20, 8, .inl (fun j => nI (le j))))] _ := hP
      have hD9 : va_D A [(h, .inr (6, [.ref (r 0), .int z1, .ref (r 2), .int z3, .int z4, .ref (r 5), .ref (r 6), .ref (r 7), .int z8, .ref (r 9), .ref (r 10), .ref (r 11), .ref (r 12), .ref (r 13), .ref (r 14), .ref (r 15), .ref (r 16), .ref (r 17), .ref (r 18), .ref (r 19), .ref (r 20), .ref (r 21), .int z22, .ref (r 23), .ref (r 24), .int z25, .ref (r 26), .ref (r 27), .ref (r 28), .ref (r 29), .ref (r 30), .ref (r 31)])), ((r 18), .inl (D.1 20, 8, .inl al)), ((r 19), .inl (D.1 22, 160, .inl lo)), ((r 20), .inl (D.1 20, 8, .inl (fun j => nI (le j))))] := hD
      exact W.zret (v := nI 0) hx hb hr (rfl) (fun tq ht hW => ⟨⟨(), congrArg (fun z => Outcome.returned (some (Value.int z))) (kB_f (by unfold kMay; rw [hbf]; rfl)), trivial, by rw [ht]; exact hP9, va_K.moved hW.alike hK, hD9⟩, hS.F ht⟩) hS.2.2 dX6_mayBe_103
    · refine lv_iload hx hb dX6_mayBe_30 (lv_at hl 0 rfl) ?_
      refine kn_if_eq (tgt := 72) hx hb (by decide) dX6_mayBe_32 (by decide) (fun c_32 => ?_) (fun c_32 => absurd c_32 (by decide))
      refine lv_iconst (v := nI 0) hx hb dX6_mayBe_72 (by decide) ?_
      refine lv_istore (lv' := [(4, .int (nI 0)), (0, .ref h), (1, .int (nI i)), (2, .int (nI kd)), (3, .int (nI f))]) hx hb dX6_mayBe_73 hl (by decide) rfl (fun ls hl => ?_)
      refine lv_iload hx hb dX6_mayBe_75 (lv_at hl 0 rfl) ?_
      refine kn_if_eq (tgt := 102) hx hb (by decide) dX6_mayBe_77 (by decide) (fun c_77 => ?_) (fun c_77 => absurd c_77 (by decide))
      refine lv_iconst (v := nI 0) hx hb dX6_mayBe_102 (by decide) ?_
      rw [hQ]
      have hP9 : va_P D kC [(h, .inr (6, [.ref (r 0), .int z1, .ref (r 2), .int z3, .int z4, .ref (r 5), .ref (r 6), .ref (r 7), .int z8, .ref (r 9), .ref (r 10), .ref (r 11), .ref (r 12), .ref (r 13), .ref (r 14), .ref (r 15), .ref (r 16), .ref (r 17), .ref (r 18), .ref (r 19), .ref (r 20), .ref (r 21), .int z22, .ref (r 23), .ref (r 24), .int z25, .ref (r 26), .ref (r 27), .ref (r 28), .ref (r 29), .ref (r 30), .ref (r 31)])), ((r 18), .inl (D.1 20, 8, .inl al)), ((r 19), .inl (D.1 22, 160, .inl lo)), ((r 20), .inl (D.1 20, 8, .inl (fun j => nI (le j))))] _ := hP
      have hD9 : va_D A [(h, .inr (6, [.ref (r 0), .int z1, .ref (r 2), .int z3, .int z4, .ref (r 5), .ref (r 6), .ref (r 7), .int z8, .ref (r 9), .ref (r 10), .ref (r 11), .ref (r 12), .ref (r 13), .ref (r 14), .ref (r 15), .ref (r 16), .ref (r 17), .ref (r 18), .ref (r 19), .ref (r 20), .ref (r 21), .int z22, .ref (r 23), .ref (r 24), .int z25, .ref (r 26), .ref (r 27), .ref (r 28), .ref (r 29), .ref (r 30), .ref (r 31)])), ((r 18), .inl (D.1 20, 8, .inl al)), ((r 19), .inl (D.1 22, 160, .inl lo)), ((r 20), .inl (D.1 20, 8, .inl (fun j => nI (le j))))] := hD
      exact W.zret (v := nI 0) hx hb hr (rfl) (fun tq ht hW => ⟨⟨(), congrArg (fun z => Outcome.returned (some (Value.int z))) (kB_f (by unfold kMay; rw [hbf]; rfl)), trivial, by rw [ht]; exact hP9, va_K.moved hW.alike hK, hD9⟩, hS.F ht⟩) hS.2.2 dX6_mayBe_103
  · have hbt : kBit (al i) kd = true := decide_eq_true ((k_bit1 _).mp c_11)
    refine lv_iconst (v := nI 1) hx hb dX6_mayBe_14 (by decide) ?_
    refine lv_goto (tgt := 19) hx hb dX6_mayBe_15 (by decide) ?_
    refine lv_istore (lv' := [(4, .int (nI 1)), (0, .ref h), (1, .int (nI i)), (2, .int (nI kd)), (3, .int (nI f))]) hx hb dX6_mayBe_19 hl (by decide) rfl (fun ls hl => ?_)
    have hle9 := hle i (by omega)
    refine lv_aload_n hx hb dX6_mayBe_21 rfl (lv_at hl 1 rfl) ?_
    refine va_get (D := D) (ci := 6) (v := .ref (r 20)) (C := RX6) (T := TX6) (N := 32) hx hb hts inX6 hown hK hP 0 rfl rfl 20 (by decide) hwd1 (fun _ h9 => h9) rfl dX6_mayBe_22 ?_
    refine lv_iload_n hx hb dX6_mayBe_25 rfl (lv_at hl 2 rfl) ?_
    refine kn_iald hx hb hK hP 3 0 rfl rfl (i := i) (by omega) (by decide) dX6_mayBe_26 ?_
    refine kn_if_le (tgt := 75) hx hb (by omega) dX6_mayBe_27 (by decide) (fun c_27 => ?_) (fun c_27 => ?_)
    · refine lv_iload hx hb dX6_mayBe_75 (lv_at hl 0 rfl) ?_
      refine kn_if_eq (tgt := 102) hx hb (by decide) dX6_mayBe_77 (by decide) (fun c_77 => absurd c_77 (by decide)) (fun c_77 => ?_)
      refine lv_iload_n hx hb dX6_mayBe_80 rfl (lv_at hl 3 rfl) ?_
      refine kn_if_ne (tgt := 98) hx hb (by omega) dX6_mayBe_81 (by decide) (fun c_81 => ?_) (fun c_81 => ?_)
      · refine lv_iconst (v := nI 1) hx hb dX6_mayBe_98 (by decide) ?_
        refine lv_goto (tgt := 103) hx hb dX6_mayBe_99 (by decide) ?_
        rw [hQ]
        have hP9 : va_P D kC [(h, .inr (6, [.ref (r 0), .int z1, .ref (r 2), .int z3, .int z4, .ref (r 5), .ref (r 6), .ref (r 7), .int z8, .ref (r 9), .ref (r 10), .ref (r 11), .ref (r 12), .ref (r 13), .ref (r 14), .ref (r 15), .ref (r 16), .ref (r 17), .ref (r 18), .ref (r 19), .ref (r 20), .ref (r 21), .int z22, .ref (r 23), .ref (r 24), .int z25, .ref (r 26), .ref (r 27), .ref (r 28), .ref (r 29), .ref (r 30), .ref (r 31)])), ((r 18), .inl (D.1 20, 8, .inl al)), ((r 19), .inl (D.1 22, 160, .inl lo)), ((r 20), .inl (D.1 20, 8, .inl (fun j => nI (le j))))] _ := hP
        have hD9 : va_D A [(h, .inr (6, [.ref (r 0), .int z1, .ref (r 2), .int z3, .int z4, .ref (r 5), .ref (r 6), .ref (r 7), .int z8, .ref (r 9), .ref (r 10), .ref (r 11), .ref (r 12), .ref (r 13), .ref (r 14), .ref (r 15), .ref (r 16), .ref (r 17), .ref (r 18), .ref (r 19), .ref (r 20), .ref (r 21), .int z22, .ref (r 23), .ref (r 24), .int z25, .ref (r 26), .ref (r 27), .ref (r 28), .ref (r 29), .ref (r 30), .ref (r 31)])), ((r 18), .inl (D.1 20, 8, .inl al)), ((r 19), .inl (D.1 22, 160, .inl lo)), ((r 20), .inl (D.1 20, 8, .inl (fun j => nI (le j))))] := hD
        exact W.zret (v := nI 1) hx hb hr (rfl) (fun tq ht hW => ⟨⟨(), congrArg (fun z => Outcome.returned (some (Value.int z))) (kB_t (by unfold kMay; rw [hbt, decide_eq_true (p := (le i = 0 ∨ le i = 2 ∧ kd = 0 ∨ le i = 3 ∧ kd ≤ 1)) (by omega)]; rw [decide_eq_false (p := kd = 0) (by omega)]; rfl)), trivial, by rw [ht]; exact hP9, va_K.moved hW.alike hK, hD9⟩, hS.F ht⟩) hS.2.2 dX6_mayBe_103
      · refine lv_aload_n hx hb dX6_mayBe_84 rfl (lv_at hl 1 rfl) ?_
        refine va_get (D := D) (ci := 6) (v := .ref (r 19)) (C := RX6) (T := TX6) (N := 32) hx hb hts inX6 hown hK hP 0 rfl rfl 19 (by decide) hwd2 (fun _ h9 => h9) rfl dX6_mayBe_85 ?_
        refine lv_bipush (v := nI 20) hx hb dX6_mayBe_88 (by decide) ?_
        refine lv_iload_n hx hb dX6_mayBe_90 rfl (lv_at hl 2 rfl) ?_
        refine kn_imul hx hb dX6_mayBe_91 ?_
        refine lv_iload_n hx hb dX6_mayBe_92 rfl (lv_at hl 4 rfl) ?_
        refine kn_iadd hx hb dX6_mayBe_93 ?_
        refine kn_zald hx hb hK hP 2 2 rfl rfl (i := 20 * i + f) (by omega) (by decide) dX6_mayBe_94 ?_
        refine lv_if_ne (tgt := 102) hx hb dX6_mayBe_95 (by decide) (fun c_95 => ?_) (fun c_95 => ?_)
        · refine lv_iconst (v := nI 0) hx hb dX6_mayBe_102 (by decide) ?_
          rw [hQ]
          have hP9 : va_P D kC [(h, .inr (6, [.ref (r 0), .int z1, .ref (r 2), .int z3, .int z4, .ref (r 5), .ref (r 6), .ref (r 7), .int z8, .ref (r 9), .ref (r 10), .ref (r 11), .ref (r 12), .ref (r 13), .ref (r 14), .ref (r 15), .ref (r 16), .ref (r 17), .ref (r 18), .ref (r 19), .ref (r 20), .ref (r 21), .int z22, .ref (r 23), .ref (r 24), .int z25, .ref (r 26), .ref (r 27), .ref (r 28), .ref (r 29), .ref (r 30), .ref (r 31)])), ((r 18), .inl (D.1 20, 8, .inl al)), ((r 19), .inl (D.1 22, 160, .inl lo)), ((r 20), .inl (D.1 20, 8, .inl (fun j => nI (le j))))] _ := hP
          have hD9 : va_D A [(h, .inr (6, [.ref (r 0), .int z1, .ref (r 2), .int z3, .int z4, .ref (r 5), .ref (r 6), .ref (r 7), .int z8, .ref (r 9), .ref (r 10), .ref (r 11), .ref (r 12), .ref (r 13), .ref (r 14), .ref (r 15), .ref (r 16), .ref (r 17), .ref (r 18), .ref (r 19), .ref (r 20), .ref (r 21), .int z22, .ref (r 23), .ref (r 24), .int z25, .ref (r 26), .ref (r 27), .ref (r 28), .ref (r 29), .ref (r 30), .ref (r 31)])), ((r 18), .inl (D.1 20, 8, .inl al)), ((r 19), .inl (D.1 22, 160, .inl lo)), ((r 20), .inl (D.1 20, 8, .inl (fun j => nI (le j))))] := hD
          exact W.zret (v := nI 0) hx hb hr (rfl) (fun tq ht hW => ⟨⟨(), congrArg (fun z => Outcome.returned (some (Value.int z))) (kB_f (by unfold kMay; rw [decide_eq_true (p := kd = 0) c_81, decide_eq_true (p := ¬ lo (20 * i + f) = 0) c_95, Bool.and_true, Bool.not_true, Bool.and_false, Bool.and_false])), trivial, by rw [ht]; exact hP9, va_K.moved hW.alike hK, hD9⟩, hS.F ht⟩) hS.2.2 dX6_mayBe_103
        · refine lv_iconst (v := nI 1) hx hb dX6_mayBe_98 (by decide) ?_
          refine lv_goto (tgt := 103) hx hb dX6_mayBe_99 (by decide) ?_
          rw [hQ]
          have hP9 : va_P D kC [(h, .inr (6, [.ref (r 0), .int z1, .ref (r 2), .int z3, .int z4, .ref (r 5), .ref (r 6), .ref (r 7), .int z8, .ref (r 9), .ref (r 10), .ref (r 11), .ref (r 12), .ref (r 13), .ref (r 14), .ref (r 15), .ref (r 16), .ref (r 17), .ref (r 18), .ref (r 19), .ref (r 20), .ref (r 21), .int z22, .ref (r 23), .ref (r 24), .int z25, .ref (r 26), .ref (r 27), .ref (r 28), .ref (r 29), .ref (r 30), .ref (r 31)])), ((r 18), .inl (D.1 20, 8, .inl al)), ((r 19), .inl (D.1 22, 160, .inl lo)), ((r 20), .inl (D.1 20, 8, .inl (fun j => nI (le j))))] _ := hP
          have hD9 : va_D A [(h, .inr (6, [.ref (r 0), .int z1, .ref (r 2), .int z3, .int z4, .ref (r 5), .ref (r 6), .ref (r 7), .int z8, .ref (r 9), .ref (r 10), .ref (r 11), .ref (r 12), .ref (r 13), .ref (r 14), .ref (r 15), .ref (r 16), .ref (r 17), .ref (r 18), .ref (r 19), .ref (r 20), .ref (r 21), .int z22, .ref (r 23), .ref (r 24), .int z25, .ref (r 26), .ref (r 27), .ref (r 28), .ref (r 29), .ref (r 30), .ref (r 31)])), ((r 18), .inl (D.1 20, 8, .inl al)), ((r 19), .inl (D.1 22, 160, .inl lo)), ((r 20), .inl (D.1 20, 8, .inl (fun j => nI (le j))))] := hD
          exact W.zret (v := nI 1) hx hb hr (rfl) (fun tq ht hW => ⟨⟨(), congrArg (fun z => Outcome.returned (some (Value.int z))) (kB_t (by unfold kMay; rw [hbt, decide_eq_true (p := (le i = 0 ∨ le i = 2 ∧ kd = 0 ∨ le i = 3 ∧ kd ≤ 1)) (by omega)]; rw [decide_eq_false (p := ¬ lo (20 * i + f) = 0) (fun q => q c_95), Bool.and_false]; rfl)), trivial, by rw [ht]; exact hP9, va_K.moved hW.alike hK, hD9⟩, hS.F ht⟩) hS.2.2 dX6_mayBe_103
    · refine lv_iload hx hb dX6_mayBe_30 (lv_at hl 0 rfl) ?_
      refine kn_if_eq (tgt := 72) hx hb (by decide) dX6_mayBe_32 (by decide) (fun c_32 => absurd c_32 (by decide)) (fun c_32 => ?_)
      refine lv_aload_n hx hb dX6_mayBe_35 rfl (lv_at hl 1 rfl) ?_
      refine va_get (D := D) (ci := 6) (v := .ref (r 20)) (C := RX6) (T := TX6) (N := 32) hx hb hts inX6 hown hK hP 0 rfl rfl 20 (by decide) hwd1 (fun _ h9 => h9) rfl dX6_mayBe_36 ?_
      refine lv_iload_n hx hb dX6_mayBe_39 rfl (lv_at hl 2 rfl) ?_
      refine kn_iald hx hb hK hP 3 0 rfl rfl (i := i) (by omega) (by decide) dX6_mayBe_40 ?_
      refine lv_iconst (v := nI 2) hx hb dX6_mayBe_41 (by decide) ?_
      refine kn_icmp_ne (tgt := 49) hx hb (by omega) (by omega) dX6_mayBe_42 (by decide) (fun c_42 => ?_) (fun c_42 => ?_)
      · refine lv_aload_n hx hb dX6_mayBe_49 rfl (lv_at hl 1 rfl) ?_
        refine va_get (D := D) (ci := 6) (v := .ref (r 20)) (C := RX6) (T := TX6) (N := 32) hx hb hts inX6 hown hK hP 0 rfl rfl 20 (by decide) hwd1 (fun _ h9 => h9) rfl dX6_mayBe_50 ?_
        refine lv_iload_n hx hb dX6_mayBe_53 rfl (lv_at hl 2 rfl) ?_
        refine kn_iald hx hb hK hP 3 0 rfl rfl (i := i) (by omega) (by decide) dX6_mayBe_54 ?_
        refine lv_iconst (v := nI 3) hx hb dX6_mayBe_55 (by decide) ?_
        refine kn_icmp_ne (tgt := 72) hx hb (by omega) (by omega) dX6_mayBe_56 (by decide) (fun c_56 => ?_) (fun c_56 => ?_)
        · refine lv_iconst (v := nI 0) hx hb dX6_mayBe_72 (by decide) ?_
          refine lv_istore (lv' := [(4, .int (nI 0)), (0, .ref h), (1, .int (nI i)), (2, .int (nI kd)), (3, .int (nI f))]) hx hb dX6_mayBe_73 hl (by decide) rfl (fun ls hl => ?_)
          refine lv_iload hx hb dX6_mayBe_75 (lv_at hl 0 rfl) ?_
          refine kn_if_eq (tgt := 102) hx hb (by decide) dX6_mayBe_77 (by decide) (fun c_77 => ?_) (fun c_77 => absurd c_77 (by decide))
          refine lv_iconst (v := nI 0) hx hb dX6_mayBe_102 (by decide) ?_
          rw [hQ]
          have hP9 : va_P D kC [(h, .inr (6, [.ref (r 0), .int z1, .ref (r 2), .int z3, .int z4, .ref (r 5), .ref (r 6), .ref (r 7), .int z8, .ref (r 9), .ref (r 10), .ref (r 11), .ref (r 12), .ref (r 13), .ref (r 14), .ref (r 15), .ref (r 16), .ref (r 17), .ref (r 18), .ref (r 19), .ref (r 20), .ref (r 21), .int z22, .ref (r 23), .ref (r 24), .int z25, .ref (r 26), .ref (r 27), .ref (r 28), .ref (r 29), .ref (r 30), .ref (r 31)])), ((r 18), .inl (D.1 20, 8, .inl al)), ((r 19), .inl (D.1 22, 160, .inl lo)), ((r 20), .inl (D.1 20, 8, .inl (fun j => nI (le j))))] _ := hP
          have hD9 : va_D A [(h, .inr (6, [.ref (r 0), .int z1, .ref (r 2), .int z3, .int z4, .ref (r 5), .ref (r 6), .ref (r 7), .int z8, .ref (r 9), .ref (r 10), .ref (r 11), .ref (r 12), .ref (r 13), .ref (r 14), .ref (r 15), .ref (r 16), .ref (r 17), .ref (r 18), .ref (r 19), .ref (r 20), .ref (r 21), .int z22, .ref (r 23), .ref (r 24), .int z25, .ref (r 26), .ref (r 27), .ref (r 28), .ref (r 29), .ref (r 30), .ref (r 31)])), ((r 18), .inl (D.1 20, 8, .inl al)), ((r 19), .inl (D.1 22, 160, .inl lo)), ((r 20), .inl (D.1 20, 8, .inl (fun j => nI (le j))))] := hD
          exact W.zret (v := nI 0) hx hb hr (rfl) (fun tq ht hW => ⟨⟨(), congrArg (fun z => Outcome.returned (some (Value.int z))) (kB_f (by unfold kMay; rw [decide_eq_false (p := (le i = 0 ∨ le i = 2 ∧ kd = 0 ∨ le i = 3 ∧ kd ≤ 1)) (by omega), Bool.false_and, Bool.and_false])), trivial, by rw [ht]; exact hP9, va_K.moved hW.alike hK, hD9⟩, hS.F ht⟩) hS.2.2 dX6_mayBe_103
        · refine lv_iload_n hx hb dX6_mayBe_59 rfl (lv_at hl 3 rfl) ?_
          refine kn_if_eq (tgt := 68) hx hb (by omega) dX6_mayBe_60 (by decide) (fun c_60 => ?_) (fun c_60 => ?_)
          · refine lv_iconst (v := nI 1) hx hb dX6_mayBe_68 (by decide) ?_
            refine lv_goto (tgt := 73) hx hb dX6_mayBe_69 (by decide) ?_
            refine lv_istore (lv' := [(4, .int (nI 1)), (0, .ref h), (1, .int (nI i)), (2, .int (nI kd)), (3, .int (nI f))]) hx hb dX6_mayBe_73 hl (by decide) rfl (fun ls hl => ?_)
            refine lv_iload hx hb dX6_mayBe_75 (lv_at hl 0 rfl) ?_
            refine kn_if_eq (tgt := 102) hx hb (by decide) dX6_mayBe_77 (by decide) (fun c_77 => absurd c_77 (by decide)) (fun c_77 => ?_)
            refine lv_iload_n hx hb dX6_mayBe_80 rfl (lv_at hl 3 rfl) ?_
            refine kn_if_ne (tgt := 98) hx hb (by omega) dX6_mayBe_81 (by decide) (fun c_81 => ?_) (fun c_81 => ?_)
            · refine lv_iconst (v := nI 1) hx hb dX6_mayBe_98 (by decide) ?_
              refine lv_goto (tgt := 103) hx hb dX6_mayBe_99 (by decide) ?_
              rw [hQ]
              have hP9 : va_P D kC [(h, .inr (6, [.ref (r 0), .int z1, .ref (r 2), .int z3, .int z4, .ref (r 5), .ref (r 6), .ref (r 7), .int z8, .ref (r 9), .ref (r 10), .ref (r 11), .ref (r 12), .ref (r 13), .ref (r 14), .ref (r 15), .ref (r 16), .ref (r 17), .ref (r 18), .ref (r 19), .ref (r 20), .ref (r 21), .int z22, .ref (r 23), .ref (r 24), .int z25, .ref (r 26), .ref (r 27), .ref (r 28), .ref (r 29), .ref (r 30), .ref (r 31)])), ((r 18), .inl (D.1 20, 8, .inl al)), ((r 19), .inl (D.1 22, 160, .inl lo)), ((r 20), .inl (D.1 20, 8, .inl (fun j => nI (le j))))] _ := hP
              have hD9 : va_D A [(h, .inr (6, [.ref (r 0), .int z1, .ref (r 2), .int z3, .int z4, .ref (r 5), .ref (r 6), .ref (r 7), .int z8, .ref (r 9), .ref (r 10), .ref (r 11), .ref (r 12), .ref (r 13), .ref (r 14), .ref (r 15), .ref (r 16), .ref (r 17), .ref (r 18), .ref (r 19), .ref (r 20), .ref (r 21), .int z22, .ref (r 23), .ref (r 24), .int z25, .ref (r 26), .ref (r 27), .ref (r 28), .ref (r 29), .ref (r 30), .ref (r 31)])), ((r 18), .inl (D.1 20, 8, .inl al)), ((r 19), .inl (D.1 22, 160, .inl lo)), ((r 20), .inl (D.1 20, 8, .inl (fun j => nI (le j))))] := hD
              exact W.zret (v := nI 1) hx hb hr (rfl) (fun tq ht hW => ⟨⟨(), congrArg (fun z => Outcome.returned (some (Value.int z))) (kB_t (by unfold kMay; rw [hbt, decide_eq_true (p := (le i = 0 ∨ le i = 2 ∧ kd = 0 ∨ le i = 3 ∧ kd ≤ 1)) (by omega)]; rw [decide_eq_false (p := kd = 0) (by omega)]; rfl)), trivial, by rw [ht]; exact hP9, va_K.moved hW.alike hK, hD9⟩, hS.F ht⟩) hS.2.2 dX6_mayBe_103
            · refine lv_aload_n hx hb dX6_mayBe_84 rfl (lv_at hl 1 rfl) ?_
              refine va_get (D := D) (ci := 6) (v := .ref (r 19)) (C := RX6) (T := TX6) (N := 32) hx hb hts inX6 hown hK hP 0 rfl rfl 19 (by decide) hwd2 (fun _ h9 => h9) rfl dX6_mayBe_85 ?_
              refine lv_bipush (v := nI 20) hx hb dX6_mayBe_88 (by decide) ?_
              refine lv_iload_n hx hb dX6_mayBe_90 rfl (lv_at hl 2 rfl) ?_
              refine kn_imul hx hb dX6_mayBe_91 ?_
              refine lv_iload_n hx hb dX6_mayBe_92 rfl (lv_at hl 4 rfl) ?_
              refine kn_iadd hx hb dX6_mayBe_93 ?_
              refine kn_zald hx hb hK hP 2 2 rfl rfl (i := 20 * i + f) (by omega) (by decide) dX6_mayBe_94 ?_
              refine lv_if_ne (tgt := 102) hx hb dX6_mayBe_95 (by decide) (fun c_95 => ?_) (fun c_95 => ?_)
              · refine lv_iconst (v := nI 0) hx hb dX6_mayBe_102 (by decide) ?_
                rw [hQ]
                have hP9 : va_P D kC [(h, .inr (6, [.ref (r 0), .int z1, .ref (r 2), .int z3, .int z4, .ref (r 5), .ref (r 6), .ref (r 7), .int z8, .ref (r 9), .ref (r 10), .ref (r 11), .ref (r 12), .ref (r 13), .ref (r 14), .ref (r 15), .ref (r 16), .ref (r 17), .ref (r 18), .ref (r 19), .ref (r 20), .ref (r 21), .int z22, .ref (r 23), .ref (r 24), .int z25, .ref (r 26), .ref (r 27), .ref (r 28), .ref (r 29), .ref (r 30), .ref (r 31)])), ((r 18), .inl (D.1 20, 8, .inl al)), ((r 19), .inl (D.1 22, 160, .inl lo)), ((r 20), .inl (D.1 20, 8, .inl (fun j => nI (le j))))] _ := hP
                have hD9 : va_D A [(h, .inr (6, [.ref (r 0), .int z1, .ref (r 2), .int z3, .int z4, .ref (r 5), .ref (r 6), .ref (r 7), .int z8, .ref (r 9), .ref (r 10), .ref (r 11), .ref (r 12), .ref (r 13), .ref (r 14), .ref (r 15), .ref (r 16), .ref (r 17), .ref (r 18), .ref (r 19), .ref (r 20), .ref (r 21), .int z22, .ref (r 23), .ref (r 24), .int z25, .ref (r 26), .ref (r 27), .ref (r 28), .ref (r 29), .ref (r 30), .ref (r 31)])), ((r 18), .inl (D.1 20, 8, .inl al)), ((r 19), .inl (D.1 22, 160, .inl lo)), ((r 20), .inl (D.1 20, 8, .inl (fun j => nI (le j))))] := hD
                exact W.zret (v := nI 0) hx hb hr (rfl) (fun tq ht hW => ⟨⟨(), congrArg (fun z => Outcome.returned (some (Value.int z))) (kB_f (by unfold kMay; rw [decide_eq_true (p := kd = 0) c_81, decide_eq_true (p := ¬ lo (20 * i + f) = 0) c_95, Bool.and_true, Bool.not_true, Bool.and_false, Bool.and_false])), trivial, by rw [ht]; exact hP9, va_K.moved hW.alike hK, hD9⟩, hS.F ht⟩) hS.2.2 dX6_mayBe_103
              · refine lv_iconst (v := nI 1) hx hb dX6_mayBe_98 (by decide) ?_
                refine lv_goto (tgt := 103) hx hb dX6_mayBe_99 (by decide) ?_
                rw [hQ]
                have hP9 : va_P D kC [(h, .inr (6, [.ref (r 0), .int z1, .ref (r 2), .int z3, .int z4, .ref (r 5), .ref (r 6), .ref (r 7), .int z8, .ref (r 9), .ref (r 10), .ref (r 11), .ref (r 12), .ref (r 13), .ref (r 14), .ref (r 15), .ref (r 16), .ref (r 17), .ref (r 18), .ref (r 19), .ref (r 20), .ref (r 21), .int z22, .ref (r 23), .ref (r 24), .int z25, .ref (r 26), .ref (r 27), .ref (r 28), .ref (r 29), .ref (r 30), .ref (r 31)])), ((r 18), .inl (D.1 20, 8, .inl al)), ((r 19), .inl (D.1 22, 160, .inl lo)), ((r 20), .inl (D.1 20, 8, .inl (fun j => nI (le j))))] _ := hP
                have hD9 : va_D A [(h, .inr (6, [.ref (r 0), .int z1, .ref (r 2), .int z3, .int z4, .ref (r 5), .ref (r 6), .ref (r 7), .int z8, .ref (r 9), .ref (r 10), .ref (r 11), .ref (r 12), .ref (r 13), .ref (r 14), .ref (r 15), .ref (r 16), .ref (r 17), .ref (r 18), .ref (r 19), .ref (r 20), .ref (r 21), .int z22, .ref (r 23), .ref (r 24), .int z25, .ref (r 26), .ref (r 27), .ref (r 28), .ref (r 29), .ref (r 30), .ref (r 31)])), ((r 18), .inl (D.1 20, 8, .inl al)), ((r 19), .inl (D.1 22, 160, .inl lo)), ((r 20), .inl (D.1 20, 8, .inl (fun j => nI (le j))))] := hD
                exact W.zret (v := nI 1) hx hb hr (rfl) (fun tq ht hW => ⟨⟨(), congrArg (fun z => Outcome.returned (some (Value.int z))) (kB_t (by unfold kMay; rw [hbt, decide_eq_true (p := (le i = 0 ∨ le i = 2 ∧ kd = 0 ∨ le i = 3 ∧ kd ≤ 1)) (by omega)]; rw [decide_eq_false (p := ¬ lo (20 * i + f) = 0) (fun q => q c_95), Bool.and_false]; rfl)), trivial, by rw [ht]; exact hP9, va_K.moved hW.alike hK, hD9⟩, hS.F ht⟩) hS.2.2 dX6_mayBe_103
          · refine lv_iload_n hx hb dX6_mayBe_63 rfl (lv_at hl 3 rfl) ?_
            refine lv_iconst (v := nI 1) hx hb dX6_mayBe_64 (by decide) ?_
            refine kn_icmp_ne (tgt := 72) hx hb (by omega) (by omega) dX6_mayBe_65 (by decide) (fun c_65 => ?_) (fun c_65 => ?_)
            · refine lv_iconst (v := nI 0) hx hb dX6_mayBe_72 (by decide) ?_
              refine lv_istore (lv' := [(4, .int (nI 0)), (0, .ref h), (1, .int (nI i)), (2, .int (nI kd)), (3, .int (nI f))]) hx hb dX6_mayBe_73 hl (by decide) rfl (fun ls hl => ?_)
              refine lv_iload hx hb dX6_mayBe_75 (lv_at hl 0 rfl) ?_
              refine kn_if_eq (tgt := 102) hx hb (by decide) dX6_mayBe_77 (by decide) (fun c_77 => ?_) (fun c_77 => absurd c_77 (by decide))
              refine lv_iconst (v := nI 0) hx hb dX6_mayBe_102 (by decide) ?_
              rw [hQ]
              have hP9 : va_P D kC [(h, .inr (6, [.ref (r 0), .int z1, .ref (r 2), .int z3, .int z4, .ref (r 5), .ref (r 6), .ref (r 7), .int z8, .ref (r 9), .ref (r 10), .ref (r 11), .ref (r 12), .ref (r 13), .ref (r 14), .ref (r 15), .ref (r 16), .ref (r 17), .ref (r 18), .ref (r 19), .ref (r 20), .ref (r 21), .int z22, .ref (r 23), .ref (r 24), .int z25, .ref (r 26), .ref (r 27), .ref (r 28), .ref (r 29), .ref (r 30), .ref (r 31)])), ((r 18), .inl (D.1 20, 8, .inl al)), ((r 19), .inl (D.1 22, 160, .inl lo)), ((r 20), .inl (D.1 20, 8, .inl (fun j => nI (le j))))] _ := hP
              have hD9 : va_D A [(h, .inr (6, [.ref (r 0), .int z1, .ref (r 2), .int z3, .int z4, .ref (r 5), .ref (r 6), .ref (r 7), .int z8, .ref (r 9), .ref (r 10), .ref (r 11), .ref (r 12), .ref (r 13), .ref (r 14), .ref (r 15), .ref (r 16), .ref (r 17), .ref (r 18), .ref (r 19), .ref (r 20), .ref (r 21), .int z22, .ref (r 23), .ref (r 24), .int z25, .ref (r 26), .ref (r 27), .ref (r 28), .ref (r 29), .ref (r 30), .ref (r 31)])), ((r 18), .inl (D.1 20, 8, .inl al)), ((r 19), .inl (D.1 22, 160, .inl lo)), ((r 20), .inl (D.1 20, 8, .inl (fun j => nI (le j))))] := hD
              exact W.zret (v := nI 0) hx hb hr (rfl) (fun tq ht hW => ⟨⟨(), congrArg (fun z => Outcome.returned (some (Value.int z))) (kB_f (by unfold kMay; rw [decide_eq_false (p := (le i = 0 ∨ le i = 2 ∧ kd = 0 ∨ le i = 3 ∧ kd ≤ 1)) (by omega), Bool.false_and, Bool.and_false])), trivial, by rw [ht]; exact hP9, va_K.moved hW.alike hK, hD9⟩, hS.F ht⟩) hS.2.2 dX6_mayBe_103
            · refine lv_iconst (v := nI 1) hx hb dX6_mayBe_68 (by decide) ?_
              refine lv_goto (tgt := 73) hx hb dX6_mayBe_69 (by decide) ?_
              refine lv_istore (lv' := [(4, .int (nI 1)), (0, .ref h), (1, .int (nI i)), (2, .int (nI kd)), (3, .int (nI f))]) hx hb dX6_mayBe_73 hl (by decide) rfl (fun ls hl => ?_)
              refine lv_iload hx hb dX6_mayBe_75 (lv_at hl 0 rfl) ?_
              refine kn_if_eq (tgt := 102) hx hb (by decide) dX6_mayBe_77 (by decide) (fun c_77 => absurd c_77 (by decide)) (fun c_77 => ?_)
              refine lv_iload_n hx hb dX6_mayBe_80 rfl (lv_at hl 3 rfl) ?_
              refine kn_if_ne (tgt := 98) hx hb (by omega) dX6_mayBe_81 (by decide) (fun c_81 => ?_) (fun c_81 => ?_)
              · refine lv_iconst (v := nI 1) hx hb dX6_mayBe_98 (by decide) ?_
                refine lv_goto (tgt := 103) hx hb dX6_mayBe_99 (by decide) ?_
                rw [hQ]
                have hP9 : va_P D kC [(h, .inr (6, [.ref (r 0), .int z1, .ref (r 2), .int z3, .int z4, .ref (r 5), .ref (r 6), .ref (r 7), .int z8, .ref (r 9), .ref (r 10), .ref (r 11), .ref (r 12), .ref (r 13), .ref (r 14), .ref (r 15), .ref (r 16), .ref (r 17), .ref (r 18), .ref (r 19), .ref (r 20), .ref (r 21), .int z22, .ref (r 23), .ref (r 24), .int z25, .ref (r 26), .ref (r 27), .ref (r 28), .ref (r 29), .ref (r 30), .ref (r 31)])), ((r 18), .inl (D.1 20, 8, .inl al)), ((r 19), .inl (D.1 22, 160, .inl lo)), ((r 20), .inl (D.1 20, 8, .inl (fun j => nI (le j))))] _ := hP
                have hD9 : va_D A [(h, .inr (6, [.ref (r 0), .int z1, .ref (r 2), .int z3, .int z4, .ref (r 5), .ref (r 6), .ref (r 7), .int z8, .ref (r 9), .ref (r 10), .ref (r 11), .ref (r 12), .ref (r 13), .ref (r 14), .ref (r 15), .ref (r 16), .ref (r 17), .ref (r 18), .ref (r 19), .ref (r 20), .ref (r 21), .int z22, .ref (r 23), .ref (r 24), .int z25, .ref (r 26), .ref (r 27), .ref (r 28), .ref (r 29), .ref (r 30), .ref (r 31)])), ((r 18), .inl (D.1 20, 8, .inl al)), ((r 19), .inl (D.1 22, 160, .inl lo)), ((r 20), .inl (D.1 20, 8, .inl (fun j => nI (le j))))] := hD
                exact W.zret (v := nI 1) hx hb hr (rfl) (fun tq ht hW => ⟨⟨(), congrArg (fun z => Outcome.returned (some (Value.int z))) (kB_t (by unfold kMay; rw [hbt, decide_eq_true (p := (le i = 0 ∨ le i = 2 ∧ kd = 0 ∨ le i = 3 ∧ kd ≤ 1)) (by omega)]; rw [decide_eq_false (p := kd = 0) (by omega)]; rfl)), trivial, by rw [ht]; exact hP9, va_K.moved hW.alike hK, hD9⟩, hS.F ht⟩) hS.2.2 dX6_mayBe_103
              · refine lv_aload_n hx hb dX6_mayBe_84 rfl (lv_at hl 1 rfl) ?_
                refine va_get (D := D) (ci := 6) (v := .ref (r 19)) (C := RX6) (T := TX6) (N := 32) hx hb hts inX6 hown hK hP 0 rfl rfl 19 (by decide) hwd2 (fun _ h9 => h9) rfl dX6_mayBe_85 ?_
                refine lv_bipush (v := nI 20) hx hb dX6_mayBe_88 (by decide) ?_
                refine lv_iload_n hx hb dX6_mayBe_90 rfl (lv_at hl 2 rfl) ?_
                refine kn_imul hx hb dX6_mayBe_91 ?_
                refine lv_iload_n hx hb dX6_mayBe_92 rfl (lv_at hl 4 rfl) ?_
                refine kn_iadd hx hb dX6_mayBe_93 ?_
                refine kn_zald hx hb hK hP 2 2 rfl rfl (i := 20 * i + f) (by omega) (by decide) dX6_mayBe_94 ?_
                refine lv_if_ne (tgt := 102) hx hb dX6_mayBe_95 (by decide) (fun c_95 => ?_) (fun c_95 => ?_)
                · refine lv_iconst (v := nI 0) hx hb dX6_mayBe_102 (by decide) ?_
                  rw [hQ]
                  have hP9 : va_P D kC [(h, .inr (6, [.ref (r 0), .int z1, .ref (r 2), .int z3, .int z4, .ref (r 5), .ref (r 6), .ref (r 7), .int z8, .ref (r 9), .ref (r 10), .ref (r 11), .ref (r 12), .ref (r 13), .ref (r 14), .ref (r 15), .ref (r 16), .ref (r 17), .ref (r 18), .ref (r 19), .ref (r 20), .ref (r 21), .int z22, .ref (r 23), .ref (r 24), .int z25, .ref (r 26), .ref (r 27), .ref (r 28), .ref (r 29), .ref (r 30), .ref (r 31)])), ((r 18), .inl (D.1 20, 8, .inl al)), ((r 19), .inl (D.1 22, 160, .inl lo)), ((r 20), .inl (D.1 20, 8, .inl (fun j => nI (le j))))] _ := hP
                  have hD9 : va_D A [(h, .inr (6, [.ref (r 0), .int z1, .ref (r 2), .int z3, .int z4, .ref (r 5), .ref (r 6), .ref (r 7), .int z8, .ref (r 9), .ref (r 10), .ref (r 11), .ref (r 12), .ref (r 13), .ref (r 14), .ref (r 15), .ref (r 16), .ref (r 17), .ref (r 18), .ref (r 19), .ref (r 20), .ref (r 21), .int z22, .ref (r 23), .ref (r 24), .int z25, .ref (r 26), .ref (r 27), .ref (r 28), .ref (r 29), .ref (r 30), .ref (r 31)])), ((r 18), .inl (D.1 20, 8, .inl al)), ((r 19), .inl (D.1 22, 160, .inl lo)), ((r 20), .inl (D.1 20, 8, .inl (fun j => nI (le j))))] := hD
                  exact W.zret (v := nI 0) hx hb hr (rfl) (fun tq ht hW => ⟨⟨(), congrArg (fun z => Outcome.returned (some (Value.int z))) (kB_f (by unfold kMay; rw [decide_eq_true (p := kd = 0) c_81, decide_eq_true (p := ¬ lo (20 * i + f) = 0) c_95, Bool.and_true, Bool.not_true, Bool.and_false, Bool.and_false])), trivial, by rw [ht]; exact hP9, va_K.moved hW.alike hK, hD9⟩, hS.F ht⟩) hS.2.2 dX6_mayBe_103
                · refine lv_iconst (v := nI 1) hx hb dX6_mayBe_98 (by decide) ?_
                  refine lv_goto (tgt := 103) hx hb dX6_mayBe_99 (by decide) ?_
                  rw [hQ]
                  have hP9 : va_P D kC [(h, .inr (6, [.ref (r 0), .int z1, .ref (r 2), .int z3, .int z4, .ref (r 5), .ref (r 6), .ref (r 7), .int z8, .ref (r 9), .ref (r 10), .ref (r 11), .ref (r 12), .ref (r 13), .ref (r 14), .ref (r 15), .ref (r 16), .ref (r 17), .ref (r 18), .ref (r 19), .ref (r 20), .ref (r 21), .int z22, .ref (r 23), .ref (r 24), .int z25, .ref (r 26), .ref (r 27), .ref (r 28), .ref (r 29), .ref (r 30), .ref (r 31)])), ((r 18), .inl (D.1 20, 8, .inl al)), ((r 19), .inl (D.1 22, 160, .inl lo)), ((r 20), .inl (D.1 20, 8, .inl (fun j => nI (le j))))] _ := hP
                  have hD9 : va_D A [(h, .inr (6, [.ref (r 0), .int z1, .ref (r 2), .int z3, .int z4, .ref (r 5), .ref (r 6), .ref (r 7), .int z8, .ref (r 9), .ref (r 10), .ref (r 11), .ref (r 12), .ref (r 13), .ref (r 14), .ref (r 15), .ref (r 16), .ref (r 17), .ref (r 18), .ref (r 19), .ref (r 20), .ref (r 21), .int z22, .ref (r 23), .ref (r 24), .int z25, .ref (r 26), .ref (r 27), .ref (r 28), .ref (r 29), .ref (r 30), .ref (r 31)])), ((r 18), .inl (D.1 20, 8, .inl al)), ((r 19), .inl (D.1 22, 160, .inl lo)), ((r 20), .inl (D.1 20, 8, .inl (fun j => nI (le j))))] := hD
                  exact W.zret (v := nI 1) hx hb hr (rfl) (fun tq ht hW => ⟨⟨(), congrArg (fun z => Outcome.returned (some (Value.int z))) (kB_t (by unfold kMay; rw [hbt, decide_eq_true (p := (le i = 0 ∨ le i = 2 ∧ kd = 0 ∨ le i = 3 ∧ kd ≤ 1)) (by omega)]; rw [decide_eq_false (p := ¬ lo (20 * i + f) = 0) (fun q => q c_95), Bool.and_false]; rfl)), trivial, by rw [ht]; exact hP9, va_K.moved hW.alike hK, hD9⟩, hS.F ht⟩) hS.2.2 dX6_mayBe_103
      · refine lv_iload_n hx hb dX6_mayBe_45 rfl (lv_at hl 3 rfl) ?_
        refine kn_if_eq (tgt := 68) hx hb (by omega) dX6_mayBe_46 (by decide) (fun c_46 => ?_) (fun c_46 => ?_)
        · refine lv_iconst (v := nI 1) hx hb dX6_mayBe_68 (by decide) ?_
          refine lv_goto (tgt := 73) hx hb dX6_mayBe_69 (by decide) ?_
          refine lv_istore (lv' := [(4, .int (nI 1)), (0, .ref h), (1, .int (nI i)), (2, .int (nI kd)), (3, .int (nI f))]) hx hb dX6_mayBe_73 hl (by decide) rfl (fun ls hl => ?_)
          refine lv_iload hx hb dX6_mayBe_75 (lv_at hl 0 rfl) ?_
          refine kn_if_eq (tgt := 102) hx hb (by decide) dX6_mayBe_77 (by decide) (fun c_77 => absurd c_77 (by decide)) (fun c_77 => ?_)
          refine lv_iload_n hx hb dX6_mayBe_80 rfl (lv_at hl 3 rfl) ?_
          refine kn_if_ne (tgt := 98) hx hb (by omega) dX6_mayBe_81 (by decide) (fun c_81 => ?_) (fun c_81 => ?_)
          · refine lv_iconst (v := nI 1) hx hb dX6_mayBe_98 (by decide) ?_
            refine lv_goto (tgt := 103) hx hb dX6_mayBe_99 (by decide) ?_
            rw [hQ]
            have hP9 : va_P D kC [(h, .inr (6, [.ref (r 0), .int z1, .ref (r 2), .int z3, .int z4, .ref (r 5), .ref (r 6), .ref (r 7), .int z8, .ref (r 9), .ref (r 10), .ref (r 11), .ref (r 12), .ref (r 13), .ref (r 14), .ref (r 15), .ref (r 16), .ref (r 17), .ref (r 18), .ref (r 19), .ref (r 20), .ref (r 21), .int z22, .ref (r 23), .ref (r 24), .int z25, .ref (r 26), .ref (r 27), .ref (r 28), .ref (r 29), .ref (r 30), .ref (r 31)])), ((r 18), .inl (D.1 20, 8, .inl al)), ((r 19), .inl (D.1 22, 160, .inl lo)), ((r 20), .inl (D.1 20, 8, .inl (fun j => nI (le j))))] _ := hP
            have hD9 : va_D A [(h, .inr (6, [.ref (r 0), .int z1, .ref (r 2), .int z3, .int z4, .ref (r 5), .ref (r 6), .ref (r 7), .int z8, .ref (r 9), .ref (r 10), .ref (r 11), .ref (r 12), .ref (r 13), .ref (r 14), .ref (r 15), .ref (r 16), .ref (r 17), .ref (r 18), .ref (r 19), .ref (r 20), .ref (r 21), .int z22, .ref (r 23), .ref (r 24), .int z25, .ref (r 26), .ref (r 27), .ref (r 28), .ref (r 29), .ref (r 30), .ref (r 31)])), ((r 18), .inl (D.1 20, 8, .inl al)), ((r 19), .inl (D.1 22, 160, .inl lo)), ((r 20), .inl (D.1 20, 8, .inl (fun j => nI (le j))))] := hD
            exact W.zret (v := nI 1) hx hb hr (rfl) (fun tq ht hW => ⟨⟨(), congrArg (fun z => Outcome.returned (some (Value.int z))) (kB_t (by unfold kMay; rw [hbt, decide_eq_true (p := (le i = 0 ∨ le i = 2 ∧ kd = 0 ∨ le i = 3 ∧ kd ≤ 1)) (by omega)]; rw [decide_eq_false (p := kd = 0) (by omega)]; rfl)), trivial, by rw [ht]; exact hP9, va_K.moved hW.alike hK, hD9⟩, hS.F ht⟩) hS.2.2 dX6_mayBe_103
          · refine lv_aload_n hx hb dX6_mayBe_84 rfl (lv_at hl 1 rfl) ?_
            refine va_get (D := D) (ci := 6) (v := .ref (r 19)) (C := RX6) (T := TX6) (N := 32) hx hb hts inX6 hown hK hP 0 rfl rfl 19 (by decide) hwd2 (fun _ h9 => h9) rfl dX6_mayBe_85 ?_
            refine lv_bipush (v := nI 20) hx hb dX6_mayBe_88 (by decide) ?_
            refine lv_iload_n hx hb dX6_mayBe_90 rfl (lv_at hl 2 rfl) ?_
            refine kn_imul hx hb dX6_mayBe_91 ?_
            refine lv_iload_n hx hb dX6_mayBe_92 rfl (lv_at hl 4 rfl) ?_
            refine kn_iadd hx hb dX6_mayBe_93 ?_
            refine kn_zald hx hb hK hP 2 2 rfl rfl (i := 20 * i + f) (by omega) (by decide) dX6_mayBe_94 ?_
            refine lv_if_ne (tgt := 102) hx hb dX6_mayBe_95 (by decide) (fun c_95 => ?_) (fun c_95 => ?_)
            · refine lv_iconst (v := nI 0) hx hb dX6_mayBe_102 (by decide) ?_
              rw [hQ]
              have hP9 : va_P D kC [(h, .inr (6, [.ref (r 0), .int z1, .ref (r 2), .int z3, .int z4, .ref (r 5), .ref (r 6), .ref (r 7), .int z8, .ref (r 9), .ref (r 10), .ref (r 11), .ref (r 12), .ref (r 13), .ref (r 14), .ref (r 15), .ref (r 16), .ref (r 17), .ref (r 18), .ref (r 19), .ref (r 20), .ref (r 21), .int z22, .ref (r 23), .ref (r 24), .int z25, .ref (r 26), .ref (r 27), .ref (r 28), .ref (r 29), .ref (r 30), .ref (r 31)])), ((r 18), .inl (D.1 20, 8, .inl al)), ((r 19), .inl (D.1 22, 160, .inl lo)), ((r 20), .inl (D.1 20, 8, .inl (fun j => nI (le j))))] _ := hP
              have hD9 : va_D A [(h, .inr (6, [.ref (r 0), .int z1, .ref (r 2), .int z3, .int z4, .ref (r 5), .ref (r 6), .ref (r 7), .int z8, .ref (r 9), .ref (r 10), .ref (r 11), .ref (r 12), .ref (r 13), .ref (r 14), .ref (r 15), .ref (r 16), .ref (r 17), .ref (r 18), .ref (r 19), .ref (r 20), .ref (r 21), .int z22, .ref (r 23), .ref (r 24), .int z25, .ref (r 26), .ref (r 27), .ref (r 28), .ref (r 29), .ref (r 30), .ref (r 31)])), ((r 18), .inl (D.1 20, 8, .inl al)), ((r 19), .inl (D.1 22, 160, .inl lo)), ((r 20), .inl (D.1 20, 8, .inl (fun j => nI (le j))))] := hD
              exact W.zret (v := nI 0) hx hb hr (rfl) (fun tq ht hW => ⟨⟨(), congrArg (fun z => Outcome.returned (some (Value.int z))) (kB_f (by unfold kMay; rw [decide_eq_true (p := kd = 0) c_81, decide_eq_true (p := ¬ lo (20 * i + f) = 0) c_95, Bool.and_true, Bool.not_true, Bool.and_false, Bool.and_false])), trivial, by rw [ht]; exact hP9, va_K.moved hW.alike hK, hD9⟩, hS.F ht⟩) hS.2.2 dX6_mayBe_103
            · refine lv_iconst (v := nI 1) hx hb dX6_mayBe_98 (by decide) ?_
              refine lv_goto (tgt := 103) hx hb dX6_mayBe_99 (by decide) ?_
              rw [hQ]
              have hP9 : va_P D kC [(h, .inr (6, [.ref (r 0), .int z1, .ref (r 2), .int z3, .int z4, .ref (r 5), .ref (r 6), .ref (r 7), .int z8, .ref (r 9), .ref (r 10), .ref (r 11), .ref (r 12), .ref (r 13), .ref (r 14), .ref (r 15), .ref (r 16), .ref (r 17), .ref (r 18), .ref (r 19), .ref (r 20), .ref (r 21), .int z22, .ref (r 23), .ref (r 24), .int z25, .ref (r 26), .ref (r 27), .ref (r 28), .ref (r 29), .ref (r 30), .ref (r 31)])), ((r 18), .inl (D.1 20, 8, .inl al)), ((r 19), .inl (D.1 22, 160, .inl lo)), ((r 20), .inl (D.1 20, 8, .inl (fun j => nI (le j))))] _ := hP
              have hD9 : va_D A [(h, .inr (6, [.ref (r 0), .int z1, .ref (r 2), .int z3, .int z4, .ref (r 5), .ref (r 6), .ref (r 7), .int z8, .ref (r 9), .ref (r 10), .ref (r 11), .ref (r 12), .ref (r 13), .ref (r 14), .ref (r 15), .ref (r 16), .ref (r 17), .ref (r 18), .ref (r 19), .ref (r 20), .ref (r 21), .int z22, .ref (r 23), .ref (r 24), .int z25, .ref (r 26), .ref (r 27), .ref (r 28), .ref (r 29), .ref (r 30), .ref (r 31)])), ((r 18), .inl (D.1 20, 8, .inl al)), ((r 19), .inl (D.1 22, 160, .inl lo)), ((r 20), .inl (D.1 20, 8, .inl (fun j => nI (le j))))] := hD
              exact W.zret (v := nI 1) hx hb hr (rfl) (fun tq ht hW => ⟨⟨(), congrArg (fun z => Outcome.returned (some (Value.int z))) (kB_t (by unfold kMay; rw [hbt, decide_eq_true (p := (le i = 0 ∨ le i = 2 ∧ kd = 0 ∨ le i = 3 ∧ kd ≤ 1)) (by omega)]; rw [decide_eq_false (p := ¬ lo (20 * i + f) = 0) (fun q => q c_95), Bool.and_false]; rfl)), trivial, by rw [ht]; exact hP9, va_K.moved hW.alike hK, hD9⟩, hS.F ht⟩) hS.2.2 dX6_mayBe_103
        · refine lv_aload_n hx hb dX6_mayBe_49 rfl (lv_at hl 1 rfl) ?_
          refine va_get (D := D) (ci := 6) (v := .ref (r 20)) (C := RX6) (T := TX6) (N := 32) hx hb hts inX6 hown hK hP 0 rfl rfl 20 (by decide) hwd1 (fun _ h9 => h9) rfl dX6_mayBe_50 ?_
          refine lv_iload_n hx hb dX6_mayBe_53 rfl (lv_at hl 2 rfl) ?_
          refine kn_iald hx hb hK hP 3 0 rfl rfl (i := i) (by omega) (by decide) dX6_mayBe_54 ?_
          refine lv_iconst (v := nI 3) hx hb dX6_mayBe_55 (by decide) ?_
          refine kn_icmp_ne (tgt := 72) hx hb (by omega) (by omega) dX6_mayBe_56 (by decide) (fun c_56 => ?_) (fun c_56 => ?_)
          · refine lv_iconst (v := nI 0) hx hb dX6_mayBe_72 (by decide) ?_
            refine lv_istore (lv' := [(4, .int (nI 0)), (0, .ref h), (1, .int (nI i)), (2, .int (nI kd)), (3, .int (nI f))]) hx hb dX6_mayBe_73 hl (by decide) rfl (fun ls hl => ?_)
            refine lv_iload hx hb dX6_mayBe_75 (lv_at hl 0 rfl) ?_
            refine kn_if_eq (tgt := 102) hx hb (by decide) dX6_mayBe_77 (by decide) (fun c_77 => ?_) (fun c_77 => absurd c_77 (by decide))
            refine lv_iconst (v := nI 0) hx hb dX6_mayBe_102 (by decide) ?_
            rw [hQ]
            have hP9 : va_P D kC [(h, .inr (6, [.ref (r 0), .int z1, .ref (r 2), .int z3, .int z4, .ref (r 5), .ref (r 6), .ref (r 7), .int z8, .ref (r 9), .ref (r 10), .ref (r 11), .ref (r 12), .ref (r 13), .ref (r 14), .ref (r 15), .ref (r 16), .ref (r 17), .ref (r 18), .ref (r 19), .ref (r 20), .ref (r 21), .int z22, .ref (r 23), .ref (r 24), .int z25, .ref (r 26), .ref (r 27), .ref (r 28), .ref (r 29), .ref (r 30), .ref (r 31)])), ((r 18), .inl (D.1 20, 8, .inl al)), ((r 19), .inl (D.1 22, 160, .inl lo)), ((r 20), .inl (D.1 20, 8, .inl (fun j => nI (le j))))] _ := hP
            have hD9 : va_D A [(h, .inr (6, [.ref (r 0), .int z1, .ref (r 2), .int z3, .int z4, .ref (r 5), .ref (r 6), .ref (r 7), .int z8, .ref (r 9), .ref (r 10), .ref (r 11), .ref (r 12), .ref (r 13), .ref (r 14), .ref (r 15), .ref (r 16), .ref (r 17), .ref (r 18), .ref (r 19), .ref (r 20), .ref (r 21), .int z22, .ref (r 23), .ref (r 24), .int z25, .ref (r 26), .ref (r 27), .ref (r 28), .ref (r 29), .ref (r 30), .ref (r 31)])), ((r 18), .inl (D.1 20, 8, .inl al)), ((r 19), .inl (D.1 22, 160, .inl lo)), ((r 20), .inl (D.1 20, 8, .inl (fun j => nI (le j))))] := hD
            exact W.zret (v := nI 0) hx hb hr (rfl) (fun tq ht hW => ⟨⟨(), congrArg (fun z => Outcome.returned (some (Value.int z))) (kB_f (by unfold kMay; rw [decide_eq_false (p := (le i = 0 ∨ le i = 2 ∧ kd = 0 ∨ le i = 3 ∧ kd ≤ 1)) (by omega), Bool.false_and, Bool.and_false])), trivial, by rw [ht]; exact hP9, va_K.moved hW.alike hK, hD9⟩, hS.F ht⟩) hS.2.2 dX6_mayBe_103
          · refine lv_iload_n hx hb dX6_mayBe_59 rfl (lv_at hl 3 rfl) ?_
            refine kn_if_eq (tgt := 68) hx hb (by omega) dX6_mayBe_60 (by decide) (fun c_60 => ?_) (fun c_60 => ?_)
            · refine lv_iconst (v := nI 1) hx hb dX6_mayBe_68 (by decide) ?_
              refine lv_goto (tgt := 73) hx hb dX6_mayBe_69 (by decide) ?_
              refine lv_istore (lv' := [(4, .int (nI 1)), (0, .ref h), (1, .int (nI i)), (2, .int (nI kd)), (3, .int (nI f))]) hx hb dX6_mayBe_73 hl (by decide) rfl (fun ls hl => ?_)
              refine lv_iload hx hb dX6_mayBe_75 (lv_at hl 0 rfl) ?_
              refine kn_if_eq (tgt := 102) hx hb (by decide) dX6_mayBe_77 (by decide) (fun c_77 => absurd c_77 (by decide)) (fun c_77 => ?_)
              refine lv_iload_n hx hb dX6_mayBe_80 rfl (lv_at hl 3 rfl) ?_
              refine kn_if_ne (tgt := 98) hx hb (by omega) dX6_mayBe_81 (by decide) (fun c_81 => ?_) (fun c_81 => ?_)
              · refine lv_iconst (v := nI 1) hx hb dX6_mayBe_98 (by decide) ?_
                refine lv_goto (tgt := 103) hx hb dX6_mayBe_99 (by decide) ?_
                rw [hQ]
                have hP9 : va_P D kC [(h, .inr (6, [.ref (r 0), .int z1, .ref (r 2), .int z3, .int z4, .ref (r 5), .ref (r 6), .ref (r 7), .int z8, .ref (r 9), .ref (r 10), .ref (r 11), .ref (r 12), .ref (r 13), .ref (r 14), .ref (r 15), .ref (r 16), .ref (r 17), .ref (r 18), .ref (r 19), .ref (r 20), .ref (r 21), .int z22, .ref (r 23), .ref (r 24), .int z25, .ref (r 26), .ref (r 27), .ref (r 28), .ref (r 29), .ref (r 30), .ref (r 31)])), ((r 18), .inl (D.1 20, 8, .inl al)), ((r 19), .inl (D.1 22, 160, .inl lo)), ((r 20), .inl (D.1 20, 8, .inl (fun j => nI (le j))))] _ := hP
                have hD9 : va_D A [(h, .inr (6, [.ref (r 0), .int z1, .ref (r 2), .int z3, .int z4, .ref (r 5), .ref (r 6), .ref (r 7), .int z8, .ref (r 9), .ref (r 10), .ref (r 11), .ref (r 12), .ref (r 13), .ref (r 14), .ref (r 15), .ref (r 16), .ref (r 17), .ref (r 18), .ref (r 19), .ref (r 20), .ref (r 21), .int z22, .ref (r 23), .ref (r 24), .int z25, .ref (r 26), .ref (r 27), .ref (r 28), .ref (r 29), .ref (r 30), .ref (r 31)])), ((r 18), .inl (D.1 20, 8, .inl al)), ((r 19), .inl (D.1 22, 160, .inl lo)), ((r 20), .inl (D.1 20, 8, .inl (fun j => nI (le j))))] := hD
                exact W.zret (v := nI 1) hx hb hr (rfl) (fun tq ht hW => ⟨⟨(), congrArg (fun z => Outcome.returned (some (Value.int z))) (kB_t (by unfold kMay; rw [hbt, decide_eq_true (p := (le i = 0 ∨ le i = 2 ∧ kd = 0 ∨ le i = 3 ∧ kd ≤ 1)) (by omega)]; rw [decide_eq_false (p := kd = 0) (by omega)]; rfl)), trivial, by rw [ht]; exact hP9, va_K.moved hW.alike hK, hD9⟩, hS.F ht⟩) hS.2.2 dX6_mayBe_103
              · refine lv_aload_n hx hb dX6_mayBe_84 rfl (lv_at hl 1 rfl) ?_
                refine va_get (D := D) (ci := 6) (v := .ref (r 19)) (C := RX6) (T := TX6) (N := 32) hx hb hts inX6 hown hK hP 0 rfl rfl 19 (by decide) hwd2 (fun _ h9 => h9) rfl dX6_mayBe_85 ?_
                refine lv_bipush (v := nI 20) hx hb dX6_mayBe_88 (by decide) ?_
                refine lv_iload_n hx hb dX6_mayBe_90 rfl (lv_at hl 2 rfl) ?_
                refine kn_imul hx hb dX6_mayBe_91 ?_
                refine lv_iload_n hx hb dX6_mayBe_92 rfl (lv_at hl 4 rfl) ?_
                refine kn_iadd hx hb dX6_mayBe_93 ?_
                refine kn_zald hx hb hK hP 2 2 rfl rfl (i := 20 * i + f) (by omega) (by decide) dX6_mayBe_94 ?_
                refine lv_if_ne (tgt := 102) hx hb dX6_mayBe_95 (by decide) (fun c_95 => ?_) (fun c_95 => ?_)
                · refine lv_iconst (v := nI 0) hx hb dX6_mayBe_102 (by decide) ?_
                  rw [hQ]
                  have hP9 : va_P D kC [(h, .inr (6, [.ref (r 0), .int z1, .ref (r 2), .int z3, .int z4, .ref (r 5), .ref (r 6), .ref (r 7), .int z8, .ref (r 9), .ref (r 10), .ref (r 11), .ref (r 12), .ref (r 13), .ref (r 14), .ref (r 15), .ref (r 16), .ref (r 17), .ref (r 18), .ref (r 19), .ref (r 20), .ref (r 21), .int z22, .ref (r 23), .ref (r 24), .int z25, .ref (r 26), .ref (r 27), .ref (r 28), .ref (r 29), .ref (r 30), .ref (r 31)])), ((r 18), .inl (D.1 20, 8, .inl al)), ((r 19), .inl (D.1 22, 160, .inl lo)), ((r 20), .inl (D.1 20, 8, .inl (fun j => nI (le j))))] _ := hP
                  have hD9 : va_D A [(h, .inr (6, [.ref (r 0), .int z1, .ref (r 2), .int z3, .int z4, .ref (r 5), .ref (r 6), .ref (r 7), .int z8, .ref (r 9), .ref (r 10), .ref (r 11), .ref (r 12), .ref (r 13), .ref (r 14), .ref (r 15), .ref (r 16), .ref (r 17), .ref (r 18), .ref (r 19), .ref (r 20), .ref (r 21), .int z22, .ref (r 23), .ref (r 24), .int z25, .ref (r 26), .ref (r 27), .ref (r 28), .ref (r 29), .ref (r 30), .ref (r 31)])), ((r 18), .inl (D.1 20, 8, .inl al)), ((r 19), .inl (D.1 22, 160, .inl lo)), ((r 20), .inl (D.1 20, 8, .inl (fun j => nI (le j))))] := hD
                  exact W.zret (v := nI 0) hx hb hr (rfl) (fun tq ht hW => ⟨⟨(), congrArg (fun z => Outcome.returned (some (Value.int z))) (kB_f (by unfold kMay; rw [decide_eq_true (p := kd = 0) c_81, decide_eq_true (p := ¬ lo (20 * i + f) = 0) c_95, Bool.and_true, Bool.not_true, Bool.and_false, Bool.and_false])), trivial, by rw [ht]; exact hP9, va_K.moved hW.alike hK, hD9⟩, hS.F ht⟩) hS.2.2 dX6_mayBe_103
                · refine lv_iconst (v := nI 1) hx hb dX6_mayBe_98 (by decide) ?_
                  refine lv_goto (tgt := 103) hx hb dX6_mayBe_99 (by decide) ?_
                  rw [hQ]
                  have hP9 : va_P D kC [(h, .inr (6, [.ref (r 0), .int z1, .ref (r 2), .int z3, .int z4, .ref (r 5), .ref (r 6), .ref (r 7), .int z8, .ref (r 9), .ref (r 10), .ref (r 11), .ref (r 12), .ref (r 13), .ref (r 14), .ref (r 15), .ref (r 16), .ref (r 17), .ref (r 18), .ref (r 19), .ref (r 20), .ref (r 21), .int z22, .ref (r 23), .ref (r 24), .int z25, .ref (r 26), .ref (r 27), .ref (r 28), .ref (r 29), .ref (r 30), .ref (r 31)])), ((r 18), .inl (D.1 20, 8, .inl al)), ((r 19), .inl (D.1 22, 160, .inl lo)), ((r 20), .inl (D.1 20, 8, .inl (fun j => nI (le j))))] _ := hP
                  have hD9 : va_D A [(h, .inr (6, [.ref (r 0), .int z1, .ref (r 2), .int z3, .int z4, .ref (r 5), .ref (r 6), .ref (r 7), .int z8, .ref (r 9), .ref (r 10), .ref (r 11), .ref (r 12), .ref (r 13), .ref (r 14), .ref (r 15), .ref (r 16), .ref (r 17), .ref (r 18), .ref (r 19), .ref (r 20), .ref (r 21), .int z22, .ref (r 23), .ref (r 24), .int z25, .ref (r 26), .ref (r 27), .ref (r 28), .ref (r 29), .ref (r 30), .ref (r 31)])), ((r 18), .inl (D.1 20, 8, .inl al)), ((r 19), .inl (D.1 22, 160, .inl lo)), ((r 20), .inl (D.1 20, 8, .inl (fun j => nI (le j))))] := hD
                  exact W.zret (v := nI 1) hx hb hr (rfl) (fun tq ht hW => ⟨⟨(), congrArg (fun z => Outcome.returned (some (Value.int z))) (kB_t (by unfold kMay; rw [hbt, decide_eq_true (p := (le i = 0 ∨ le i = 2 ∧ kd = 0 ∨ le i = 3 ∧ kd ≤ 1)) (by omega)]; rw [decide_eq_false (p := ¬ lo (20 * i + f) = 0) (fun q => q c_95), Bool.and_false]; rfl)), trivial, by rw [ht]; exact hP9, va_K.moved hW.alike hK, hD9⟩, hS.F ht⟩) hS.2.2 dX6_mayBe_103
            · refine lv_iload_n hx hb dX6_mayBe_63 rfl (lv_at hl 3 rfl) ?_
              refine lv_iconst (v := nI 1) hx hb dX6_mayBe_64 (by decide) ?_
              refine kn_icmp_ne (tgt := 72) hx hb (by omega) (by omega) dX6_mayBe_65 (by decide) (fun c_65 => ?_) (fun c_65 => ?_)
              · refine lv_iconst (v := nI 0) hx hb dX6_mayBe_72 (by decide) ?_
                refine lv_istore (lv' := [(4, .int (nI 0)), (0, .ref h), (1, .int (nI i)), (2, .int (nI kd)), (3, .int (nI f))]) hx hb dX6_mayBe_73 hl (by decide) rfl (fun ls hl => ?_)
                refine lv_iload hx hb dX6_mayBe_75 (lv_at hl 0 rfl) ?_
                refine kn_if_eq (tgt := 102) hx hb (by decide) dX6_mayBe_77 (by decide) (fun c_77 => ?_) (fun c_77 => absurd c_77 (by decide))
                refine lv_iconst (v := nI 0) hx hb dX6_mayBe_102 (by decide) ?_
                rw [hQ]
                have hP9 : va_P D kC [(h, .inr (6, [.ref (r 0), .int z1, .ref (r 2), .int z3, .int z4, .ref (r 5), .ref (r 6), .ref (r 7), .int z8, .ref (r 9), .ref (r 10), .ref (r 11), .ref (r 12), .ref (r 13), .ref (r 14), .ref (r 15), .ref (r 16), .ref (r 17), .ref (r 18), .ref (r 19), .ref (r 20), .ref (r 21), .int z22, .ref (r 23), .ref (r 24), .int z25, .ref (r 26), .ref (r 27), .ref (r 28), .ref (r 29), .ref (r 30), .ref (r 31)])), ((r 18), .inl (D.1 20, 8, .inl al)), ((r 19), .inl (D.1 22, 160, .inl lo)), ((r 20), .inl (D.1 20, 8, .inl (fun j => nI (le j))))] _ := hP
                have hD9 : va_D A [(h, .inr (6, [.ref (r 0), .int z1, .ref (r 2), .int z3, .int z4, .ref (r 5), .ref (r 6), .ref (r 7), .int z8, .ref (r 9), .ref (r 10), .ref (r 11), .ref (r 12), .ref (r 13), .ref (r 14), .ref (r 15), .ref (r 16), .ref (r 17), .ref (r 18), .ref (r 19), .ref (r 20), .ref (r 21), .int z22, .ref (r 23), .ref (r 24), .int z25, .ref (r 26), .ref (r 27), .ref (r 28), .ref (r 29), .ref (r 30), .ref (r 31)])), ((r 18), .inl (D.1 20, 8, .inl al)), ((r 19), .inl (D.1 22, 160, .inl lo)), ((r 20), .inl (D.1 20, 8, .inl (fun j => nI (le j))))] := hD
                exact W.zret (v := nI 0) hx hb hr (rfl) (fun tq ht hW => ⟨⟨(), congrArg (fun z => Outcome.returned (some (Value.int z))) (kB_f (by unfold kMay; rw [decide_eq_false (p := (le i = 0 ∨ le i = 2 ∧ kd = 0 ∨ le i = 3 ∧ kd ≤ 1)) (by omega), Bool.false_and, Bool.and_false])), trivial, by rw [ht]; exact hP9, va_K.moved hW.alike hK, hD9⟩, hS.F ht⟩) hS.2.2 dX6_mayBe_103
              · refine lv_iconst (v := nI 1) hx hb dX6_mayBe_68 (by decide) ?_
                refine lv_goto (tgt := 73) hx hb dX6_mayBe_69 (by decide) ?_
                refine lv_istore (lv' := [(4, .int (nI 1)), (0, .ref h), (1, .int (nI i)), (2, .int (nI kd)), (3, .int (nI f))]) hx hb dX6_mayBe_73 hl (by decide) rfl (fun ls hl => ?_)
                refine lv_iload hx hb dX6_mayBe_75 (lv_at hl 0 rfl) ?_
                refine kn_if_eq (tgt := 102) hx hb (by decide) dX6_mayBe_77 (by decide) (fun c_77 => absurd c_77 (by decide)) (fun c_77 => ?_)
                refine lv_iload_n hx hb dX6_mayBe_80 rfl (lv_at hl 3 rfl) ?_
                refine kn_if_ne (tgt := 98) hx hb (by omega) dX6_mayBe_81 (by decide) (fun c_81 => ?_) (fun c_81 => ?_)
                · refine lv_iconst (v := nI 1) hx hb dX6_mayBe_98 (by decide) ?_
                  refine lv_goto (tgt := 103) hx hb dX6_mayBe_99 (by decide) ?_
                  rw [hQ]
                  have hP9 : va_P D kC [(h, .inr (6, [.ref (r 0), .int z1, .ref (r 2), .int z3, .int z4, .ref (r 5), .ref (r 6), .ref (r 7), .int z8, .ref (r 9), .ref (r 10), .ref (r 11), .ref (r 12), .ref (r 13), .ref (r 14), .ref (r 15), .ref (r 16), .ref (r 17), .ref (r 18), .ref (r 19), .ref (r 20), .ref (r 21), .int z22, .ref (r 23), .ref (r 24), .int z25, .ref (r 26), .ref (r 27), .ref (r 28), .ref (r 29), .ref (r 30), .ref (r 31)])), ((r 18), .inl (D.1 20, 8, .inl al)), ((r 19), .inl (D.1 22, 160, .inl lo)), ((r 20), .inl (D.1 20, 8, .inl (fun j => nI (le j))))] _ := hP
                  have hD9 : va_D A [(h, .inr (6, [.ref (r 0), .int z1, .ref (r 2), .int z3, .int z4, .ref (r 5), .ref (r 6), .ref (r 7), .int z8, .ref (r 9), .ref (r 10), .ref (r 11), .ref (r 12), .ref (r 13), .ref (r 14), .ref (r 15), .ref (r 16), .ref (r 17), .ref (r 18), .ref (r 19), .ref (r 20), .ref (r 21), .int z22, .ref (r 23), .ref (r 24), .int z25, .ref (r 26), .ref (r 27), .ref (r 28), .ref (r 29), .ref (r 30), .ref (r 31)])), ((r 18), .inl (D.1 20, 8, .inl al)), ((r 19), .inl (D.1 22, 160, .inl lo)), ((r 20), .inl (D.1 20, 8, .inl (fun j => nI (le j))))] := hD
                  exact W.zret (v := nI 1) hx hb hr (rfl) (fun tq ht hW => ⟨⟨(), congrArg (fun z => Outcome.returned (some (Value.int z))) (kB_t (by unfold kMay; rw [hbt, decide_eq_true (p := (le i = 0 ∨ le i = 2 ∧ kd = 0 ∨ le i = 3 ∧ kd ≤ 1)) (by omega)]; rw [decide_eq_false (p := kd = 0) (by omega)]; rfl)), trivial, by rw [ht]; exact hP9, va_K.moved hW.alike hK, hD9⟩, hS.F ht⟩) hS.2.2 dX6_mayBe_103
                · refine lv_aload_n hx hb dX6_mayBe_84 rfl (lv_at hl 1 rfl) ?_
                  refine va_get (D := D) (ci := 6) (v := .ref (r 19)) (C := RX6) (T := TX6) (N := 32) hx hb hts inX6 hown hK hP 0 rfl rfl 19 (by decide) hwd2 (fun _ h9 => h9) rfl dX6_mayBe_85 ?_
                  refine lv_bipush (v := nI 20) hx hb dX6_mayBe_88 (by decide) ?_
                  refine lv_iload_n hx hb dX6_mayBe_90 rfl (lv_at hl 2 rfl) ?_
                  refine kn_imul hx hb dX6_mayBe_91 ?_
                  refine lv_iload_n hx hb dX6_mayBe_92 rfl (lv_at hl 4 rfl) ?_
                  refine kn_iadd hx hb dX6_mayBe_93 ?_
                  refine kn_zald hx hb hK hP 2 2 rfl rfl (i := 20 * i + f) (by omega) (by decide) dX6_mayBe_94 ?_
                  refine lv_if_ne (tgt := 102) hx hb dX6_mayBe_95 (by decide) (fun c_95 => ?_) (fun c_95 => ?_)
                  · refine lv_iconst (v := nI 0) hx hb dX6_mayBe_102 (by decide) ?_
                    rw [hQ]
                    have hP9 : va_P D kC [(h, .inr (6, [.ref (r 0), .int z1, .ref (r 2), .int z3, .int z4, .ref (r 5), .ref (r 6), .ref (r 7), .int z8, .ref (r 9), .ref (r 10), .ref (r 11), .ref (r 12), .ref (r 13), .ref (r 14), .ref (r 15), .ref (r 16), .ref (r 17), .ref (r 18), .ref (r 19), .ref (r 20), .ref (r 21), .int z22, .ref (r 23), .ref (r 24), .int z25, .ref (r 26), .ref (r 27), .ref (r 28), .ref (r 29), .ref (r 30), .ref (r 31)])), ((r 18), .inl (D.1 20, 8, .inl al)), ((r 19), .inl (D.1 22, 160, .inl lo)), ((r 20), .inl (D.1 20, 8, .inl (fun j => nI (le j))))] _ := hP
                    have hD9 : va_D A [(h, .inr (6, [.ref (r 0), .int z1, .ref (r 2), .int z3, .int z4, .ref (r 5), .ref (r 6), .ref (r 7), .int z8, .ref (r 9), .ref (r 10), .ref (r 11), .ref (r 12), .ref (r 13), .ref (r 14), .ref (r 15), .ref (r 16), .ref (r 17), .ref (r 18), .ref (r 19), .ref (r 20), .ref (r 21), .int z22, .ref (r 23), .ref (r 24), .int z25, .ref (r 26), .ref (r 27), .ref (r 28), .ref (r 29), .ref (r 30), .ref (r 31)])), ((r 18), .inl (D.1 20, 8, .inl al)), ((r 19), .inl (D.1 22, 160, .inl lo)), ((r 20), .inl (D.1 20, 8, .inl (fun j => nI (le j))))] := hD
                    exact W.zret (v := nI 0) hx hb hr (rfl) (fun tq ht hW => ⟨⟨(), congrArg (fun z => Outcome.returned (some (Value.int z))) (kB_f (by unfold kMay; rw [decide_eq_true (p := kd = 0) c_81, decide_eq_true (p := ¬ lo (20 * i + f) = 0) c_95, Bool.and_true, Bool.not_true, Bool.and_false, Bool.and_false])), trivial, by rw [ht]; exact hP9, va_K.moved hW.alike hK, hD9⟩, hS.F ht⟩) hS.2.2 dX6_mayBe_103
                  · refine lv_iconst (v := nI 1) hx hb dX6_mayBe_98 (by decide) ?_
                    refine lv_goto (tgt := 103) hx hb dX6_mayBe_99 (by decide) ?_
                    rw [hQ]
                    have hP9 : va_P D kC [(h, .inr (6, [.ref (r 0), .int z1, .ref (r 2), .int z3, .int z4, .ref (r 5), .ref (r 6), .ref (r 7), .int z8, .ref (r 9), .ref (r 10), .ref (r 11), .ref (r 12), .ref (r 13), .ref (r 14), .ref (r 15), .ref (r 16), .ref (r 17), .ref (r 18), .ref (r 19), .ref (r 20), .ref (r 21), .int z22, .ref (r 23), .ref (r 24), .int z25, .ref (r 26), .ref (r 27), .ref (r 28), .ref (r 29), .ref (r 30), .ref (r 31)])), ((r 18), .inl (D.1 20, 8, .inl al)), ((r 19), .inl (D.1 22, 160, .inl lo)), ((r 20), .inl (D.1 20, 8, .inl (fun j => nI (le j))))] _ := hP
                    have hD9 : va_D A [(h, .inr (6, [.ref (r 0), .int z1, .ref (r 2), .int z3, .int z4, .ref (r 5), .ref (r 6), .ref (r 7), .int z8, .ref (r 9), .ref (r 10), .ref (r 11), .ref (r 12), .ref (r 13), .ref (r 14), .ref (r 15), .ref (r 16), .ref (r 17), .ref (r 18), .ref (r 19), .ref (r 20), .ref (r 21), .int z22, .ref (r 23), .ref (r 24), .int z25, .ref (r 26), .ref (r 27), .ref (r 28), .ref (r 29), .ref (r 30), .ref (r 31)])), ((r 18), .inl (D.1 20, 8, .inl al)), ((r 19), .inl (D.1 22, 160, .inl lo)), ((r 20), .inl (D.1 20, 8, .inl (fun j => nI (le j))))] := hD
                    exact W.zret (v := nI 1) hx hb hr (rfl) (fun tq ht hW => ⟨⟨(), congrArg (fun z => Outcome.returned (some (Value.int z))) (kB_t (by unfold kMay; rw [hbt, decide_eq_true (p := (le i = 0 ∨ le i = 2 ∧ kd = 0 ∨ le i = 3 ∧ kd ≤ 1)) (by omega)]; rw [decide_eq_false (p := ¬ lo (20 * i + f) = 0) (fun q => q c_95), Bool.and_false]; rfl)), trivial, by rw [ht]; exact hP9, va_K.moved hW.alike hK, hD9⟩, hS.F ht⟩) hS.2.2 dX6_mayBe_103

theorem k_ch0 {a b d : Bool} {e9 : Nat} (h0 : e9 = 0) (h : e9 = (a && b).toNat) : 0 = (a && (b && d)).toNat := by
  subst h0; cases a <;> cases b <;> cases d <;> first | rfl | cases h
theorem k_ch1 {a b : Bool} {e9 : Nat} (h0 : 0 < e9) (h : e9 = (a && b).toNat) : 1 = (a && (b && (true && true))).toNat := by
  subst h; cases a <;> cases b <;> first | rfl | exact absurd h0 (by decide)

theorem iX6_isChained_X6 : ∀ w ∈ wsX60, w ∈ wsX6_isChained := by decide +kernel
theorem X6_isChained_hwd0 : (.fieldLink RX6 113 "SignatureSpansModel" "rows" "[I" : Cond) ∈ wsX6_isChained := by decide +kernel
theorem X6_isChained_hwd1 : (.fieldLink RX6 116 "SignatureSpansModel" "chains" "[J" : Cond) ∈ wsX6_isChained := by decide +kernel
theorem X6_isChained_hwd2 : (.fieldLink RX6 97 "SignatureSpansModel" "when" "[J" : Cond) ∈ wsX6_isChained := by decide +kernel
set_option maxHeartbeats 4000000 in
set_option maxRecDepth 100000 in
/-- isChained -/
theorem c_X6_isChained (l : Launch) (D : va_G) (h : Nat) (r : Nat → Nat) (z1 z3 z4 z8 z22 z25 : Int32) (i : Nat) (wn cs : Nat → Int64) (rs : Nat → Nat) (hi : i < 8) (hrs : ∀ k, k < 8 → rs k ≤ 4) : kM (S := Unit) l yX6_isChained wsX6_isChained ({ frames := 7, cells := 0, slots := 0, locals := 100 }) 0 0 D [.ref h, .int (nI i)] [(h, .inr (6, [.ref (r 0), .int z1, .ref (r 2), .int z3, .int z4, .ref (r 5), .ref (r 6), .ref (r 7), .int z8, .ref (r 9), .ref (r 10), .ref (r 11), .ref (r 12), .ref (r 13), .ref (r 14), .ref (r 15), .ref (r 16), .ref (r 17), .ref (r 18), .ref (r 19), .ref (r 20), .ref (r 21), .int z22, .ref (r 23), .ref (r 24), .int z25, .ref (r 26), .ref (r 27), .ref (r 28), .ref (r 29), .ref (r 30), .ref (r 31)])), ((r 11), .inl (D.1 23, 8, .inr (.inl wn))), ((r 16), .inl (D.1 20, 8, .inl (fun j => nI (rs j)))), ((r 17), .inl (D.1 23, 64, .inr (.inl cs)))] (fun _ => some (.int (kB (decide (0 < rs i) && kChn (fun k => cs (8 * i + 2 * k)) (fun k => cs (8 * i + 2 * k + 1)) (wn i) (rs i))))) (fun _ => [(h, .inr (6, [.ref (r 0), .int z1, .ref (r 2), .int z3, .int z4, .ref (r 5), .ref (r 6), .ref (r 7), .int z8, .ref (r 9), .ref (r 10), .ref (r 11), .ref (r 12), .ref (r 13), .ref (r 14), .ref (r 15), .ref (r 16), .ref (r 17), .ref (r 18), .ref (r 19), .ref (r 20), .ref (r 21), .int z22, .ref (r 23), .ref (r 24), .int z25, .ref (r 26), .ref (r 27), .ref (r 28), .ref (r 29), .ref (r 30), .ref (r 31)])), ((r 11), .inl (D.1 23, 8, .inr (.inl wn))), ((r 16), .inl (D.1 20, 8, .inl (fun j => nI (rs j)))), ((r 17), .inl (D.1 23, 64, .inr (.inl cs)))]) (fun _ => True) := by
  intro sz
  refine Met.ofW (cc := cX6_isChained) (maxL := 4) (ret := (some .boolean)) (by decide) rfl ?_
  intro p e s m args below meth c s₁ B hml hv
  obtain ⟨rfl, hsz, hP, hK, hD0, hE⟩ := hv
  have hx := B.exec
  have hb := B.bytes
  have hr := B.returns
  have hts := atoms_spec (ws := wsX6_isChained) B.pre
  have hown : s.vm.findClass RX6 = some m.cls := findClass_of_methodNamed B.named
  have hlocks := B.notSynchronized
  subst hsz
  have hD := hD0.self (sz := s.heap.size)
  generalize hAe : va_A [(h, .inr (6, [.ref (r 0), .int z1, .ref (r 2), .int z3, .int z4, .ref (r 5), .ref (r 6), .ref (r 7), .int z8, .ref (r 9), .ref (r 10), .ref (r 11), .ref (r 12), .ref (r 13), .ref (r 14), .ref (r 15), .ref (r 16), .ref (r 17), .ref (r 18), .ref (r 19), .ref (r 20), .ref (r 21), .int z22, .ref (r 23), .ref (r 24), .int z25, .ref (r 26), .ref (r 27), .ref (r 28), .ref (r 29), .ref (r 30), .ref (r 31)])), ((r 11), .inl (D.1 23, 8, .inr (.inl wn))), ((r 16), .inl (D.1 20, 8, .inl (fun j => nI (rs j)))), ((r 17), .inl (D.1 23, 64, .inr (.inl cs)))] s.heap.size = A at hD hE ⊢
  have hA : ∀ q : Nat, s.heap.size ≤ q → A q := fun q h => by rw [← hAe]; exact Or.inr h
  have hS : va_S A s.heap s.heap [] := va_S.rf
  have hl := lv_entry ([.ref h, .int (nI i)]) (n := 4) (Nat.le_of_ble_eq_true rfl)
  have inX6 : ∀ w ∈ wsX60, w ∈ wsX6_isChained := iX6_isChained_X6
  have hwd0 := hts (.fieldLink RX6 113 "SignatureSpansModel" "rows" "[I") X6_isChained_hwd0
  have hwd1 := hts (.fieldLink RX6 116 "SignatureSpansModel" "chains" "[J") X6_isChained_hwd1
  have hwd2 := hts (.fieldLink RX6 97 "SignatureSpansModel" "when" "[J") X6_isChained_hwd2
  refine kgenQ (fun Q hQ => ?_)
  rw [lg_entry_eq]
  generalize (lg_sl ([.ref h, .int (nI i)]) ++ List.replicate (4 - (lg_sl ([.ref h, .int (nI i)])).length) Slot.unset).toArray = ls at hl ⊢
  have hl : lv_has ls 4 [(0, .ref h), (1, .int (nI i))] := hl
  have hr4 := hrs i (by omega)
  have la : ∀ fu : Nat, ∀ (k : Nat) (e9 : Nat), (k ≤ rs i) → (e9 = (decide (0 < rs i) && kChn (fun k => cs (8 * i + 2 * k)) (fun k => cs (8 * i + 2 * k + 1)) (wn i) k).toNat) → (rs i + 1 ≤ k + fu) → ∀ (H : Heap) (locs : List Loc), va_P D kC [(h, .inr (6, [.ref (r 0), .int z1, .ref (r 2), .int z3, .int z4, .ref (r 5), .ref (r 6), .ref (r 7), .int z8, .ref (r 9), .ref (r 10), .ref (r 11), .ref (r 12), .ref (r 13), .ref (r 14), .ref (r 15), .ref (r 16), .ref (r 17), .ref (r 18), .ref (r 19), .ref (r 20), .ref (r 21), .int z22, .ref (r 23), .ref (r 24), .int z25, .ref (r 26), .ref (r 27), .ref (r 28), .ref (r 29), .ref (r 30), .ref (r 31)])), ((r 11), .inl (D.1 23, 8, .inr (.inl wn))), ((r 16), .inl (D.1 20, 8, .inl (fun j => nI (rs j)))), ((r 17), .inl (D.1 23, 64, .inr (.inl cs)))] H → va_D A [(h, .inr (6, [.ref (r 0), .int z1, .ref (r 2), .int z3, .int z4, .ref (r 5), .ref (r 6), .ref (r 7), .int z8, .ref (r 9), .ref (r 10), .ref (r 11), .ref (r 12), .ref (r 13), .ref (r 14), .ref (r 15), .ref (r 16), .ref (r 17), .ref (r 18), .ref (r 19), .ref (r 20), .ref (r 21), .int z22, .ref (r 23), .ref (r 24), .int z25, .ref (r 26), .ref (r 27), .ref (r 28), .ref (r 29), .ref (r 30), .ref (r 31)])), ((r 11), .inl (D.1 23, 8, .inr (.inl wn))), ((r 16), .inl (D.1 20, 8, .inl (fun j => nI (rs j)))), ((r 17), .inl (D.1 23, 64, .inr (.inl cs)))] → va_S A s.heap H locs → ∀ (ls : Array Slot), lv_has ls 4 [(0, .ref h), (1, .int (nI i)), (2, .int (nI e9)), (3, .int (nI k))] → W p l e (headSpec wsX6_isChained ({ frames := 7, cells := 0, slots := 0, locals := 100 })).room s m #[Value.ref h, Value.int (nI i)] below meth c H locs 0 0 Q (F0 m 17 ls []) := by
    intro fu
    induction fu with
    | zero =>
      intro k e9 h1 he hfu H locs hP hD hS ls hl
      exfalso; omega
    | succ fu ih_la =>
      intro k e9 h1 he hfu H locs hP hD hS ls hl
      refine lv_iload_n hx hb dX6_isChained_17 rfl (lv_at hl 3 rfl) ?_
      refine lv_aload_n hx hb dX6_isChained_18 rfl (lv_at hl 0 rfl) ?_
      refine va_get (D := D) (ci := 6) (v := .ref (r 16)) (C := RX6) (T := TX6) (N := 32) hx hb hts inX6 hown hK hP 0 rfl rfl 16 (by decide) hwd0 (fun _ h9 => h9) rfl dX6_isChained_19 ?_
      refine lv_iload_n hx hb dX6_isChained_22 rfl (lv_at hl 1 rfl) ?_
      refine kn_iald hx hb hK hP 2 0 rfl rfl (i := i) (by omega) (by decide) dX6_isChained_23 ?_
      refine kn_icmp_ge (tgt := 91) hx hb (by omega) (by omega) dX6_isChained_24 (by decide) (fun c_24 => ?_) (fun c_24 => ?_)
      · refine lv_iload_n hx hb dX6_isChained_91 rfl (lv_at hl 2 rfl) ?_
        have ek : k = rs i := by omega
        rw [ek] at he
        rw [hQ]
        have hP9 : va_P D kC [(h, .inr (6, [.ref (r 0), .int z1, .ref (r 2), .int z3, .int z4, .ref (r 5), .ref (r 6), .ref (r 7), .int z8, .ref (r 9), .ref (r 10), .ref (r 11), .ref (r 12), .ref (r 13), .ref (r 14), .ref (r 15), .ref (r 16), .ref (r 17), .ref (r 18), .ref (r 19), .ref (r 20), .ref (r 21), .int z22, .ref (r 23), .ref (r 24), .int z25, .ref (r 26), .ref (r 27), .ref (r 28), .ref (r 29), .ref (r 30), .ref (r 31)])), ((r 11), .inl (D.1 23, 8, .inr (.inl wn))), ((r 16), .inl (D.1 20, 8, .inl (fun j => nI (rs j)))), ((r 17), .inl (D.1 23, 64, .inr (.inl cs)))] _ := hP
        have hD9 : va_D A [(h, .inr (6, [.ref (r 0), .int z1, .ref (r 2), .int z3, .int z4, .ref (r 5), .ref (r 6), .ref (r 7), .int z8, .ref (r 9), .ref (r 10), .ref (r 11), .ref (r 12), .ref (r 13), .ref (r 14), .ref (r 15), .ref (r 16), .ref (r 17), .ref (r 18), .ref (r 19), .ref (r 20), .ref (r 21), .int z22, .ref (r 23), .ref (r 24), .int z25, .ref (r 26), .ref (r 27), .ref (r 28), .ref (r 29), .ref (r 30), .ref (r 31)])), ((r 11), .inl (D.1 23, 8, .inr (.inl wn))), ((r 16), .inl (D.1 20, 8, .inl (fun j => nI (rs j)))), ((r 17), .inl (D.1 23, 64, .inr (.inl cs)))] := hD
        exact W.zret (v := nI e9) hx hb hr (by rw [he]; exact kB_nar _) (fun tq ht hW => ⟨⟨(), congrArg (fun z => Outcome.returned (some (Value.int z))) (by rw [he]; rfl), trivial, by rw [ht]; exact hP9, va_K.moved hW.alike hK, hD9⟩, hS.F ht⟩) hS.2.2 dX6_isChained_92
      · have he1 : e9 ≤ 1 := by rw [he]; cases (decide (0 < rs i) && kChn (fun k => cs (8 * i + 2 * k)) (fun k => cs (8 * i + 2 * k + 1)) (wn i) k) <;> decide
        refine lv_iload_n hx hb dX6_isChained_27 rfl (lv_at hl 2 rfl) ?_
        refine kn_if_eq (tgt := 83) hx hb (by omega) dX6_isChained_28 (by decide) (fun c_28 => ?_) (fun c_28 => ?_)
        · refine lv_iconst (v := nI 0) hx hb dX6_isChained_83 (by decide) ?_
          refine lv_istore_n (lv' := [(2, .int (nI 0)), (0, .ref h), (1, .int (nI i)), (3, .int (nI k))]) hx hb dX6_isChained_84 rfl hl (by decide) rfl (fun ls hl => ?_)
          refine lv_iinc (v := nI (k + 1)) (lv' := [(3, .int (nI (k + 1))), (2, .int (nI 0)), (0, .ref h), (1, .int (nI i))]) hx hb dX6_isChained_85 hl (k := 3) rfl (nI_1 _) (by decide) rfl (fun ls hl => ?_)
          refine lv_goto (tgt := 17) hx hb dX6_isChained_88 (by decide) ?_
          exact ih_la (k + 1) 0 (by omega) (by show _ = (decide (0 < rs i) && (kChn (fun k => cs (8 * i + 2 * k)) (fun k => cs (8 * i + 2 * k + 1)) (wn i) k && (decide (cs (8 * i + 2 * k) ≤ wn i) && decide (wn i ≤ cs (8 * i + 2 * k + 1))))).toNat; exact k_ch0 c_28 he) (by omega) _ _ hP hD hS ls (lv_sub hl [2, 3, 1, 0] rfl)
        · refine lv_aload_n hx hb dX6_isChained_31 rfl (lv_at hl 0 rfl) ?_
          refine va_get (D := D) (ci := 6) (v := .ref (r 17)) (C := RX6) (T := TX6) (N := 32) hx hb hts inX6 hown hK hP 0 rfl rfl 17 (by decide) hwd1 (fun _ h9 => h9) rfl dX6_isChained_32 ?_
          refine lv_bipush (v := nI 8) hx hb dX6_isChained_35 (by decide) ?_
          refine lv_iload_n hx hb dX6_isChained_37 rfl (lv_at hl 1 rfl) ?_
          refine kn_imul hx hb dX6_isChained_38 ?_
          refine lv_iconst (v := nI 2) hx hb dX6_isChained_39 (by decide) ?_
          refine lv_iload_n hx hb dX6_isChained_40 rfl (lv_at hl 3 rfl) ?_
          refine kn_imul hx hb dX6_isChained_41 ?_
          refine kn_iadd hx hb dX6_isChained_42 ?_
          refine kn_lald hx hb hK hP 3 3 rfl rfl (i := 8 * i + (2 * k)) (by omega) (by decide) dX6_isChained_43 ?_
          refine lv_aload_n hx hb dX6_isChained_44 rfl (lv_at hl 0 rfl) ?_
          refine va_get (D := D) (ci := 6) (v := .ref (r 11)) (C := RX6) (T := TX6) (N := 32) hx hb hts inX6 hown hK hP 0 rfl rfl 11 (by decide) hwd2 (fun _ h9 => h9) rfl dX6_isChained_45 ?_
          refine lv_iload_n hx hb dX6_isChained_48 rfl (lv_at hl 1 rfl) ?_
          refine kn_lald hx hb hK hP 1 3 rfl rfl (i := i) (by omega) (by decide) dX6_isChained_49 ?_
          refine W.lcmp hx hb dX6_isChained_50 ?_
          refine lv_if_gt (tgt := 83) hx hb dX6_isChained_51 (by decide) (fun c_51 => ?_) (fun c_51 => ?_)
          · have c_51 := (lg_cmp_gt _ _).mp c_51
            refine lv_iconst (v := nI 0) hx hb dX6_isChained_83 (by decide) ?_
            refine lv_istore_n (lv' := [(2, .int (nI 0)), (0, .ref h), (1, .int (nI i)), (3, .int (nI k))]) hx hb dX6_isChained_84 rfl hl (by decide) rfl (fun ls hl => ?_)
            refine lv_iinc (v := nI (k + 1)) (lv' := [(3, .int (nI (k + 1))), (2, .int (nI 0)), (0, .ref h), (1, .int (nI i))]) hx hb dX6_isChained_85 hl (k := 3) rfl (nI_1 _) (by decide) rfl (fun ls hl => ?_)
            refine lv_goto (tgt := 17) hx hb dX6_isChained_88 (by decide) ?_
            exact ih_la (k + 1) 0 (by omega) (by show _ = (decide (0 < rs i) && (kChn (fun k => cs (8 * i + 2 * k)) (fun k => cs (8 * i + 2 * k + 1)) (wn i) k && (decide (cs (8 * i + 2 * k) ≤ wn i) && decide (wn i ≤ cs (8 * i + 2 * k + 1))))).toNat; rw [decide_eq_false (p := cs (8 * i + 2 * k) ≤ wn i) (Int64.not_le.mpr c_51), Bool.false_and, Bool.and_false, Bool.and_false]; rfl) (by omega) _ _ hP hD hS ls (lv_sub hl [2, 3, 1, 0] rfl)
          · have c_51 := fun h9 => c_51 ((lg_cmp_gt _ _).mpr h9)
            refine lv_aload_n hx hb dX6_isChained_54 rfl (lv_at hl 0 rfl) ?_
            refine va_get (D := D) (ci := 6) (v := .ref (r 11)) (C := RX6) (T := TX6) (N := 32) hx hb hts inX6 hown hK hP 0 rfl rfl 11 (by decide) hwd2 (fun _ h9 => h9) rfl dX6_isChained_55 ?_
            refine lv_iload_n hx hb dX6_isChained_58 rfl (lv_at hl 1 rfl) ?_
            refine kn_lald hx hb hK hP 1 3 rfl rfl (i := i) (by omega) (by decide) dX6_isChained_59 ?_
            refine lv_aload_n hx hb dX6_isChained_60 rfl (lv_at hl 0 rfl) ?_
            refine va_get (D := D) (ci := 6) (v := .ref (r 17)) (C := RX6) (T := TX6) (N := 32) hx hb hts inX6 hown hK hP 0 rfl rfl 17 (by decide) hwd1 (fun _ h9 => h9) rfl dX6_isChained_61 ?_
            refine lv_bipush (v := nI 8) hx hb dX6_isChained_64 (by decide) ?_
            refine lv_iload_n hx hb dX6_isChained_66 rfl (lv_at hl 1 rfl) ?_
            refine kn_imul hx hb dX6_isChained_67 ?_
            refine lv_iconst (v := nI 2) hx hb dX6_isChained_68 (by decide) ?_
            refine lv_iload_n hx hb dX6_isChained_69 rfl (lv_at hl 3 rfl) ?_
            refine kn_imul hx hb dX6_isChained_70 ?_
            refine kn_iadd hx hb dX6_isChained_71 ?_
            refine lv_iconst (v := nI 1) hx hb dX6_isChained_72 (by decide) ?_
            refine kn_iadd hx hb dX6_isChained_73 ?_
            refine kn_lald hx hb hK hP 3 3 rfl rfl (i := 8 * i + (2 * k) + 1) (by omega) (by decide) dX6_isChained_74 ?_
            refine W.lcmp hx hb dX6_isChained_75 ?_
            refine lv_if_gt (tgt := 83) hx hb dX6_isChained_76 (by decide) (fun c_76 => ?_) (fun c_76 => ?_)
            · have c_76 := (lg_cmp_gt _ _).mp c_76
              refine lv_iconst (v := nI 0) hx hb dX6_isChained_83 (by decide) ?_
              refine lv_istore_n (lv' := [(2, .int (nI 0)), (0, .ref h), (1, .int (nI i)), (3, .int (nI k))]) hx hb dX6_isChained_84 rfl hl (by decide) rfl (fun ls hl => ?_)
              refine lv_iinc (v := nI (k + 1)) (lv' := [(3, .int (nI (k + 1))), (2, .int (nI 0)), (0, .ref h), (1, .int (nI i))]) hx hb dX6_isChained_85 hl (k := 3) rfl (nI_1 _) (by decide) rfl (fun ls hl => ?_)
              refine lv_goto (tgt := 17) hx hb dX6_isChained_88 (by decide) ?_
              exact ih_la (k + 1) 0 (by omega) (by show _ = (decide (0 < rs i) && (kChn (fun k => cs (8 * i + 2 * k)) (fun k => cs (8 * i + 2 * k + 1)) (wn i) k && (decide (cs (8 * i + 2 * k) ≤ wn i) && decide (wn i ≤ cs (8 * i + 2 * k + 1))))).toNat; rw [decide_eq_false (p := wn i ≤ cs (8 * i + 2 * k + 1)) (Int64.not_le.mpr c_76), Bool.and_false, Bool.and_false, Bool.and_false]; rfl) (by omega) _ _ hP hD hS ls (lv_sub hl [2, 3, 1, 0] rfl)
            · have c_76 := fun h9 => c_76 ((lg_cmp_gt _ _).mpr h9)
              refine lv_iconst (v := nI 1) hx hb dX6_isChained_79 (by decide) ?_
              refine lv_goto (tgt := 84) hx hb dX6_isChained_80 (by decide) ?_
              refine lv_istore_n (lv' := [(2, .int (nI 1)), (0, .ref h), (1, .int (nI i)), (3, .int (nI k))]) hx hb dX6_isChained_84 rfl hl (by decide) rfl (fun ls hl => ?_)
              refine lv_iinc (v := nI (k + 1)) (lv' := [(3, .int (nI (k + 1))), (2, .int (nI 1)), (0, .ref h), (1, .int (nI i))]) hx hb dX6_isChained_85 hl (k := 3) rfl (nI_1 _) (by decide) rfl (fun ls hl => ?_)
              refine lv_goto (tgt := 17) hx hb dX6_isChained_88 (by decide) ?_
              exact ih_la (k + 1) 1 (by omega) (by show _ = (decide (0 < rs i) && (kChn (fun k => cs (8 * i + 2 * k)) (fun k => cs (8 * i + 2 * k + 1)) (wn i) k && (decide (cs (8 * i + 2 * k) ≤ wn i) && decide (wn i ≤ cs (8 * i + 2 * k + 1))))).toNat; rw [decide_eq_true (p := wn i ≤ cs (8 * i + 2 * k + 1)) (Int64.not_lt.mp c_76), decide_eq_true (p := cs (8 * i + 2 * k) ≤ wn i) (Int64.not_lt.mp c_51)]; exact k_ch1 c_28 he) (by omega) _ _ hP hD hS ls (lv_sub hl [2, 3, 1, 0] rfl)
  refine lv_aload_n hx hb dX6_isChained_0 rfl (lv_at hl 0 rfl) ?_
  refine va_get (D := D) (ci := 6) (v := .ref (r 16)) (C := RX6) (T := TX6) (N := 32) hx hb hts inX6 hown hK hP 0 rfl rfl 16 (by decide) hwd0 (fun _ h9 => h9) rfl dX6_isChained_1 ?_
  refine lv_iload_n hx hb dX6_isChained_4 rfl (lv_at hl 1 rfl) ?_
  refine kn_iald hx hb hK hP 2 0 rfl rfl (i := i) (by omega) (by decide) dX6_isChained_5 ?_
  refine kn_if_le (tgt := 13) hx hb (by omega) dX6_isChained_6 (by decide) (fun c_6 => ?_) (fun c_6 => ?_)
  · refine lv_iconst (v := nI 0) hx hb dX6_isChained_13 (by decide) ?_
    refine lv_istore_n (lv' := [(2, .int (nI 0)), (0, .ref h), (1, .int (nI i))]) hx hb dX6_isChained_14 rfl hl (by decide) rfl (fun ls hl => ?_)
    refine lv_iconst (v := nI 0) hx hb dX6_isChained_15 (by decide) ?_
    refine lv_istore_n (lv' := [(3, .int (nI 0)), (2, .int (nI 0)), (0, .ref h), (1, .int (nI i))]) hx hb dX6_isChained_16 rfl hl (by decide) rfl (fun ls hl => ?_)
    exact la (rs i + 1) 0 0 (by omega) (by rw [decide_eq_false (p := 0 < rs i) (by omega)]; rfl) (by omega) _ _ hP hD hS ls (lv_sub hl [2, 3, 1, 0] rfl)
  · refine lv_iconst (v := nI 1) hx hb dX6_isChained_9 (by decide) ?_
    refine lv_goto (tgt := 14) hx hb dX6_isChained_10 (by decide) ?_
    refine lv_istore_n (lv' := [(2, .int (nI 1)), (0, .ref h), (1, .int (nI i))]) hx hb dX6_isChained_14 rfl hl (by decide) rfl (fun ls hl => ?_)
    refine lv_iconst (v := nI 0) hx hb dX6_isChained_15 (by decide) ?_
    refine lv_istore_n (lv' := [(3, .int (nI 0)), (2, .int (nI 1)), (0, .ref h), (1, .int (nI i))]) hx hb dX6_isChained_16 rfl hl (by decide) rfl (fun ls hl => ?_)
    exact la (rs i + 1) 0 1 (by omega) (by rw [decide_eq_true (p := 0 < rs i) c_6]; rfl) (by omega) _ _ hP hD hS ls (lv_sub hl [2, 3, 1, 0] rfl)
