theorem iX0_init_X0 : ∀ w ∈ wsX00, w ∈ wsX0_init := by decide +kernel
theorem X0_init_hwd0 : (.methodLink RX0 3 objectInit : Cond) ∈ wsX0_init := by decide +kernel
theorem X0_init_hwd1 : (.instanceMethod objectInit : Cond) ∈ wsX0_init := by decide +kernel
theorem X0_init_hwd2 : (.code objectInit ⟨#[0xb1]⟩ 1 none : Cond) ∈ wsX0_init := by decide +kernel
theorem X0_init_hwd3 : (.arrayClass .int : Cond) ∈ wsX0_init := by decide +kernel
theorem X0_init_hwd4 : (.fieldLink RX0 9 "SignatureSpans$Changes" "kinds" "[I" : Cond) ∈ wsX0_init := by decide +kernel
theorem X0_init_hwd5 : (.fieldLink RX0 15 "SignatureSpans$Changes" "fields" "[I" : Cond) ∈ wsX0_init := by decide +kernel
set_option maxHeartbeats 4000000 in
set_option maxRecDepth 100000 in
/-- new -/
theorem c_X0_init (l : Launch) (D : va_G) (h : Nat) : kM (S := Nat × Nat) l yX0_init wsX0_init ({ frames := 8, cells := 2, slots := 80, locals := 160 }) 2 80 D [.ref h] [(h, .inr (0, [.null, .null, .int (nI 0)]))] (fun _ => none) (fun u => [(h, .inr (0, [.ref u.1, .ref u.2, .int (nI 0)])), (u.1, .inl (D.1 20, 40, .inl (fun j => nI ((fun _ => 0) j)))), (u.2, .inl (D.1 20, 40, .inl (fun j => nI ((fun _ => 0) j))))]) (fun _ => True) := by
  intro sz
  refine Met.ofW (cc := cX0_init) (maxL := 1) (ret := none) (by decide) rfl ?_
  intro p e s m args below meth c s₁ B hml hv
  obtain ⟨rfl, hsz, hP, hK, hD0, hE⟩ := hv
  have hx := B.exec
  have hb := B.bytes
  have hr := B.returns
  have hts := atoms_spec (ws := wsX0_init) B.pre
  have hown : s.vm.findClass RX0 = some m.cls := findClass_of_methodNamed B.named
  have hlocks := B.notSynchronized
  have hin : meth.name = "<init>" := (name_of_methodNamed B.named B.method).1
  subst hsz
  have hD := hD0.self (sz := s.heap.size)
  generalize hAe : va_A [(h, .inr (0, [.null, .null, .int (nI 0)]))] s.heap.size = A at hD hE ⊢
  have hA : ∀ q : Nat, s.heap.size ≤ q → A q := fun q h => by rw [← hAe]; exact Or.inr h
  have hS : va_S A s.heap s.heap [] := va_S.rf
  have hl := lv_entry ([.ref h]) (n := 1) (Nat.le_of_ble_eq_true rfl)
  have inX0 : ∀ w ∈ wsX00, w ∈ wsX0_init := iX0_init_X0
  have hwd0 := hts (.methodLink RX0 3 objectInit) X0_init_hwd0
  have hwd1 := hts (.instanceMethod objectInit) X0_init_hwd1
  have hwd2 := hts (.code objectInit ⟨#[0xb1]⟩ 1 none) X0_init_hwd2
  have hwd3 := hts (.arrayClass .int) X0_init_hwd3
  have hwd4 := hts (.fieldLink RX0 9 "SignatureSpans$Changes" "kinds" "[I") X0_init_hwd4
  have hwd5 := hts (.fieldLink RX0 15 "SignatureSpans$Changes" "fields" "[I") X0_init_hwd5
  refine kgenQ (fun Q hQ => ?_)
  rw [lg_entry_eq]
  generalize (lg_sl ([.ref h]) ++ List.replicate (1 - (lg_sl ([.ref h])).length) Slot.unset).toArray = ls at hl ⊢
  have hl : lv_has ls 1 [(0, .ref h)] := hl
  refine lv_aload_n hx hb dX0_init_0 rfl (lv_at hl 0 rfl) ?_
  refine W.objInit hx hb hown hwd0 hwd1 hwd2 rfl (by rw [hml]; exact hl.1) rfl dX0_init_1 (Nat.le_of_ble_eq_true rfl) (Nat.le_of_ble_eq_true rfl) ?_
  refine W.eq (g2 := F0 m 4 ls []) rfl ?_
  refine lv_aload_n hx hb dX0_init_4 rfl (lv_at hl 0 rfl) ?_
  refine lv_bipush (v := nI 40) hx hb dX0_init_5 (by decide) ?_
  refine kn_newa (atype := .int) (a0 := (40, .inl (fun _ => 0))) (ty := .int) (N' := 40) hx hb hwd3 rfl (fun C h9 => by cases h9) hK hP hD hS hA 0 rfl (fun _ => rfl) (by decide) (by decide) (Nat.le_of_ble_eq_true rfl) (Nat.le_of_ble_eq_true rfl) dX0_init_7 (fun q7 H hP hD hS => ?_)
  have hP : va_P D kC [(h, .inr (0, [.null, .null, .int (nI 0)])), (q7, .inl (D.1 20, 40, .inl (fun _ => 0)))] _ := hP
  have hD : va_D A [(h, .inr (0, [.null, .null, .int (nI 0)])), (q7, .inl (D.1 20, 40, .inl (fun _ => 0)))] := hD
  refine W.widen (k := 1) (n := 40) (Nat.le_refl _) (Nat.le_refl _) ?_
  refine va_putF (D := D) (ci := 0) (v := .ref q7) (ty := .array .int) (C := RX0) (T := TX0) (N := 3) hx hb hts inX0 tyX0 tyX0_ok nmX0 hown hK hP hD hS 0 rfl rfl 0 (by decide) hwd4 (fun _ h9 => h9) rfl hin rfl (by decide +kernel) rfl rfl (Nat.le_of_ble_eq_true rfl) dX0_init_9 (fun H locs hP hD hS => ?_)
  have hP : va_P D kC [(h, .inr (0, [.ref q7, .null, .int (nI 0)])), (q7, .inl (D.1 20, 40, .inl (fun _ => 0)))] _ := hP
  have hD : va_D A [(h, .inr (0, [.ref q7, .null, .int (nI 0)])), (q7, .inl (D.1 20, 40, .inl (fun _ => 0)))] := hD
  refine lv_aload_n hx hb dX0_init_12 rfl (lv_at hl 0 rfl) ?_
  refine lv_bipush (v := nI 40) hx hb dX0_init_13 (by decide) ?_
  refine kn_newa (atype := .int) (a0 := (40, .inl (fun _ => 0))) (ty := .int) (N' := 40) hx hb hwd3 rfl (fun C h9 => by cases h9) hK hP hD hS hA 0 rfl (fun _ => rfl) (by decide) (by decide) (Nat.le_of_ble_eq_true rfl) (Nat.le_of_ble_eq_true rfl) dX0_init_15 (fun q15 H hP hD hS => ?_)
  have hP : va_P D kC [(h, .inr (0, [.ref q7, .null, .int (nI 0)])), (q7, .inl (D.1 20, 40, .inl (fun _ => 0))), (q15, .inl (D.1 20, 40, .inl (fun _ => 0)))] _ := hP
  have hD : va_D A [(h, .inr (0, [.ref q7, .null, .int (nI 0)])), (q7, .inl (D.1 20, 40, .inl (fun _ => 0))), (q15, .inl (D.1 20, 40, .inl (fun _ => 0)))] := hD
  refine W.widen (k := 2) (n := 80) (Nat.le_refl _) (Nat.le_refl _) ?_
  refine va_putF (D := D) (ci := 0) (v := .ref q15) (ty := .array .int) (C := RX0) (T := TX0) (N := 3) hx hb hts inX0 tyX0 tyX0_ok nmX0 hown hK hP hD hS 0 rfl rfl 1 (by decide) hwd5 (fun _ h9 => h9) rfl hin rfl (by decide +kernel) rfl rfl (Nat.le_of_ble_eq_true rfl) dX0_init_17 (fun H locs hP hD hS => ?_)
  have hP : va_P D kC [(h, .inr (0, [.ref q7, .ref q15, .int (nI 0)])), (q7, .inl (D.1 20, 40, .inl (fun _ => 0))), (q15, .inl (D.1 20, 40, .inl (fun _ => 0)))] _ := hP
  have hD : va_D A [(h, .inr (0, [.ref q7, .ref q15, .int (nI 0)])), (q7, .inl (D.1 20, 40, .inl (fun _ => 0))), (q15, .inl (D.1 20, 40, .inl (fun _ => 0)))] := hD
  rw [hQ]
  have hP9 : va_P D kC [(h, .inr (0, [.ref q7, .ref q15, .int (nI 0)])), (q7, .inl (D.1 20, 40, .inl (fun j => nI ((fun _ => 0) j)))), (q15, .inl (D.1 20, 40, .inl (fun j => nI ((fun _ => 0) j))))] _ := hP
  have hD9 : va_D A [(h, .inr (0, [.ref q7, .ref q15, .int (nI 0)])), (q7, .inl (D.1 20, 40, .inl (fun j => nI ((fun _ => 0) j)))), (q15, .inl (D.1 20, 40, .inl (fun j => nI ((fun _ => 0) j))))] := hD
  exact W.vret hx hb hr (fun tq ht hW => ⟨⟨(q7, q15), rfl, trivial, by rw [ht]; exact hP9, va_K.moved hW.alike hK, hD9⟩, hS.F ht⟩) hS.2.2 dX0_init_20

theorem iX1_init_X1 : ∀ w ∈ wsX10, w ∈ wsX1_init := by decide +kernel
theorem X1_init_hwd0 : (.methodLink RX1 3 objectInit : Cond) ∈ wsX1_init := by decide +kernel
theorem X1_init_hwd1 : (.instanceMethod objectInit : Cond) ∈ wsX1_init := by decide +kernel
theorem X1_init_hwd2 : (.code objectInit ⟨#[0xb1]⟩ 1 none : Cond) ∈ wsX1_init := by decide +kernel
theorem X1_init_hwd3 : (.arrayClass .int : Cond) ∈ wsX1_init := by decide +kernel
theorem X1_init_hwd4 : (.fieldLink RX1 9 "SignatureSpans$Places" "from" "[I" : Cond) ∈ wsX1_init := by decide +kernel
theorem X1_init_hwd5 : (.fieldLink RX1 15 "SignatureSpans$Places" "to" "[I" : Cond) ∈ wsX1_init := by decide +kernel
theorem X1_init_hwd6 : (.arrayClass .boolean : Cond) ∈ wsX1_init := by decide +kernel
theorem X1_init_hwd7 : (.fieldLink RX1 18 "SignatureSpans$Places" "taken" "[Z" : Cond) ∈ wsX1_init := by decide +kernel
set_option maxHeartbeats 4000000 in
set_option maxRecDepth 100000 in
/-- new -/
theorem c_X1_init (l : Launch) (D : va_G) (h : Nat) : kM (S := Nat × Nat × Nat) l yX1_init wsX1_init ({ frames := 8, cells := 3, slots := 24, locals := 160 }) 3 24 D [.ref h] [(h, .inr (1, [.null, .null, .null, .int (nI 0)]))] (fun _ => none) (fun u => [(h, .inr (1, [.ref u.1, .ref u.2.1, .ref u.2.2, .int (nI 0)])), (u.1, .inl (D.1 20, 8, .inl (fun j => nI ((fun _ => 0) j)))), (u.2.1, .inl (D.1 20, 8, .inl (fun j => nI ((fun _ => 0) j)))), (u.2.2, .inl (D.1 22, 8, .inl (fun _ => 0)))]) (fun _ => True) := by
  intro sz
  refine Met.ofW (cc := cX1_init) (maxL := 1) (ret := none) (by decide) rfl ?_
  intro p e s m args below meth c s₁ B hml hv
  obtain ⟨rfl, hsz, hP, hK, hD0, hE⟩ := hv
  have hx := B.exec
  have hb := B.bytes
  have hr := B.returns
  have hts := atoms_spec (ws := wsX1_init) B.pre
  have hown : s.vm.findClass RX1 = some m.cls := findClass_of_methodNamed B.named
  have hlocks := B.notSynchronized
  have hin : meth.name = "<init>" := (name_of_methodNamed B.named B.method).1
  subst hsz
  have hD := hD0.self (sz := s.heap.size)
  generalize hAe : va_A [(h, .inr (1, [.null, .null, .null, .int (nI 0)]))] s.heap.size = A at hD hE ⊢
  have hA : ∀ q : Nat, s.heap.size ≤ q → A q := fun q h => by rw [← hAe]; exact Or.inr h
  have hS : va_S A s.heap s.heap [] := va_S.rf
  have hl := lv_entry ([.ref h]) (n := 1) (Nat.le_of_ble_eq_true rfl)
  have inX1 : ∀ w ∈ wsX10, w ∈ wsX1_init := iX1_init_X1
  have hwd0 := hts (.methodLink RX1 3 objectInit) X1_init_hwd0
  have hwd1 := hts (.instanceMethod objectInit) X1_init_hwd1
  have hwd2 := hts (.code objectInit ⟨#[0xb1]⟩ 1 none) X1_init_hwd2
  have hwd3 := hts (.arrayClass .int) X1_init_hwd3
  have hwd4 := hts (.fieldLink RX1 9 "SignatureSpans$Places" "from" "[I") X1_init_hwd4
  have hwd5 := hts (.fieldLink RX1 15 "SignatureSpans$Places" "to" "[I") X1_init_hwd5
  have hwd6 := hts (.arrayClass .boolean) X1_init_hwd6
  have hwd7 := hts (.fieldLink RX1 18 "SignatureSpans$Places" "taken" "[Z") X1_init_hwd7
  refine kgenQ (fun Q hQ => ?_)
  rw [lg_entry_eq]
  generalize (lg_sl ([.ref h]) ++ List.replicate (1 - (lg_sl ([.ref h])).length) Slot.unset).toArray = ls at hl ⊢
  have hl : lv_has ls 1 [(0, .ref h)] := hl
  refine lv_aload_n hx hb dX1_init_0 rfl (lv_at hl 0 rfl) ?_
  refine W.objInit hx hb hown hwd0 hwd1 hwd2 rfl (by rw [hml]; exact hl.1) rfl dX1_init_1 (Nat.le_of_ble_eq_true rfl) (Nat.le_of_ble_eq_true rfl) ?_
  refine W.eq (g2 := F0 m 4 ls []) rfl ?_
  refine lv_aload_n hx hb dX1_init_4 rfl (lv_at hl 0 rfl) ?_
  refine lv_bipush (v := nI 8) hx hb dX1_init_5 (by decide) ?_
  refine kn_newa (atype := .int) (a0 := (8, .inl (fun _ => 0))) (ty := .int) (N' := 8) hx hb hwd3 rfl (fun C h9 => by cases h9) hK hP hD hS hA 0 rfl (fun _ => rfl) (by decide) (by decide) (Nat.le_of_ble_eq_true rfl) (Nat.le_of_ble_eq_true rfl) dX1_init_7 (fun q7 H hP hD hS => ?_)
  have hP : va_P D kC [(h, .inr (1, [.null, .null, .null, .int (nI 0)])), (q7, .inl (D.1 20, 8, .inl (fun _ => 0)))] _ := hP
  have hD : va_D A [(h, .inr (1, [.null, .null, .null, .int (nI 0)])), (q7, .inl (D.1 20, 8, .inl (fun _ => 0)))] := hD
  refine W.widen (k := 1) (n := 8) (Nat.le_refl _) (Nat.le_refl _) ?_
  refine va_putF (D := D) (ci := 1) (v := .ref q7) (ty := .array .int) (C := RX1) (T := TX1) (N := 4) hx hb hts inX1 tyX1 tyX1_ok nmX1 hown hK hP hD hS 0 rfl rfl 0 (by decide) hwd4 (fun _ h9 => h9) rfl hin rfl (by decide +kernel) rfl rfl (Nat.le_of_ble_eq_true rfl) dX1_init_9 (fun H locs hP hD hS => ?_)
  have hP : va_P D kC [(h, .inr (1, [.ref q7, .null, .null, .int (nI 0)])), (q7, .inl (D.1 20, 8, .inl (fun _ => 0)))] _ := hP
  have hD : va_D A [(h, .inr (1, [.ref q7, .null, .null, .int (nI 0)])), (q7, .inl (D.1 20, 8, .inl (fun _ => 0)))] := hD
  refine lv_aload_n hx hb dX1_init_12 rfl (lv_at hl 0 rfl) ?_
  refine lv_bipush (v := nI 8) hx hb dX1_init_13 (by decide) ?_
  refine kn_newa (atype := .int) (a0 := (8, .inl (fun _ => 0))) (ty := .int) (N' := 8) hx hb hwd3 rfl (fun C h9 => by cases h9) hK hP hD hS hA 0 rfl (fun _ => rfl) (by decide) (by decide) (Nat.le_of_ble_eq_true rfl) (Nat.le_of_ble_eq_true rfl) dX1_init_15 (fun q15 H hP hD hS => ?_)
  have hP : va_P D kC [(h, .inr (1, [.ref q7, .null, .null, .int (nI 0)])), (q7, .inl (D.1 20, 8, .inl (fun _ => 0))), (q15, .inl (D.1 20, 8, .inl (fun _ => 0)))] _ := hP
  have hD : va_D A [(h, .inr (1, [.ref q7, .null, .null, .int (nI 0)])), (q7, .inl (D.1 20, 8, .inl (fun _ => 0))), (q15, .inl (D.1 20, 8, .inl (fun _ => 0)))] := hD
  refine W.widen (k := 2) (n := 16) (Nat.le_refl _) (Nat.le_refl _) ?_
  refine va_putF (D := D) (ci := 1) (v := .ref q15) (ty := .array .int) (C := RX1) (T := TX1) (N := 4) hx hb hts inX1 tyX1 tyX1_ok nmX1 hown hK hP hD hS 0 rfl rfl 1 (by decide) hwd5 (fun _ h9 => h9) rfl hin rfl (by decide +kernel) rfl rfl (Nat.le_of_ble_eq_true rfl) dX1_init_17 (fun H locs hP hD hS => ?_)
  have hP : va_P D kC [(h, .inr (1, [.ref q7, .ref q15, .null, .int (nI 0)])), (q7, .inl (D.1 20, 8, .inl (fun _ => 0))), (q15, .inl (D.1 20, 8, .inl (fun _ => 0)))] _ := hP
  have hD : va_D A [(h, .inr (1, [.ref q7, .ref q15, .null, .int (nI 0)])), (q7, .inl (D.1 20, 8, .inl (fun _ => 0))), (q15, .inl (D.1 20, 8, .inl (fun _ => 0)))] := hD
  refine lv_aload_n hx hb dX1_init_20 rfl (lv_at hl 0 rfl) ?_
  refine lv_bipush (v := nI 8) hx hb dX1_init_21 (by decide) ?_
  refine kn_newa (atype := .boolean) (a0 := (8, .inl (fun _ => 0))) (ty := .boolean) (N' := 8) hx hb hwd6 rfl (fun C h9 => by cases h9) hK hP hD hS hA 2 rfl (fun _ => rfl) (by decide) (by decide) (Nat.le_of_ble_eq_true rfl) (Nat.le_of_ble_eq_true rfl) dX1_init_23 (fun q23 H hP hD hS => ?_)
  have hP : va_P D kC [(h, .inr (1, [.ref q7, .ref q15, .null, .int (nI 0)])), (q7, .inl (D.1 20, 8, .inl (fun _ => 0))), (q15, .inl (D.1 20, 8, .inl (fun _ => 0))), (q23, .inl (D.1 22, 8, .inl (fun _ => 0)))] _ := hP
  have hD : va_D A [(h, .inr (1, [.ref q7, .ref q15, .null, .int (nI 0)])), (q7, .inl (D.1 20, 8, .inl (fun _ => 0))), (q15, .inl (D.1 20, 8, .inl (fun _ => 0))), (q23, .inl (D.1 22, 8, .inl (fun _ => 0)))] := hD
  refine W.widen (k := 3) (n := 24) (Nat.le_refl _) (Nat.le_refl _) ?_
  refine va_putF (D := D) (ci := 1) (v := .ref q23) (ty := .array .boolean) (C := RX1) (T := TX1) (N := 4) hx hb hts inX1 tyX1 tyX1_ok nmX1 hown hK hP hD hS 0 rfl rfl 2 (by decide) hwd7 (fun _ h9 => h9) rfl hin rfl (by decide +kernel) rfl rfl (Nat.le_of_ble_eq_true rfl) dX1_init_25 (fun H locs hP hD hS => ?_)
  have hP : va_P D kC [(h, .inr (1, [.ref q7, .ref q15, .ref q23, .int (nI 0)])), (q7, .inl (D.1 20, 8, .inl (fun _ => 0))), (q15, .inl (D.1 20, 8, .inl (fun _ => 0))), (q23, .inl (D.1 22, 8, .inl (fun _ => 0)))] _ := hP
  have hD : va_D A [(h, .inr (1, [.ref q7, .ref q15, .ref q23, .int (nI 0)])), (q7, .inl (D.1 20, 8, .inl (fun _ => 0))), (q15, .inl (D.1 20, 8, .inl (fun _ => 0))), (q23, .inl (D.1 22, 8, .inl (fun _ => 0)))] := hD
  rw [hQ]
  have hP9 : va_P D kC [(h, .inr (1, [.ref q7, .ref q15, .ref q23, .int (nI 0)])), (q7, .inl (D.1 20, 8, .inl (fun j => nI ((fun _ => 0) j)))), (q15, .inl (D.1 20, 8, .inl (fun j => nI ((fun _ => 0) j)))), (q23, .inl (D.1 22, 8, .inl (fun _ => 0)))] _ := hP
  have hD9 : va_D A [(h, .inr (1, [.ref q7, .ref q15, .ref q23, .int (nI 0)])), (q7, .inl (D.1 20, 8, .inl (fun j => nI ((fun _ => 0) j)))), (q15, .inl (D.1 20, 8, .inl (fun j => nI ((fun _ => 0) j)))), (q23, .inl (D.1 22, 8, .inl (fun _ => 0)))] := hD
  exact W.vret hx hb hr (fun tq ht hW => ⟨⟨(q7, q15, q23), rfl, trivial, by rw [ht]; exact hP9, va_K.moved hW.alike hK, hD9⟩, hS.F ht⟩) hS.2.2 dX1_init_28

theorem iX2_init_X2 : ∀ w ∈ wsX20, w ∈ wsX2_init := by decide +kernel
theorem X2_init_hwd0 : (.methodLink RX2 5 objectInit : Cond) ∈ wsX2_init := by decide +kernel
theorem X2_init_hwd1 : (.instanceMethod objectInit : Cond) ∈ wsX2_init := by decide +kernel
theorem X2_init_hwd2 : (.code objectInit ⟨#[0xb1]⟩ 1 none : Cond) ∈ wsX2_init := by decide +kernel
theorem X2_init_hwd3 : (.arrayClass .byte : Cond) ∈ wsX2_init := by decide +kernel
theorem X2_init_hwd4 : (.fieldLink RX2 11 "SignatureSpans$Sha256" "message" "[B" : Cond) ∈ wsX2_init := by decide +kernel
theorem X2_init_hwd5 : (.arrayClass .int : Cond) ∈ wsX2_init := by decide +kernel
theorem X2_init_hwd6 : (.fieldLink RX2 15 "SignatureSpans$Sha256" "words" "[I" : Cond) ∈ wsX2_init := by decide +kernel
theorem X2_init_hwd7 : (.fieldLink RX2 19 "SignatureSpans$Sha256" "schedule" "[I" : Cond) ∈ wsX2_init := by decide +kernel
set_option maxHeartbeats 4000000 in
set_option maxRecDepth 100000 in
/-- new -/
theorem c_X2_init (l : Launch) (D : va_G) (h : Nat) : kM (S := Nat × Nat × Nat) l yX2_init wsX2_init ({ frames := 8, cells := 3, slots := 1608, locals := 160 }) 3 1608 D [.ref h] [(h, .inr (2, [.null, .int (nI 0), .null, .null]))] (fun _ => none) (fun u => [(h, .inr (2, [.ref u.1, .int (nI 0), .ref u.2.1, .ref u.2.2])), (u.1, .inl (D.1 21, 1536, .inl (fun _ => 0))), (u.2.1, .inl (D.1 20, 8, .inl (fun _ => 0))), (u.2.2, .inl (D.1 20, 64, .inl (fun _ => 0)))]) (fun _ => True) := by
  intro sz
  refine Met.ofW (cc := cX2_init) (maxL := 1) (ret := none) (by decide) rfl ?_
  intro p e s m args below meth c s₁ B hml hv
  obtain ⟨rfl, hsz, hP, hK, hD0, hE⟩ := hv
  have hx := B.exec
  have hb := B.bytes
  have hr := B.returns
  have hts := atoms_spec (ws := wsX2_init) B.pre
  have hown : s.vm.findClass RX2 = some m.cls := findClass_of_methodNamed B.named
  have hlocks := B.notSynchronized
  have hin : meth.name = "<init>" := (name_of_methodNamed B.named B.method).1
  subst hsz
  have hD := hD0.self (sz := s.heap.size)
  generalize hAe : va_A [(h, .inr (2, [.null, .int (nI 0), .null, .null]))] s.heap.size = A at hD hE ⊢
  have hA : ∀ q : Nat, s.heap.size ≤ q → A q := fun q h => by rw [← hAe]; exact Or.inr h
  have hS : va_S A s.heap s.heap [] := va_S.rf
  have hl := lv_entry ([.ref h]) (n := 1) (Nat.le_of_ble_eq_true rfl)
  have inX2 : ∀ w ∈ wsX20, w ∈ wsX2_init := iX2_init_X2
  have hwd0 := hts (.methodLink RX2 5 objectInit) X2_init_hwd0
  have hwd1 := hts (.instanceMethod objectInit) X2_init_hwd1
  have hwd2 := hts (.code objectInit ⟨#[0xb1]⟩ 1 none) X2_init_hwd2
  have hwd3 := hts (.arrayClass .byte) X2_init_hwd3
  have hwd4 := hts (.fieldLink RX2 11 "SignatureSpans$Sha256" "message" "[B") X2_init_hwd4
  have hwd5 := hts (.arrayClass .int) X2_init_hwd5
  have hwd6 := hts (.fieldLink RX2 15 "SignatureSpans$Sha256" "words" "[I") X2_init_hwd6
  have hwd7 := hts (.fieldLink RX2 19 "SignatureSpans$Sha256" "schedule" "[I") X2_init_hwd7
  refine kgenQ (fun Q hQ => ?_)
  rw [lg_entry_eq]
  generalize (lg_sl ([.ref h]) ++ List.replicate (1 - (lg_sl ([.ref h])).length) Slot.unset).toArray = ls at hl ⊢
  have hl : lv_has ls 1 [(0, .ref h)] := hl
  refine lv_aload_n hx hb dX2_init_0 rfl (lv_at hl 0 rfl) ?_
  refine W.objInit hx hb hown hwd0 hwd1 hwd2 rfl (by rw [hml]; exact hl.1) rfl dX2_init_1 (Nat.le_of_ble_eq_true rfl) (Nat.le_of_ble_eq_true rfl) ?_
  refine W.eq (g2 := F0 m 4 ls []) rfl ?_
  refine lv_aload_n hx hb dX2_init_4 rfl (lv_at hl 0 rfl) ?_
  refine lv_sipush (v := nI 1536) hx hb dX2_init_5 (by decide) ?_
  refine kn_newa (atype := .byte) (a0 := (1536, .inl (fun _ => 0))) (ty := .byte) (N' := 1536) hx hb hwd3 rfl (fun C h9 => by cases h9) hK hP hD hS hA 1 rfl (fun _ => rfl) (by decide) (by decide) (Nat.le_of_ble_eq_true rfl) (Nat.le_of_ble_eq_true rfl) dX2_init_8 (fun q8 H hP hD hS => ?_)
  have hP : va_P D kC [(h, .inr (2, [.null, .int (nI 0), .null, .null])), (q8, .inl (D.1 21, 1536, .inl (fun _ => 0)))] _ := hP
  have hD : va_D A [(h, .inr (2, [.null, .int (nI 0), .null, .null])), (q8, .inl (D.1 21, 1536, .inl (fun _ => 0)))] := hD
  refine W.widen (k := 1) (n := 1536) (Nat.le_refl _) (Nat.le_refl _) ?_
  refine va_putF (D := D) (ci := 2) (v := .ref q8) (ty := .array .byte) (C := RX2) (T := TX2) (N := 4) hx hb hts inX2 tyX2 tyX2_ok nmX2 hown hK hP hD hS 0 rfl rfl 0 (by decide) hwd4 (fun _ h9 => h9) rfl hin rfl (by decide +kernel) rfl rfl (Nat.le_of_ble_eq_true rfl) dX2_init_10 (fun H locs hP hD hS => ?_)
  have hP : va_P D kC [(h, .inr (2, [.ref q8, .int (nI 0), .null, .null])), (q8, .inl (D.1 21, 1536, .inl (fun _ => 0)))] _ := hP
  have hD : va_D A [(h, .inr (2, [.ref q8, .int (nI 0), .null, .null])), (q8, .inl (D.1 21, 1536, .inl (fun _ => 0)))] := hD
  refine lv_aload_n hx hb dX2_init_13 rfl (lv_at hl 0 rfl) ?_
  refine lv_bipush (v := nI 8) hx hb dX2_init_14 (by decide) ?_
  refine kn_newa (atype := .int) (a0 := (8, .inl (fun _ => 0))) (ty := .int) (N' := 8) hx hb hwd5 rfl (fun C h9 => by cases h9) hK hP hD hS hA 0 rfl (fun _ => rfl) (by decide) (by decide) (Nat.le_of_ble_eq_true rfl) (Nat.le_of_ble_eq_true rfl) dX2_init_16 (fun q16 H hP hD hS => ?_)
  have hP : va_P D kC [(h, .inr (2, [.ref q8, .int (nI 0), .null, .null])), (q8, .inl (D.1 21, 1536, .inl (fun _ => 0))), (q16, .inl (D.1 20, 8, .inl (fun _ => 0)))] _ := hP
  have hD : va_D A [(h, .inr (2, [.ref q8, .int (nI 0), .null, .null])), (q8, .inl (D.1 21, 1536, .inl (fun _ => 0))), (q16, .inl (D.1 20, 8, .inl (fun _ => 0)))] := hD
  refine W.widen (k := 2) (n := 1544) (Nat.le_refl _) (Nat.le_refl _) ?_
  refine va_putF (D := D) (ci := 2) (v := .ref q16) (ty := .array .int) (C := RX2) (T := TX2) (N := 4) hx hb hts inX2 tyX2 tyX2_ok nmX2 hown hK hP hD hS 0 rfl rfl 2 (by decide) hwd6 (fun _ h9 => h9) rfl hin rfl (by decide +kernel) rfl rfl (Nat.le_of_ble_eq_true rfl) dX2_init_18 (fun H locs hP hD hS => ?_)
  have hP : va_P D kC [(h, .inr (2, [.ref q8, .int (nI 0), .ref q16, .null])), (q8, .inl (D.1 21, 1536, .inl (fun _ => 0))), (q16, .inl (D.1 20, 8, .inl (fun _ => 0)))] _ := hP
  have hD : va_D A [(h, .inr (2, [.ref q8, .int (nI 0), .ref q16, .null])), (q8, .inl (D.1 21, 1536, .inl (fun _ => 0))), (q16, .inl (D.1 20, 8, .inl (fun _ => 0)))] := hD
  refine lv_aload_n hx hb dX2_init_21 rfl (lv_at hl 0 rfl) ?_
  refine lv_bipush (v := nI 64) hx hb dX2_init_22 (by decide) ?_
  refine kn_newa (atype := .int) (a0 := (64, .inl (fun _ => 0))) (ty := .int) (N' := 64) hx hb hwd5 rfl (fun C h9 => by cases h9) hK hP hD hS hA 0 rfl (fun _ => rfl) (by decide) (by decide) (Nat.le_of_ble_eq_true rfl) (Nat.le_of_ble_eq_true rfl) dX2_init_24 (fun q24 H hP hD hS => ?_)
  have hP : va_P D kC [(h, .inr (2, [.ref q8, .int (nI 0), .ref q16, .null])), (q8, .inl (D.1 21, 1536, .inl (fun _ => 0))), (q16, .inl (D.1 20, 8, .inl (fun _ => 0))), (q24, .inl (D.1 20, 64, .inl (fun _ => 0)))] _ := hP
  have hD : va_D A [(h, .inr (2, [.ref q8, .int (nI 0), .ref q16, .null])), (q8, .inl (D.1 21, 1536, .inl (fun _ => 0))), (q16, .inl (D.1 20, 8, .inl (fun _ => 0))), (q24, .inl (D.1 20, 64, .inl (fun _ => 0)))] := hD
  refine W.widen (k := 3) (n := 1608) (Nat.le_refl _) (Nat.le_refl _) ?_
  refine va_putF (D := D) (ci := 2) (v := .ref q24) (ty := .array .int) (C := RX2) (T := TX2) (N := 4) hx hb hts inX2 tyX2 tyX2_ok nmX2 hown hK hP hD hS 0 rfl rfl 3 (by decide) hwd7 (fun _ h9 => h9) rfl hin rfl (by decide +kernel) rfl rfl (Nat.le_of_ble_eq_true rfl) dX2_init_26 (fun H locs hP hD hS => ?_)
  have hP : va_P D kC [(h, .inr (2, [.ref q8, .int (nI 0), .ref q16, .ref q24])), (q8, .inl (D.1 21, 1536, .inl (fun _ => 0))), (q16, .inl (D.1 20, 8, .inl (fun _ => 0))), (q24, .inl (D.1 20, 64, .inl (fun _ => 0)))] _ := hP
  have hD : va_D A [(h, .inr (2, [.ref q8, .int (nI 0), .ref q16, .ref q24])), (q8, .inl (D.1 21, 1536, .inl (fun _ => 0))), (q16, .inl (D.1 20, 8, .inl (fun _ => 0))), (q24, .inl (D.1 20, 64, .inl (fun _ => 0)))] := hD
  rw [hQ]
  have hP9 : va_P D kC [(h, .inr (2, [.ref q8, .int (nI 0), .ref q16, .ref q24])), (q8, .inl (D.1 21, 1536, .inl (fun _ => 0))), (q16, .inl (D.1 20, 8, .inl (fun _ => 0))), (q24, .inl (D.1 20, 64, .inl (fun _ => 0)))] _ := hP
  have hD9 : va_D A [(h, .inr (2, [.ref q8, .int (nI 0), .ref q16, .ref q24])), (q8, .inl (D.1 21, 1536, .inl (fun _ => 0))), (q16, .inl (D.1 20, 8, .inl (fun _ => 0))), (q24, .inl (D.1 20, 64, .inl (fun _ => 0)))] := hD
  exact W.vret hx hb hr (fun tq ht hW => ⟨⟨(q8, q16, q24), rfl, trivial, by rw [ht]; exact hP9, va_K.moved hW.alike hK, hD9⟩, hS.F ht⟩) hS.2.2 dX2_init_29

theorem iX4_init_X4 : ∀ w ∈ wsX40, w ∈ wsX4_init := by decide +kernel
theorem X4_init_hwd0 : (.methodLink RX4 3 objectInit : Cond) ∈ wsX4_init := by decide +kernel
theorem X4_init_hwd1 : (.instanceMethod objectInit : Cond) ∈ wsX4_init := by decide +kernel
theorem X4_init_hwd2 : (.code objectInit ⟨#[0xb1]⟩ 1 none : Cond) ∈ wsX4_init := by decide +kernel
theorem X4_init_hwd3 : (.arrayClass .long : Cond) ∈ wsX4_init := by decide +kernel
theorem X4_init_hwd4 : (.fieldLink RX4 9 "SignatureSpans$Stamps" "times" "[J" : Cond) ∈ wsX4_init := by decide +kernel
theorem X4_init_hwd5 : (.arrayClass .int : Cond) ∈ wsX4_init := by decide +kernel
theorem X4_init_hwd6 : (.fieldLink RX4 15 "SignatureSpans$Stamps" "sizes" "[I" : Cond) ∈ wsX4_init := by decide +kernel
theorem X4_init_hwd7 : (.classLink RX4 21 "[[I" : Cond) ∈ wsX4_init := by decide +kernel
theorem X4_init_hwd8 : (.fieldLink RX4 23 "SignatureSpans$Stamps" "digestWords" "[[I" : Cond) ∈ wsX4_init := by decide +kernel
theorem X4_init_hwd9 : (.fieldLink RX4 26 "SignatureSpans$Stamps" "order" "[I" : Cond) ∈ wsX4_init := by decide +kernel
set_option maxHeartbeats 4000000 in
set_option maxRecDepth 100000 in
/-- new -/
theorem c_X4_init (l : Launch) (D : va_G) (h : Nat) : kM (S := Nat × Nat × Nat × Nat × (Nat → Nat)) l yX4_init wsX4_init ({ frames := 8, cells := 14, slots := 120, locals := 160 }) 14 120 D [.ref h] [(h, .inr (4, [.null, .null, .null, .null, .int (nI 0)]))] (fun _ => none) (fun u => [(h, .inr (4, [.ref u.1, .ref u.2.1, .ref u.2.2.1, .ref u.2.2.2.1, .int (nI 0)])), (u.1, .inl (D.1 23, 10, .inr (.inl (fun _ => 0)))), (u.2.1, .inl (D.1 20, 10, .inl (fun j => nI ((fun _ => 0) j)))), (u.2.2.1, .inl (D.1 25, 10, .inr (.inr (.inr (.inr (fun i => if i < 10 then some (u.2.2.2.2 i) else none)))))), (u.2.2.2.1, .inl (D.1 20, 10, .inl (fun j => nI ((fun _ => 0) j)))), ((u.2.2.2.2 0), .inl (D.1 20, 8, .inl (fun _ => 0))), ((u.2.2.2.2 1), .inl (D.1 20, 8, .inl (fun _ => 0))), ((u.2.2.2.2 2), .inl (D.1 20, 8, .inl (fun _ => 0))), ((u.2.2.2.2 3), .inl (D.1 20, 8, .inl (fun _ => 0))), ((u.2.2.2.2 4), .inl (D.1 20, 8, .inl (fun _ => 0))), ((u.2.2.2.2 5), .inl (D.1 20, 8, .inl (fun _ => 0))), ((u.2.2.2.2 6), .inl (D.1 20, 8, .inl (fun _ => 0))), ((u.2.2.2.2 7), .inl (D.1 20, 8, .inl (fun _ => 0))), ((u.2.2.2.2 8), .inl (D.1 20, 8, .inl (fun _ => 0))), ((u.2.2.2.2 9), .inl (D.1 20, 8, .inl (fun _ => 0)))]) (fun _ => True) := by
  intro sz
  refine Met.ofW (cc := cX4_init) (maxL := 1) (ret := none) (by decide) rfl ?_
  intro p e s m args below meth c s₁ B hml hv
  obtain ⟨rfl, hsz, hP, hK, hD0, hE⟩ := hv
  have hx := B.exec
  have hb := B.bytes
  have hr := B.returns
  have hts := atoms_spec (ws := wsX4_init) B.pre
  have hown : s.vm.findClass RX4 = some m.cls := findClass_of_methodNamed B.named
  have hlocks := B.notSynchronized
  have hin : meth.name = "<init>" := (name_of_methodNamed B.named B.method).1
  subst hsz
  have hD := hD0.self (sz := s.heap.size)
  generalize hAe : va_A [(h, .inr (4, [.null, .null, .null, .null, .int (nI 0)]))] s.heap.size = A at hD hE ⊢
  have hA : ∀ q : Nat, s.heap.size ≤ q → A q := fun q h => by rw [← hAe]; exact Or.inr h
  have hS : va_S A s.heap s.heap [] := va_S.rf
  have hl := lv_entry ([.ref h]) (n := 1) (Nat.le_of_ble_eq_true rfl)
  have inX4 : ∀ w ∈ wsX40, w ∈ wsX4_init := iX4_init_X4
  have hwd0 := hts (.methodLink RX4 3 objectInit) X4_init_hwd0
  have hwd1 := hts (.instanceMethod objectInit) X4_init_hwd1
  have hwd2 := hts (.code objectInit ⟨#[0xb1]⟩ 1 none) X4_init_hwd2
  have hwd3 := hts (.arrayClass .long) X4_init_hwd3
  have hwd4 := hts (.fieldLink RX4 9 "SignatureSpans$Stamps" "times" "[J") X4_init_hwd4
  have hwd5 := hts (.arrayClass .int) X4_init_hwd5
  have hwd6 := hts (.fieldLink RX4 15 "SignatureSpans$Stamps" "sizes" "[I") X4_init_hwd6
  have hwd7 := hts (.classLink RX4 21 "[[I") X4_init_hwd7
  have hwd8 := hts (.fieldLink RX4 23 "SignatureSpans$Stamps" "digestWords" "[[I") X4_init_hwd8
  have hwd9 := hts (.fieldLink RX4 26 "SignatureSpans$Stamps" "order" "[I") X4_init_hwd9
  refine kgenQ (fun Q hQ => ?_)
  rw [lg_entry_eq]
  generalize (lg_sl ([.ref h]) ++ List.replicate (1 - (lg_sl ([.ref h])).length) Slot.unset).toArray = ls at hl ⊢
  have hl : lv_has ls 1 [(0, .ref h)] := hl
  refine lv_aload_n hx hb dX4_init_0 rfl (lv_at hl 0 rfl) ?_
  refine W.objInit hx hb hown hwd0 hwd1 hwd2 rfl (by rw [hml]; exact hl.1) rfl dX4_init_1 (Nat.le_of_ble_eq_true rfl) (Nat.le_of_ble_eq_true rfl) ?_
  refine W.eq (g2 := F0 m 4 ls []) rfl ?_
  refine lv_aload_n hx hb dX4_init_4 rfl (lv_at hl 0 rfl) ?_
  refine lv_bipush (v := nI 10) hx hb dX4_init_5 (by decide) ?_
  refine kn_newa (atype := .long) (a0 := (10, .inr (.inl (fun _ => 0)))) (ty := .long) (N' := 10) hx hb hwd3 rfl (fun C h9 => by cases h9) hK hP hD hS hA 3 rfl (fun _ => rfl) (by decide) (by decide) (Nat.le_of_ble_eq_true rfl) (Nat.le_of_ble_eq_true rfl) dX4_init_7 (fun q7 H hP hD hS => ?_)
  have hP : va_P D kC [(h, .inr (4, [.null, .null, .null, .null, .int (nI 0)])), (q7, .inl (D.1 23, 10, .inr (.inl (fun _ => 0))))] _ := hP
  have hD : va_D A [(h, .inr (4, [.null, .null, .null, .null, .int (nI 0)])), (q7, .inl (D.1 23, 10, .inr (.inl (fun _ => 0))))] := hD
  refine W.widen (k := 1) (n := 10) (Nat.le_refl _) (Nat.le_refl _) ?_
  refine va_putF (D := D) (ci := 4) (v := .ref q7) (ty := .array .long) (C := RX4) (T := TX4) (N := 5) hx hb hts inX4 tyX4 tyX4_ok nmX4 hown hK hP hD hS 0 rfl rfl 0 (by decide) hwd4 (fun _ h9 => h9) rfl hin rfl (by decide +kernel) rfl rfl (Nat.le_of_ble_eq_true rfl) dX4_init_9 (fun H locs hP hD hS => ?_)
  have hP : va_P D kC [(h, .inr (4, [.ref q7, .null, .null, .null, .int (nI 0)])), (q7, .inl (D.1 23, 10, .inr (.inl (fun _ => 0))))] _ := hP
  have hD : va_D A [(h, .inr (4, [.ref q7, .null, .null, .null, .int (nI 0)])), (q7, .inl (D.1 23, 10, .inr (.inl (fun _ => 0))))] := hD
  refine lv_aload_n hx hb dX4_init_12 rfl (lv_at hl 0 rfl) ?_
  refine lv_bipush (v := nI 10) hx hb dX4_init_13 (by decide) ?_
  refine kn_newa (atype := .int) (a0 := (10, .inl (fun _ => 0))) (ty := .int) (N' := 10) hx hb hwd5 rfl (fun C h9 => by cases h9) hK hP hD hS hA 0 rfl (fun _ => rfl) (by decide) (by decide) (Nat.le_of_ble_eq_true rfl) (Nat.le_of_ble_eq_true rfl) dX4_init_15 (fun q15 H hP hD hS => ?_)
  have hP : va_P D kC [(h, .inr (4, [.ref q7, .null, .null, .null, .int (nI 0)])), (q7, .inl (D.1 23, 10, .inr (.inl (fun _ => 0)))), (q15, .inl (D.1 20, 10, .inl (fun _ => 0)))] _ := hP
  have hD : va_D A [(h, .inr (4, [.ref q7, .null, .null, .null, .int (nI 0)])), (q7, .inl (D.1 23, 10, .inr (.inl (fun _ => 0)))), (q15, .inl (D.1 20, 10, .inl (fun _ => 0)))] := hD
  refine W.widen (k := 2) (n := 20) (Nat.le_refl _) (Nat.le_refl _) ?_
  refine va_putF (D := D) (ci := 4) (v := .ref q15) (ty := .array .int) (C := RX4) (T := TX4) (N := 5) hx hb hts inX4 tyX4 tyX4_ok nmX4 hown hK hP hD hS 0 rfl rfl 1 (by decide) hwd6 (fun _ h9 => h9) rfl hin rfl (by decide +kernel) rfl rfl (Nat.le_of_ble_eq_true rfl) dX4_init_17 (fun H locs hP hD hS => ?_)
  have hP : va_P D kC [(h, .inr (4, [.ref q7, .ref q15, .null, .null, .int (nI 0)])), (q7, .inl (D.1 23, 10, .inr (.inl (fun _ => 0)))), (q15, .inl (D.1 20, 10, .inl (fun _ => 0)))] _ := hP
  have hD : va_D A [(h, .inr (4, [.ref q7, .ref q15, .null, .null, .int (nI 0)])), (q7, .inl (D.1 23, 10, .inr (.inl (fun _ => 0)))), (q15, .inl (D.1 20, 10, .inl (fun _ => 0)))] := hD
  refine lv_aload_n hx hb dX4_init_20 rfl (lv_at hl 0 rfl) ?_
  refine lv_bipush (v := nI 10) hx hb dX4_init_21 (by decide) ?_
  refine lv_bipush (v := nI 8) hx hb dX4_init_23 (by decide) ?_
  refine kn_mna (ty := .int) (N' := 10) (K' := 8) (z := (8, .inl (fun _ => 0))) (cy := D.1 20) hx hb hown hwd7 hE.2.2.2.2.2.2.2 hwd5 (hK.2 0 _ rfl).2 hK hP hD hS hA 5 rfl (by decide) (by decide) (by decide) (by decide) (by decide) rfl rfl (Nat.le_of_ble_eq_true rfl) (Nat.le_of_ble_eq_true rfl) (fun _ => rfl) dX4_init_25 (fun q25 r25 H hP hD hS => ?_)
  have hP : va_P D kC [(h, .inr (4, [.ref q7, .ref q15, .null, .null, .int (nI 0)])), (q7, .inl (D.1 23, 10, .inr (.inl (fun _ => 0)))), (q15, .inl (D.1 20, 10, .inl (fun _ => 0))), (q25, .inl (D.1 25, 10, .inr (.inr (.inr (.inr (fun i => if i < 10 then some (r25 i) else none)))))), ((r25 0), .inl (D.1 20, 8, .inl (fun _ => 0))), ((r25 1), .inl (D.1 20, 8, .inl (fun _ => 0))), ((r25 2), .inl (D.1 20, 8, .inl (fun _ => 0))), ((r25 3), .inl (D.1 20, 8, .inl (fun _ => 0))), ((r25 4), .inl (D.1 20, 8, .inl (fun _ => 0))), ((r25 5), .inl (D.1 20, 8, .inl (fun _ => 0))), ((r25 6), .inl (D.1 20, 8, .inl (fun _ => 0))), ((r25 7), .inl (D.1 20, 8, .inl (fun _ => 0))), ((r25 8), .inl (D.1 20, 8, .inl (fun _ => 0))), ((r25 9), .inl (D.1 20, 8, .inl (fun _ => 0)))] _ := hP
  have hD : va_D A [(h, .inr (4, [.ref q7, .ref q15, .null, .null, .int (nI 0)])), (q7, .inl (D.1 23, 10, .inr (.inl (fun _ => 0)))), (q15, .inl (D.1 20, 10, .inl (fun _ => 0))), (q25, .inl (D.1 25, 10, .inr (.inr (.inr (.inr (fun i => if i < 10 then some (r25 i) else none)))))), ((r25 0), .inl (D.1 20, 8, .inl (fun _ => 0))), ((r25 1), .inl (D.1 20, 8, .inl (fun _ => 0))), ((r25 2), .inl (D.1 20, 8, .inl (fun _ => 0))), ((r25 3), .inl (D.1 20, 8, .inl (fun _ => 0))), ((r25 4), .inl (D.1 20, 8, .inl (fun _ => 0))), ((r25 5), .inl (D.1 20, 8, .inl (fun _ => 0))), ((r25 6), .inl (D.1 20, 8, .inl (fun _ => 0))), ((r25 7), .inl (D.1 20, 8, .inl (fun _ => 0))), ((r25 8), .inl (D.1 20, 8, .inl (fun _ => 0))), ((r25 9), .inl (D.1 20, 8, .inl (fun _ => 0)))] := hD
  refine W.widen (k := 13) (n := 110) (Nat.le_refl _) (Nat.le_refl _) ?_
  refine va_putF (D := D) (ci := 4) (v := .ref q25) (ty := .array (.array .int)) (C := RX4) (T := TX4) (N := 5) hx hb hts inX4 tyX4 tyX4_ok nmX4 hown hK hP hD hS 0 rfl rfl 2 (by decide) hwd8 (fun _ h9 => h9) rfl hin rfl (by decide +kernel) rfl rfl (Nat.le_of_ble_eq_true rfl) dX4_init_29 (fun H locs hP hD hS => ?_)
  have hP : va_P D kC [(h, .inr (4, [.ref q7, .ref q15, .ref q25, .null, .int (nI 0)])), (q7, .inl (D.1 23, 10, .inr (.inl (fun _ => 0)))), (q15, .inl (D.1 20, 10, .inl (fun _ => 0))), (q25, .inl (D.1 25, 10, .inr (.inr (.inr (.inr (fun i => if i < 10 then some (r25 i) else none)))))), ((r25 0), .inl (D.1 20, 8, .inl (fun _ => 0))), ((r25 1), .inl (D.1 20, 8, .inl (fun _ => 0))), ((r25 2), .inl (D.1 20, 8, .inl (fun _ => 0))), ((r25 3), .inl (D.1 20, 8, .inl (fun _ => 0))), ((r25 4), .inl (D.1 20, 8, .inl (fun _ => 0))), ((r25 5), .inl (D.1 20, 8, .inl (fun _ => 0))), ((r25 6), .inl (D.1 20, 8, .inl (fun _ => 0))), ((r25 7), .inl (D.1 20, 8, .inl (fun _ => 0))), ((r25 8), .inl (D.1 20, 8, .inl (fun _ => 0))), ((r25 9), .inl (D.1 20, 8, .inl (fun _ => 0)))] _ := hP
  have hD : va_D A [(h, .inr (4, [.ref q7, .ref q15, .ref q25, .null, .int (nI 0)])), (q7, .inl (D.1 23, 10, .inr (.inl (fun _ => 0)))), (q15, .inl (D.1 20, 10, .inl (fun _ => 0))), (q25, .inl (D.1 25, 10, .inr (.inr (.inr (.inr (fun i => if i < 10 then some (r25 i) else none)))))), ((r25 0), .inl (D.1 20, 8, .inl (fun _ => 0))), ((r25 1), .inl (D.1 20, 8, .inl (fun _ => 0))), ((r25 2), .inl (D.1 20, 8, .inl (fun _ => 0))), ((r25 3), .inl (D.1 20, 8, .inl (fun _ => 0))), ((r25 4), .inl (D.1 20, 8, .inl (fun _ => 0))), ((r25 5), .inl (D.1 20, 8, .inl (fun _ => 0))), ((r25 6), .inl (D.1 20, 8, .inl (fun _ => 0))), ((r25 7), .inl (D.1 20, 8, .inl (fun _ => 0))), ((r25 8), .inl (D.1 20, 8, .inl (fun _ => 0))), ((r25 9), .inl (D.1 20, 8, .inl (fun _ => 0)))] := hD
  refine lv_aload_n hx hb dX4_init_32 rfl (lv_at hl 0 rfl) ?_
  refine lv_bipush (v := nI 10) hx hb dX4_init_33 (by decide) ?_
  refine kn_newa (atype := .int) (a0 := (10, .inl (fun _ => 0))) (ty := .int) (N' := 10) hx hb hwd5 rfl (fun C h9 => by cases h9) hK hP hD hS hA 0 rfl (fun _ => rfl) (by decide) (by decide) (Nat.le_of_ble_eq_true rfl) (Nat.le_of_ble_eq_true rfl) dX4_init_35 (fun q35 H hP hD hS => ?_)
  have hP : va_P D kC [(h, .inr (4, [.ref q7, .ref q15, .ref q25, .null, .int (nI 0)])), (q7, .inl (D.1 23, 10, .inr (.inl (fun _ => 0)))), (q15, .inl (D.1 20, 10, .inl (fun _ => 0))), (q25, .inl (D.1 25, 10, .inr (.inr (.inr (.inr (fun i => if i < 10 then some (r25 i) else none)))))), ((r25 0), .inl (D.1 20, 8, .inl (fun _ => 0))), ((r25 1), .inl (D.1 20, 8, .inl (fun _ => 0))), ((r25 2), .inl (D.1 20, 8, .inl (fun _ => 0))), ((r25 3), .inl (D.1 20, 8, .inl (fun _ => 0))), ((r25 4), .inl (D.1 20, 8, .inl (fun _ => 0))), ((r25 5), .inl (D.1 20, 8, .inl (fun _ => 0))), ((r25 6), .inl (D.1 20, 8, .inl (fun _ => 0))), ((r25 7), .inl (D.1 20, 8, .inl (fun _ => 0))), ((r25 8), .inl (D.1 20, 8, .inl (fun _ => 0))), ((r25 9), .inl (D.1 20, 8, .inl (fun _ => 0))), (q35, .inl (D.1 20, 10, .inl (fun _ => 0)))] _ := hP
  have hD : va_D A [(h, .inr (4, [.ref q7, .ref q15, .ref q25, .null, .int (nI 0)])), (q7, .inl (D.1 23, 10, .inr (.inl (fun _ => 0)))), (q15, .inl (D.1 20, 10, .inl (fun _ => 0))), (q25, .inl (D.1 25, 10, .inr (.inr (.inr (.inr (fun i => if i < 10 then some (r25 i) else none)))))), ((r25 0), .inl (D.1 20, 8, .inl (fun _ => 0))), ((r25 1), .inl (D.1 20, 8, .inl (fun _ => 0))), ((r25 2), .inl (D.1 20, 8, .inl (fun _ => 0))), ((r25 3), .inl (D.1 20, 8, .inl (fun _ => 0))), ((r25 4), .inl (D.1 20, 8, .inl (fun _ => 0))), ((r25 5), .inl (D.1 20, 8, .inl (fun _ => 0))), ((r25 6), .inl (D.1 20, 8, .inl (fun _ => 0))), ((r25 7), .inl (D.1 20, 8, .inl (fun _ => 0))), ((r25 8), .inl (D.1 20, 8, .inl (fun _ => 0))), ((r25 9), .inl (D.1 20, 8, .inl (fun _ => 0))), (q35, .inl (D.1 20, 10, .inl (fun _ => 0)))] := hD
  refine W.widen (k := 14) (n := 120) (Nat.le_refl _) (Nat.le_refl _) ?_
  refine va_putF (D := D) (ci := 4) (v := .ref q35) (ty := .array .int) (C := RX4) (T := TX4) (N := 5) hx hb hts inX4 tyX4 tyX4_ok nmX4 hown hK hP hD hS 0 rfl rfl 3 (by decide) hwd9 (fun _ h9 => h9) rfl hin rfl (by decide +kernel) rfl rfl (Nat.le_of_ble_eq_true rfl) dX4_init_37 (fun H locs hP hD hS => ?_)
  have hP : va_P D kC [(h, .inr (4, [.ref q7, .ref q15, .ref q25, .ref q35, .int (nI 0)])), (q7, .inl (D.1 23, 10, .inr (.inl (fun _ => 0)))), (q15, .inl (D.1 20, 10, .inl (fun _ => 0))), (q25, .inl (D.1 25, 10, .inr (.inr (.inr (.inr (fun i => if i < 10 then some (r25 i) else none)))))), ((r25 0), .inl (D.1 20, 8, .inl (fun _ => 0))), ((r25 1), .inl (D.1 20, 8, .inl (fun _ => 0))), ((r25 2), .inl (D.1 20, 8, .inl (fun _ => 0))), ((r25 3), .inl (D.1 20, 8, .inl (fun _ => 0))), ((r25 4), .inl (D.1 20, 8, .inl (fun _ => 0))), ((r25 5), .inl (D.1 20, 8, .inl (fun _ => 0))), ((r25 6), .inl (D.1 20, 8, .inl (fun _ => 0))), ((r25 7), .inl (D.1 20, 8, .inl (fun _ => 0))), ((r25 8), .inl (D.1 20, 8, .inl (fun _ => 0))), ((r25 9), .inl (D.1 20, 8, .inl (fun _ => 0))), (q35, .inl (D.1 20, 10, .inl (fun _ => 0)))] _ := hP
  have hD : va_D A [(h, .inr (4, [.ref q7, .ref q15, .ref q25, .ref q35, .int (nI 0)])), (q7, .inl (D.1 23, 10, .inr (.inl (fun _ => 0)))), (q15, .inl (D.1 20, 10, .inl (fun _ => 0))), (q25, .inl (D.1 25, 10, .inr (.inr (.inr (.inr (fun i => if i < 10 then some (r25 i) else none)))))), ((r25 0), .inl (D.1 20, 8, .inl (fun _ => 0))), ((r25 1), .inl (D.1 20, 8, .inl (fun _ => 0))), ((r25 2), .inl (D.1 20, 8, .inl (fun _ => 0))), ((r25 3), .inl (D.1 20, 8, .inl (fun _ => 0))), ((r25 4), .inl (D.1 20, 8, .inl (fun _ => 0))), ((r25 5), .inl (D.1 20, 8, .inl (fun _ => 0))), ((r25 6), .inl (D.1 20, 8, .inl (fun _ => 0))), ((r25 7), .inl (D.1 20, 8, .inl (fun _ => 0))), ((r25 8), .inl (D.1 20, 8, .inl (fun _ => 0))), ((r25 9), .inl (D.1 20, 8, .inl (fun _ => 0))), (q35, .inl (D.1 20, 10, .inl (fun _ => 0)))] := hD
  rw [hQ]
  have hP9 : va_P D kC [(h, .inr (4, [.ref q7, .ref q15, .ref q25, .ref q35, .int (nI 0)])), (q7, .inl (D.1 23, 10, .inr (.inl (fun _ => 0)))), (q15, .inl (D.1 20, 10, .inl (fun j => nI ((fun _ => 0) j)))), (q25, .inl (D.1 25, 10, .inr (.inr (.inr (.inr (fun i => if i < 10 then some (r25 i) else none)))))), (q35, .inl (D.1 20, 10, .inl (fun j => nI ((fun _ => 0) j)))), ((r25 0), .inl (D.1 20, 8, .inl (fun _ => 0))), ((r25 1), .inl (D.1 20, 8, .inl (fun _ => 0))), ((r25 2), .inl (D.1 20, 8, .inl (fun _ => 0))), ((r25 3), .inl (D.1 20, 8, .inl (fun _ => 0))), ((r25 4), .inl (D.1 20, 8, .inl (fun _ => 0))), ((r25 5), .inl (D.1 20, 8, .inl (fun _ => 0))), ((r25 6), .inl (D.1 20, 8, .inl (fun _ => 0))), ((r25 7), .inl (D.1 20, 8, .inl (fun _ => 0))), ((r25 8), .inl (D.1 20, 8, .inl (fun _ => 0))), ((r25 9), .inl (D.1 20, 8, .inl (fun _ => 0)))] _ := (hP.sub [0, 1, 2, 3, 14, 4, 5, 6, 7, 8, 9, 10, 11, 12, 13] rfl)
  have hD9 : va_D A [(h, .inr (4, [.ref q7, .ref q15, .ref q25, .ref q35, .int (nI 0)])), (q7, .inl (D.1 23, 10, .inr (.inl (fun _ => 0)))), (q15, .inl (D.1 20, 10, .inl (fun j => nI ((fun _ => 0) j)))), (q25, .inl (D.1 25, 10, .inr (.inr (.inr (.inr (fun i => if i < 10 then some (r25 i) else none)))))), (q35, .inl (D.1 20, 10, .inl (fun j => nI ((fun _ => 0) j)))), ((r25 0), .inl (D.1 20, 8, .inl (fun _ => 0))), ((r25 1), .inl (D.1 20, 8, .inl (fun _ => 0))), ((r25 2), .inl (D.1 20, 8, .inl (fun _ => 0))), ((r25 3), .inl (D.1 20, 8, .inl (fun _ => 0))), ((r25 4), .inl (D.1 20, 8, .inl (fun _ => 0))), ((r25 5), .inl (D.1 20, 8, .inl (fun _ => 0))), ((r25 6), .inl (D.1 20, 8, .inl (fun _ => 0))), ((r25 7), .inl (D.1 20, 8, .inl (fun _ => 0))), ((r25 8), .inl (D.1 20, 8, .inl (fun _ => 0))), ((r25 9), .inl (D.1 20, 8, .inl (fun _ => 0)))] := (hD.sub [0, 1, 2, 3, 14, 4, 5, 6, 7, 8, 9, 10, 11, 12, 13] (by decide) rfl)
  exact W.vret hx hb hr (fun tq ht hW => ⟨⟨(q7, q15, q25, q35, r25), rfl, trivial, by rw [ht]; exact hP9, va_K.moved hW.alike hK, hD9⟩, hS.F ht⟩) hS.2.2 dX4_init_40

theorem iX5_init_X0 : ∀ w ∈ wsX00, w ∈ wsX5_init := by decide +kernel
theorem iX5_init_X1 : ∀ w ∈ wsX10, w ∈ wsX5_init := by decide +kernel
theorem iX5_init_X2 : ∀ w ∈ wsX20, w ∈ wsX5_init := by decide +kernel
theorem iX5_init_X4 : ∀ w ∈ wsX40, w ∈ wsX5_init := by decide +kernel
theorem iX5_init_X5 : ∀ w ∈ wsX50, w ∈ wsX5_init := by decide +kernel
theorem X5_init_hwd0 : (.methodLink RX5 1 objectInit : Cond) ∈ wsX5_init := by decide +kernel
theorem X5_init_hwd1 : (.instanceMethod objectInit : Cond) ∈ wsX5_init := by decide +kernel
theorem X5_init_hwd2 : (.code objectInit ⟨#[0xb1]⟩ 1 none : Cond) ∈ wsX5_init := by decide +kernel
theorem X5_init_hwd3 : (.arrayClass .byte : Cond) ∈ wsX5_init := by decide +kernel
theorem X5_init_hwd4 : (.fieldLink RX5 9 "SignatureSpans" "file" "[B" : Cond) ∈ wsX5_init := by decide +kernel
theorem X5_init_hwd5 : (.classLink RX5 13 RX1 : Cond) ∈ wsX5_init := by decide +kernel
theorem X5_init_hwd6 : (.instantiable RX1 4 : Cond) ∈ wsX5_init := by decide +kernel
theorem X5_init_hwd7 : (.initialized RX1 : Cond) ∈ wsX5_init := by decide +kernel
theorem X5_init_hwd8 : (.instanceMethod yX1_init : Cond) ∈ wsX5_init := by decide +kernel
theorem X5_init_hwd9 : (.fieldLink RX5 16 "SignatureSpans" "places" "LSignatureSpans$Places;" : Cond) ∈ wsX5_init := by decide +kernel
theorem X5_init_hwd10 : (.classLink RX5 20 RX3 : Cond) ∈ wsX5_init := by decide +kernel
theorem X5_init_hwd11 : (.fieldLink RX5 22 "SignatureSpans" "signatures" "[LSignatureSpans$Signature;" : Cond) ∈ wsX5_init := by decide +kernel
theorem X5_init_hwd12 : (.classLink RX5 26 RX0 : Cond) ∈ wsX5_init := by decide +kernel
theorem X5_init_hwd13 : (.instantiable RX0 3 : Cond) ∈ wsX5_init := by decide +kernel
theorem X5_init_hwd14 : (.initialized RX0 : Cond) ∈ wsX5_init := by decide +kernel
theorem X5_init_hwd15 : (.instanceMethod yX0_init : Cond) ∈ wsX5_init := by decide +kernel
theorem X5_init_hwd16 : (.fieldLink RX5 29 "SignatureSpans" "changes" "LSignatureSpans$Changes;" : Cond) ∈ wsX5_init := by decide +kernel
theorem X5_init_hwd17 : (.classLink RX5 33 RX4 : Cond) ∈ wsX5_init := by decide +kernel
theorem X5_init_hwd18 : (.instantiable RX4 5 : Cond) ∈ wsX5_init := by decide +kernel
theorem X5_init_hwd19 : (.initialized RX4 : Cond) ∈ wsX5_init := by decide +kernel
theorem X5_init_hwd20 : (.instanceMethod yX4_init : Cond) ∈ wsX5_init := by decide +kernel
theorem X5_init_hwd21 : (.fieldLink RX5 36 "SignatureSpans" "stamps" "LSignatureSpans$Stamps;" : Cond) ∈ wsX5_init := by decide +kernel
theorem X5_init_hwd22 : (.classLink RX5 40 RX2 : Cond) ∈ wsX5_init := by decide +kernel
theorem X5_init_hwd23 : (.instantiable RX2 4 : Cond) ∈ wsX5_init := by decide +kernel
theorem X5_init_hwd24 : (.initialized RX2 : Cond) ∈ wsX5_init := by decide +kernel
theorem X5_init_hwd25 : (.instanceMethod yX2_init : Cond) ∈ wsX5_init := by decide +kernel
theorem X5_init_hwd26 : (.fieldLink RX5 43 "SignatureSpans" "sha" "LSignatureSpans$Sha256;" : Cond) ∈ wsX5_init := by decide +kernel
set_option maxHeartbeats 4000000 in
set_option maxRecDepth 100000 in
/-- a new object -/
theorem c_X5_init (l : Launch) (D : va_G) (h : Nat) : kM (S := (Nat → Nat) × (Nat → Nat)) l yX5_init wsX5_init ({ frames := 9, cells := 28, slots := 3356, locals := 220 }) 28 3356 D [.ref h] [(h, .inr (5, [.null, .int (nI 0), .null, .null, .int (nI 0), .int (nI 0), .null, .null, .null]))] (fun _ => none) (fun u => [(h, .inr (5, [.ref (u.1 0), .int (nI 0), .ref (u.1 1), .ref (u.1 5), .int (nI 0), .int (nI 0), .ref (u.1 6), .ref (u.1 9), .ref (u.1 14)])), ((u.1 0), .inl (D.1 21, 1500, .inl (fun _ => 0))), ((u.1 1), .inr (1, [.ref (u.1 2), .ref (u.1 3), .ref (u.1 4), .int (nI 0)])), ((u.1 2), .inl (D.1 20, 8, .inl (fun j => nI ((fun _ => 0) j)))), ((u.1 3), .inl (D.1 20, 8, .inl (fun j => nI ((fun _ => 0) j)))), ((u.1 4), .inl (D.1 22, 8, .inl (fun _ => 0))), ((u.1 5), .inl (D.1 24, 8, .inr (.inr (.inr (.inr (fun _ => none)))))), ((u.1 6), .inr (0, [.ref (u.1 7), .ref (u.1 8), .int (nI 0)])), ((u.1 7), .inl (D.1 20, 40, .inl (fun j => nI ((fun _ => 0) j)))), ((u.1 8), .inl (D.1 20, 40, .inl (fun j => nI ((fun _ => 0) j)))), ((u.1 9), .inr (4, [.ref (u.1 10), .ref (u.1 11), .ref (u.1 12), .ref (u.1 13), .int (nI 0)])), ((u.1 10), .inl (D.1 23, 10, .inr (.inl (fun _ => 0)))), ((u.1 11), .inl (D.1 20, 10, .inl (fun j => nI ((fun _ => 0) j)))), ((u.1 12), .inl (D.1 25, 10, .inr (.inr (.inr (.inr (fun i => if i < 10 then some (u.2 i) else none)))))), ((u.1 13), .inl (D.1 20, 10, .inl (fun j => nI ((fun _ => 0) j)))), ((u.2 0), .inl (D.1 20, 8, .inl (fun _ => 0))), ((u.2 1), .inl (D.1 20, 8, .inl (fun _ => 0))), ((u.2 2), .inl (D.1 20, 8, .inl (fun _ => 0))), ((u.2 3), .inl (D.1 20, 8, .inl (fun _ => 0))), ((u.2 4), .inl (D.1 20, 8, .inl (fun _ => 0))), ((u.2 5), .inl (D.1 20, 8, .inl (fun _ => 0))), ((u.2 6), .inl (D.1 20, 8, .inl (fun _ => 0))), ((u.2 7), .inl (D.1 20, 8, .inl (fun _ => 0))), ((u.2 8), .inl (D.1 20, 8, .inl (fun _ => 0))), ((u.2 9), .inl (D.1 20, 8, .inl (fun _ => 0))), ((u.1 14), .inr (2, [.ref (u.1 15), .int (nI 0), .ref (u.1 16), .ref (u.1 17)])), ((u.1 15), .inl (D.1 21, 1536, .inl (fun _ => 0))), ((u.1 16), .inl (D.1 20, 8, .inl (fun _ => 0))), ((u.1 17), .inl (D.1 20, 64, .inl (fun _ => 0)))]) (fun _ => True) := by
  intro sz
  refine Met.ofW (cc := cX5_init) (maxL := 1) (ret := none) (by decide) rfl ?_
  intro p e s m args below meth c s₁ B hml hv
  obtain ⟨rfl, hsz, hP, hK, hD0, hE⟩ := hv
  have hx := B.exec
  have hb := B.bytes
  have hr := B.returns
  have hts := atoms_spec (ws := wsX5_init) B.pre
  have hown : s.vm.findClass RX5 = some m.cls := findClass_of_methodNamed B.named
  have hlocks := B.notSynchronized
  have hin : meth.name = "<init>" := (name_of_methodNamed B.named B.method).1
  subst hsz
  have hD := hD0.self (sz := s.heap.size)
  generalize hAe : va_A [(h, .inr (5, [.null, .int (nI 0), .null, .null, .int (nI 0), .int (nI 0), .null, .null, .null]))] s.heap.size = A at hD hE ⊢
  have hA : ∀ q : Nat, s.heap.size ≤ q → A q := fun q h => by rw [← hAe]; exact Or.inr h
  have hS : va_S A s.heap s.heap [] := va_S.rf
  have hl := lv_entry ([.ref h]) (n := 1) (Nat.le_of_ble_eq_true rfl)
  have inX0 : ∀ w ∈ wsX00, w ∈ wsX5_init := iX5_init_X0
  have inX1 : ∀ w ∈ wsX10, w ∈ wsX5_init := iX5_init_X1
  have inX2 : ∀ w ∈ wsX20, w ∈ wsX5_init := iX5_init_X2
  have inX4 : ∀ w ∈ wsX40, w ∈ wsX5_init := iX5_init_X4
  have inX5 : ∀ w ∈ wsX50, w ∈ wsX5_init := iX5_init_X5
  have hwd0 := hts (.methodLink RX5 1 objectInit) X5_init_hwd0
  have hwd1 := hts (.instanceMethod objectInit) X5_init_hwd1
  have hwd2 := hts (.code objectInit ⟨#[0xb1]⟩ 1 none) X5_init_hwd2
  have hwd3 := hts (.arrayClass .byte) X5_init_hwd3
  have hwd4 := hts (.fieldLink RX5 9 "SignatureSpans" "file" "[B") X5_init_hwd4
  have hwd5 := hts (.classLink RX5 13 RX1) X5_init_hwd5
  have hwd6 := hts (.instantiable RX1 4) X5_init_hwd6
  have hwd7 := hts (.initialized RX1) X5_init_hwd7
  have hwd8 := hts (.instanceMethod yX1_init) X5_init_hwd8
  have hwd9 := hts (.fieldLink RX5 16 "SignatureSpans" "places" "LSignatureSpans$Places;") X5_init_hwd9
  have hwd10 := hts (.classLink RX5 20 RX3) X5_init_hwd10
  have hwd11 := hts (.fieldLink RX5 22 "SignatureSpans" "signatures" "[LSignatureSpans$Signature;") X5_init_hwd11
  have hwd12 := hts (.classLink RX5 26 RX0) X5_init_hwd12
  have hwd13 := hts (.instantiable RX0 3) X5_init_hwd13
  have hwd14 := hts (.initialized RX0) X5_init_hwd14
  have hwd15 := hts (.instanceMethod yX0_init) X5_init_hwd15
  have hwd16 := hts (.fieldLink RX5 29 "SignatureSpans" "changes" "LSignatureSpans$Changes;") X5_init_hwd16
  have hwd17 := hts (.classLink RX5 33 RX4) X5_init_hwd17
  have hwd18 := hts (.instantiable RX4 5) X5_init_hwd18
  have hwd19 := hts (.initialized RX4) X5_init_hwd19
  have hwd20 := hts (.instanceMethod yX4_init) X5_init_hwd20
  have hwd21 := hts (.fieldLink RX5 36 "SignatureSpans" "stamps" "LSignatureSpans$Stamps;") X5_init_hwd21
  have hwd22 := hts (.classLink RX5 40 RX2) X5_init_hwd22
  have hwd23 := hts (.instantiable RX2 4) X5_init_hwd23
  have hwd24 := hts (.initialized RX2) X5_init_hwd24
  have hwd25 := hts (.instanceMethod yX2_init) X5_init_hwd25
  have hwd26 := hts (.fieldLink RX5 43 "SignatureSpans" "sha" "LSignatureSpans$Sha256;") X5_init_hwd26
  refine kgenQ (fun Q hQ => ?_)
  rw [lg_entry_eq]
  generalize (lg_sl ([.ref h]) ++ List.replicate (1 - (lg_sl ([.ref h])).length) Slot.unset).toArray = ls at hl ⊢
  have hl : lv_has ls 1 [(0, .ref h)] := hl
  refine lv_aload_n hx hb dX5_init_0 rfl (lv_at hl 0 rfl) ?_
  refine W.objInit hx hb hown hwd0 hwd1 hwd2 rfl (by rw [hml]; exact hl.1) rfl dX5_init_1 (Nat.le_of_ble_eq_true rfl) (Nat.le_of_ble_eq_true rfl) ?_
  refine W.eq (g2 := F0 m 4 ls []) rfl ?_
  refine lv_aload_n hx hb dX5_init_4 rfl (lv_at hl 0 rfl) ?_
  refine lv_sipush (v := nI 1500) hx hb dX5_init_5 (by decide) ?_
  refine kn_newa (atype := .byte) (a0 := (1500, .inl (fun _ => 0))) (ty := .byte) (N' := 1500) hx hb hwd3 rfl (fun C h9 => by cases h9) hK hP hD hS hA 1 rfl (fun _ => rfl) (by decide) (by decide) (Nat.le_of_ble_eq_true rfl) (Nat.le_of_ble_eq_true rfl) dX5_init_8 (fun q8 H hP hD hS => ?_)
  have hP : va_P D kC [(h, .inr (5, [.null, .int (nI 0), .null, .null, .int (nI 0), .int (nI 0), .null, .null, .null])), (q8, .inl (D.1 21, 1500, .inl (fun _ => 0)))] _ := hP
  have hD : va_D A [(h, .inr (5, [.null, .int (nI 0), .null, .null, .int (nI 0), .int (nI 0), .null, .null, .null])), (q8, .inl (D.1 21, 1500, .inl (fun _ => 0)))] := hD
  refine W.widen (k := 1) (n := 1500) (Nat.le_refl _) (Nat.le_refl _) ?_
  refine va_putF (D := D) (ci := 5) (v := .ref q8) (ty := .array .byte) (C := RX5) (T := TX5) (N := 9) hx hb hts inX5 tyX5 tyX5_ok nmX5 hown hK hP hD hS 0 rfl rfl 0 (by decide) hwd4 (fun _ h9 => h9) rfl hin rfl (by decide +kernel) rfl rfl (Nat.le_of_ble_eq_true rfl) dX5_init_10 (fun H locs hP hD hS => ?_)
  have hP : va_P D kC [(h, .inr (5, [.ref q8, .int (nI 0), .null, .null, .int (nI 0), .int (nI 0), .null, .null, .null])), (q8, .inl (D.1 21, 1500, .inl (fun _ => 0)))] _ := hP
  have hD : va_D A [(h, .inr (5, [.ref q8, .int (nI 0), .null, .null, .int (nI 0), .int (nI 0), .null, .null, .null])), (q8, .inl (D.1 21, 1500, .inl (fun _ => 0)))] := hD
  refine lv_aload_n hx hb dX5_init_13 rfl (lv_at hl 0 rfl) ?_
  refine va_new (ci := 1) (fs := [.null, .null, .null, .int (nI 0)]) (C := RX1) (T := TX1) (N := 4) hx hb hts inX1 tyX1 tyX1_ok hown hwd5 hwd6 hwd7 hK hP hD hS hA rfl (fun j hj => by rcases (show j = 0 ∨ j = 1 ∨ j = 2 ∨ j = 3 by omega) with rfl | rfl | rfl | rfl <;> rfl) (Nat.le_of_ble_eq_true rfl) (Nat.le_of_ble_eq_true rfl) dX5_init_14 (fun q14 H hP hD hS => ?_)
  have hP : va_P D kC [(h, .inr (5, [.ref q8, .int (nI 0), .null, .null, .int (nI 0), .int (nI 0), .null, .null, .null])), (q8, .inl (D.1 21, 1500, .inl (fun _ => 0))), (q14, .inr (1, [.null, .null, .null, .int (nI 0)]))] _ := hP
  have hD : va_D A [(h, .inr (5, [.ref q8, .int (nI 0), .null, .null, .int (nI 0), .int (nI 0), .null, .null, .null])), (q8, .inl (D.1 21, 1500, .inl (fun _ => 0))), (q14, .inr (1, [.null, .null, .null, .int (nI 0)]))] := hD
  refine W.widen (k := 2) (n := 1504) (Nat.le_refl _) (Nat.le_refl _) ?_
  refine lv_dup hx hb dX5_init_17 rfl ?_
  refine kcIN (As := []) (rest := [.ref q14, .ref h]) (ws := [(q14, .inr (1, [.null, .null, .null, .int (nI 0)]))]) (wr := [(h, .inr (5, [.ref q8, .int (nI 0), .null, .null, .int (nI 0), .int (nI 0), .null, .null, .null])), (q8, .inl (D.1 21, 1500, .inl (fun _ => 0)))]) ⟨hx, hb, hml, hown, hts⟩ (c_X1_init l D q14) (⟨va_cnB 0 hts gX5_init_X1_init_n15 rfl rfl rfl (hE.2.2.2.2.1 (.methodLinkNest RX5 15 yX1_init RX5) (by decide +kernel)) hwd7 (by decide +kernel) ⟨Nat.le_of_ble_eq_true rfl, Nat.le_of_ble_eq_true rfl⟩, rfl, hwd8⟩) hK hE hP hD hS hA [2] [0, 1] rfl rfl rfl rfl (by decide) rfl hl.1 rfl (Nat.le_of_ble_eq_true rfl) dX5_init_18 ⟨Nat.le_of_ble_eq_true rfl, Nat.le_of_ble_eq_true rfl⟩ (fun ⟨a_18, b_18, c_18⟩ H locs hpo hP hD hS => ?_)
  have hP : va_P D kC [(h, .inr (5, [.ref q8, .int (nI 0), .null, .null, .int (nI 0), .int (nI 0), .null, .null, .null])), (q8, .inl (D.1 21, 1500, .inl (fun _ => 0))), (q14, .inr (1, [.ref a_18, .ref b_18, .ref c_18, .int (nI 0)])), (a_18, .inl (D.1 20, 8, .inl (fun j => nI ((fun _ => 0) j)))), (b_18, .inl (D.1 20, 8, .inl (fun j => nI ((fun _ => 0) j)))), (c_18, .inl (D.1 22, 8, .inl (fun _ => 0)))] _ := hP
  have hD : va_D A [(h, .inr (5, [.ref q8, .int (nI 0), .null, .null, .int (nI 0), .int (nI 0), .null, .null, .null])), (q8, .inl (D.1 21, 1500, .inl (fun _ => 0))), (q14, .inr (1, [.ref a_18, .ref b_18, .ref c_18, .int (nI 0)])), (a_18, .inl (D.1 20, 8, .inl (fun j => nI ((fun _ => 0) j)))), (b_18, .inl (D.1 20, 8, .inl (fun j => nI ((fun _ => 0) j)))), (c_18, .inl (D.1 22, 8, .inl (fun _ => 0)))] := hD
  refine W.eq (g2 := F0 m 21 ls [.ref q14, .ref h]) rfl ?_
  refine W.widen (k := 5) (n := 1528) (Nat.le_of_ble_eq_true rfl) (Nat.le_of_ble_eq_true rfl) ?_
  refine va_putF (D := D) (ci := 5) (v := .ref q14) (ty := .object "SignatureSpans$Places") (C := RX5) (T := TX5) (N := 9) hx hb hts inX5 tyX5 tyX5_ok nmX5 hown hK hP hD hS 0 rfl rfl 2 (by decide) hwd9 (fun _ h9 => h9) rfl hin rfl (by decide +kernel) rfl rfl (Nat.le_of_ble_eq_true rfl) dX5_init_21 (fun H locs hP hD hS => ?_)
  have hP : va_P D kC [(h, .inr (5, [.ref q8, .int (nI 0), .ref q14, .null, .int (nI 0), .int (nI 0), .null, .null, .null])), (q8, .inl (D.1 21, 1500, .inl (fun _ => 0))), (q14, .inr (1, [.ref a_18, .ref b_18, .ref c_18, .int (nI 0)])), (a_18, .inl (D.1 20, 8, .inl (fun j => nI ((fun _ => 0) j)))), (b_18, .inl (D.1 20, 8, .inl (fun j => nI ((fun _ => 0) j)))), (c_18, .inl (D.1 22, 8, .inl (fun _ => 0)))] _ := hP
  have hD : va_D A [(h, .inr (5, [.ref q8, .int (nI 0), .ref q14, .null, .int (nI 0), .int (nI 0), .null, .null, .null])), (q8, .inl (D.1 21, 1500, .inl (fun _ => 0))), (q14, .inr (1, [.ref a_18, .ref b_18, .ref c_18, .int (nI 0)])), (a_18, .inl (D.1 20, 8, .inl (fun j => nI ((fun _ => 0) j)))), (b_18, .inl (D.1 20, 8, .inl (fun j => nI ((fun _ => 0) j)))), (c_18, .inl (D.1 22, 8, .inl (fun _ => 0)))] := hD
  refine lv_aload_n hx hb dX5_init_24 rfl (lv_at hl 0 rfl) ?_
  refine lv_bipush (v := nI 8) hx hb dX5_init_25 (by decide) ?_
  refine kn_newq (N' := 8) hx hb hown hwd10 hE.2.2.2.2.2.2.1 hK hP hD hS hA 4 rfl (by decide) (by decide) (Nat.le_of_ble_eq_true rfl) (Nat.le_of_ble_eq_true rfl) dX5_init_27 (fun q27 H hP hD hS => ?_)
  have hP : va_P D kC [(h, .inr (5, [.ref q8, .int (nI 0), .ref q14, .null, .int (nI 0), .int (nI 0), .null, .null, .null])), (q8, .inl (D.1 21, 1500, .inl (fun _ => 0))), (q14, .inr (1, [.ref a_18, .ref b_18, .ref c_18, .int (nI 0)])), (a_18, .inl (D.1 20, 8, .inl (fun j => nI ((fun _ => 0) j)))), (b_18, .inl (D.1 20, 8, .inl (fun j => nI ((fun _ => 0) j)))), (c_18, .inl (D.1 22, 8, .inl (fun _ => 0))), (q27, .inl (D.1 24, 8, .inr (.inr (.inr (.inr (fun _ => none))))))] _ := hP
  have hD : va_D A [(h, .inr (5, [.ref q8, .int (nI 0), .ref q14, .null, .int (nI 0), .int (nI 0), .null, .null, .null])), (q8, .inl (D.1 21, 1500, .inl (fun _ => 0))), (q14, .inr (1, [.ref a_18, .ref b_18, .ref c_18, .int (nI 0)])), (a_18, .inl (D.1 20, 8, .inl (fun j => nI ((fun _ => 0) j)))), (b_18, .inl (D.1 20, 8, .inl (fun j => nI ((fun _ => 0) j)))), (c_18, .inl (D.1 22, 8, .inl (fun _ => 0))), (q27, .inl (D.1 24, 8, .inr (.inr (.inr (.inr (fun _ => none))))))] := hD
  refine W.widen (k := 6) (n := 1536) (Nat.le_refl _) (Nat.le_refl _) ?_
  refine va_putF (D := D) (ci := 5) (v := .ref q27) (ty := .array (.object "SignatureSpans$Signature")) (C := RX5) (T := TX5) (N := 9) hx hb hts inX5 tyX5 tyX5_ok nmX5 hown hK hP hD hS 0 rfl rfl 3 (by decide) hwd11 (fun _ h9 => h9) rfl hin rfl (by decide +kernel) rfl rfl (Nat.le_of_ble_eq_true rfl) dX5_init_30 (fun H locs hP hD hS => ?_)
  have hP : va_P D kC [(h, .inr (5, [.ref q8, .int (nI 0), .ref q14, .ref q27, .int (nI 0), .int (nI 0), .null, .null, .null])), (q8, .inl (D.1 21, 1500, .inl (fun _ => 0))), (q14, .inr (1, [.ref a_18, .ref b_18, .ref c_18, .int (nI 0)])), (a_18, .inl (D.1 20, 8, .inl (fun j => nI ((fun _ => 0) j)))), (b_18, .inl (D.1 20, 8, .inl (fun j => nI ((fun _ => 0) j)))), (c_18, .inl (D.1 22, 8, .inl (fun _ => 0))), (q27, .inl (D.1 24, 8, .inr (.inr (.inr (.inr (fun _ => none))))))] _ := hP
  have hD : va_D A [(h, .inr (5, [.ref q8, .int (nI 0), .ref q14, .ref q27, .int (nI 0), .int (nI 0), .null, .null, .null])), (q8, .inl (D.1 21, 1500, .inl (fun _ => 0))), (q14, .inr (1, [.ref a_18, .ref b_18, .ref c_18, .int (nI 0)])), (a_18, .inl (D.1 20, 8, .inl (fun j => nI ((fun _ => 0) j)))), (b_18, .inl (D.1 20, 8, .inl (fun j => nI ((fun _ => 0) j)))), (c_18, .inl (D.1 22, 8, .inl (fun _ => 0))), (q27, .inl (D.1 24, 8, .inr (.inr (.inr (.inr (fun _ => none))))))] := hD
  refine lv_aload_n hx hb dX5_init_33 rfl (lv_at hl 0 rfl) ?_
  refine va_new (ci := 0) (fs := [.null, .null, .int (nI 0)]) (C := RX0) (T := TX0) (N := 3) hx hb hts inX0 tyX0 tyX0_ok hown hwd12 hwd13 hwd14 hK hP hD hS hA rfl (fun j hj => by rcases (show j = 0 ∨ j = 1 ∨ j = 2 by omega) with rfl | rfl | rfl <;> rfl) (Nat.le_of_ble_eq_true rfl) (Nat.le_of_ble_eq_true rfl) dX5_init_34 (fun q34 H hP hD hS => ?_)
  have hP : va_P D kC [(h, .inr (5, [.ref q8, .int (nI 0), .ref q14, .ref q27, .int (nI 0), .int (nI 0), .null, .null, .null])), (q8, .inl (D.1 21, 1500, .inl (fun _ => 0))), (q14, .inr (1, [.ref a_18, .ref b_18, .ref c_18, .int (nI 0)])), (a_18, .inl (D.1 20, 8, .inl (fun j => nI ((fun _ => 0) j)))), (b_18, .inl (D.1 20, 8, .inl (fun j => nI ((fun _ => 0) j)))), (c_18, .inl (D.1 22, 8, .inl (fun _ => 0))), (q27, .inl (D.1 24, 8, .inr (.inr (.inr (.inr (fun _ => none)))))), (q34, .inr (0, [.null, .null, .int (nI 0)]))] _ := hP
  have hD : va_D A [(h, .inr (5, [.ref q8, .int (nI 0), .ref q14, .ref q27, .int (nI 0), .int (nI 0), .null, .null, .null])), (q8, .inl (D.1 21, 1500, .inl (fun _ => 0))), (q14, .inr (1, [.ref a_18, .ref b_18, .ref c_18, .int (nI 0)])), (a_18, .inl (D.1 20, 8, .inl (fun j => nI ((fun _ => 0) j)))), (b_18, .inl (D.1 20, 8, .inl (fun j => nI ((fun _ => 0) j)))), (c_18, .inl (D.1 22, 8, .inl (fun _ => 0))), (q27, .inl (D.1 24, 8, .inr (.inr (.inr (.inr (fun _ => none)))))), (q34, .inr (0, [.null, .null, .int (nI 0)]))] := hD
  refine W.widen (k := 7) (n := 1539) (Nat.le_refl _) (Nat.le_refl _) ?_
  refine lv_dup hx hb dX5_init_37 rfl ?_
  refine kcIN (As := []) (rest := [.ref q34, .ref h]) (ws := [(q34, .inr (0, [.null, .null, .int (nI 0)]))]) (wr := [(h, .inr (5, [.ref q8, .int (nI 0), .ref q14, .ref q27, .int (nI 0), .int (nI 0), .null, .null, .null])), (q8, .inl (D.1 21, 1500, .inl (fun _ => 0))), (q14, .inr (1, [.ref a_18, .ref b_18, .ref c_18, .int (nI 0)])), (a_18, .inl (D.1 20, 8, .inl (fun j => nI ((fun _ => 0) j)))), (b_18, .inl (D.1 20, 8, .inl (fun j => nI ((fun _ => 0) j)))), (c_18, .inl (D.1 22, 8, .inl (fun _ => 0))), (q27, .inl (D.1 24, 8, .inr (.inr (.inr (.inr (fun _ => none))))))]) ⟨hx, hb, hml, hown, hts⟩ (c_X0_init l D q34) (⟨va_cnB 0 hts gX5_init_X0_init_n28 rfl rfl rfl (hE.2.2.2.2.1 (.methodLinkNest RX5 28 yX0_init RX5) (by decide +kernel)) hwd14 (by decide +kernel) ⟨Nat.le_of_ble_eq_true rfl, Nat.le_of_ble_eq_true rfl⟩, rfl, hwd15⟩) hK hE hP hD hS hA [7] [0, 1, 2, 3, 4, 5, 6] rfl rfl rfl rfl (by decide) rfl hl.1 rfl (Nat.le_of_ble_eq_true rfl) dX5_init_38 ⟨Nat.le_of_ble_eq_true rfl, Nat.le_of_ble_eq_true rfl⟩ (fun ⟨a_38, b_38⟩ H locs hpo hP hD hS => ?_)
  have hP : va_P D kC [(h, .inr (5, [.ref q8, .int (nI 0), .ref q14, .ref q27, .int (nI 0), .int (nI 0), .null, .null, .null])), (q8, .inl (D.1 21, 1500, .inl (fun _ => 0))), (q14, .inr (1, [.ref a_18, .ref b_18, .ref c_18, .int (nI 0)])), (a_18, .inl (D.1 20, 8, .inl (fun j => nI ((fun _ => 0) j)))), (b_18, .inl (D.1 20, 8, .inl (fun j => nI ((fun _ => 0) j)))), (c_18, .inl (D.1 22, 8, .inl (fun _ => 0))), (q27, .inl (D.1 24, 8, .inr (.inr (.inr (.inr (fun _ => none)))))), (q34, .inr (0, [.ref a_38, .ref b_38, .int (nI 0)])), (a_38, .inl (D.1 20, 40, .inl (fun j => nI ((fun _ => 0) j)))), (b_38, .inl (D.1 20, 40, .inl (fun j => nI ((fun _ => 0) j))))] _ := hP
  have hD : va_D A [(h, .inr (5, [.ref q8, .int (nI 0), .ref q14, .ref q27, .int (nI 0), .int (nI 0), .null, .null, .null])), (q8, .inl (D.1 21, 1500, .inl (fun _ => 0))), (q14, .inr (1, [.ref a_18, .ref b_18, .ref c_18, .int (nI 0)])), (a_18, .inl (D.1 20, 8, .inl (fun j => nI ((fun _ => 0) j)))), (b_18, .inl (D.1 20, 8, .inl (fun j => nI ((fun _ => 0) j)))), (c_18, .inl (D.1 22, 8, .inl (fun _ => 0))), (q27, .inl (D.1 24, 8, .inr (.inr (.inr (.inr (fun _ => none)))))), (q34, .inr (0, [.ref a_38, .ref b_38, .int (nI 0)])), (a_38, .inl (D.1 20, 40, .inl (fun j => nI ((fun _ => 0) j)))), (b_38, .inl (D.1 20, 40, .inl (fun j => nI ((fun _ => 0) j))))] := hD
  refine W.eq (g2 := F0 m 41 ls [.ref q34, .ref h]) rfl ?_
  refine W.widen (k := 9) (n := 1619) (Nat.le_of_ble_eq_true rfl) (Nat.le_of_ble_eq_true rfl) ?_
  refine va_putF (D := D) (ci := 5) (v := .ref q34) (ty := .object "SignatureSpans$Changes") (C := RX5) (T := TX5) (N := 9) hx hb hts inX5 tyX5 tyX5_ok nmX5 hown hK hP hD hS 0 rfl rfl 6 (by decide) hwd16 (fun _ h9 => h9) rfl hin rfl (by decide +kernel) rfl rfl (Nat.le_of_ble_eq_true rfl) dX5_init_41 (fun H locs hP hD hS => ?_)
  have hP : va_P D kC [(h, .inr (5, [.ref q8, .int (nI 0), .ref q14, .ref q27, .int (nI 0), .int (nI 0), .ref q34, .null, .null])), (q8, .inl (D.1 21, 1500, .inl (fun _ => 0))), (q14, .inr (1, [.ref a_18, .ref b_18, .ref c_18, .int (nI 0)])), (a_18, .inl (D.1 20, 8, .inl (fun j => nI ((fun _ => 0) j)))), (b_18, .inl (D.1 20, 8, .inl (fun j => nI ((fun _ => 0) j)))), (c_18, .inl (D.1 22, 8, .inl (fun _ => 0))), (q27, .inl (D.1 24, 8, .inr (.inr (.inr (.inr (fun _ => none)))))), (q34, .inr (0, [.ref a_38, .ref b_38, .int (nI 0)])), (a_38, .inl (D.1 20, 40, .inl (fun j => nI ((fun _ => 0) j)))), (b_38, .inl (D.1 20, 40, .inl (fun j => nI ((fun _ => 0) j))))] _ := hP
  have hD : va_D A [(h, .inr (5, [.ref q8, .int (nI 0), .ref q14, .ref q27, .int (nI 0), .int (nI 0), .ref q34, .null, .null])), (q8, .inl (D.1 21, 1500, .inl (fun _ => 0))), (q14, .inr (1, [.ref a_18, .ref b_18, .ref c_18, .int (nI 0)])), (a_18, .inl (D.1 20, 8, .inl (fun j => nI ((fun _ => 0) j)))), (b_18, .inl (D.1 20, 8, .inl (fun j => nI ((fun _ => 0) j)))), (c_18, .inl (D.1 22, 8, .inl (fun _ => 0))), (q27, .inl (D.1 24, 8, .inr (.inr (.inr (.inr (fun _ => none)))))), (q34, .inr (0, [.ref a_38, .ref b_38, .int (nI 0)])), (a_38, .inl (D.1 20, 40, .inl (fun j => nI ((fun _ => 0) j)))), (b_38, .inl (D.1 20, 40, .inl (fun j => nI ((fun _ => 0) j))))] := hD
  refine lv_aload_n hx hb dX5_init_44 rfl (lv_at hl 0 rfl) ?_
  refine va_new (ci := 4) (fs := [.null, .null, .null, .null, .int (nI 0)]) (C := RX4) (T := TX4) (N := 5) hx hb hts inX4 tyX4 tyX4_ok hown hwd17 hwd18 hwd19 hK hP hD hS hA rfl (fun j hj => by rcases (show j = 0 ∨ j = 1 ∨ j = 2 ∨ j = 3 ∨ j = 4 by omega) with rfl | rfl | rfl | rfl | rfl <;> rfl) (Nat.le_of_ble_eq_true rfl) (Nat.le_of_ble_eq_true rfl) dX5_init_45 (fun q45 H hP hD hS => ?_)
  have hP : va_P D kC [(h, .inr (5, [.ref q8, .int (nI 0), .ref q14, .ref q27, .int (nI 0), .int (nI 0), .ref q34, .null, .null])), (q8, .inl (D.1 21, 1500, .inl (fun _ => 0))), (q14, .inr (1, [.ref a_18, .ref b_18, .ref c_18, .int (nI 0)])), (a_18, .inl (D.1 20, 8, .inl (fun j => nI ((fun _ => 0) j)))), (b_18, .inl (D.1 20, 8, .inl (fun j => nI ((fun _ => 0) j)))), (c_18, .inl (D.1 22, 8, .inl (fun _ => 0))), (q27, .inl (D.1 24, 8, .inr (.inr (.inr (.inr (fun _ => none)))))), (q34, .inr (0, [.ref a_38, .ref b_38, .int (nI 0)])), (a_38, .inl (D.1 20, 40, .inl (fun j => nI ((fun _ => 0) j)))), (b_38, .inl (D.1 20, 40, .inl (fun j => nI ((fun _ => 0) j)))), (q45, .inr (4, [.null, .null, .null, .null, .int (nI 0)]))] _ := hP
  have hD : va_D A [(h, .inr (5, [.ref q8, .int (nI 0), .ref q14, .ref q27, .int (nI 0), .int (nI 0), .ref q34, .null, .null])), (q8, .inl (D.1 21, 1500, .inl (fun _ => 0))), (q14, .inr (1, [.ref a_18, .ref b_18, .ref c_18, .int (nI 0)])), (a_18, .inl (D.1 20, 8, .inl (fun j => nI ((fun _ => 0) j)))), (b_18, .inl (D.1 20, 8, .inl (fun j => nI ((fun _ => 0) j)))), (c_18, .inl (D.1 22, 8, .inl (fun _ => 0))), (q27, .inl (D.1 24, 8, .inr (.inr (.inr (.inr (fun _ => none)))))), (q34, .inr (0, [.ref a_38, .ref b_38, .int (nI 0)])), (a_38, .inl (D.1 20, 40, .inl (fun j => nI ((fun _ => 0) j)))), (b_38, .inl (D.1 20, 40, .inl (fun j => nI ((fun _ => 0) j)))), (q45, .inr (4, [.null, .null, .null, .null, .int (nI 0)]))] := hD
  refine W.widen (k := 10) (n := 1624) (Nat.le_refl _) (Nat.le_refl _) ?_
  refine lv_dup hx hb dX5_init_48 rfl ?_
  refine kcIN (As := []) (rest := [.ref q45, .ref h]) (ws := [(q45, .inr (4, [.null, .null, .null, .null, .int (nI 0)]))]) (wr := [(h, .inr (5, [.ref q8, .int (nI 0), .ref q14, .ref q27, .int (nI 0), .int (nI 0), .ref q34, .null, .null])), (q8, .inl (D.1 21, 1500, .inl (fun _ => 0))), (q14, .inr (1, [.ref a_18, .ref b_18, .ref c_18, .int (nI 0)])), (a_18, .inl (D.1 20, 8, .inl (fun j => nI ((fun _ => 0) j)))), (b_18, .inl (D.1 20, 8, .inl (fun j => nI ((fun _ => 0) j)))), (c_18, .inl (D.1 22, 8, .inl (fun _ => 0))), (q27, .inl (D.1 24, 8, .inr (.inr (.inr (.inr (fun _ => none)))))), (q34, .inr (0, [.ref a_38, .ref b_38, .int (nI 0)])), (a_38, .inl (D.1 20, 40, .inl (fun j => nI ((fun _ => 0) j)))), (b_38, .inl (D.1 20, 40, .inl (fun j => nI ((fun _ => 0) j))))]) ⟨hx, hb, hml, hown, hts⟩ (c_X4_init l D q45) (⟨va_cnB 0 hts gX5_init_X4_init_n35 rfl rfl rfl (hE.2.2.2.2.1 (.methodLinkNest RX5 35 yX4_init RX5) (by decide +kernel)) hwd19 (by decide +kernel) ⟨Nat.le_of_ble_eq_true rfl, Nat.le_of_ble_eq_true rfl⟩, rfl, hwd20⟩) hK hE hP hD hS hA [10] [0, 1, 2, 3, 4, 5, 6, 7, 8, 9] rfl rfl rfl rfl (by decide) rfl hl.1 rfl (Nat.le_of_ble_eq_true rfl) dX5_init_49 ⟨Nat.le_of_ble_eq_true rfl, Nat.le_of_ble_eq_true rfl⟩ (fun ⟨a_49, b_49, c_49, d_49, r_49⟩ H locs hpo hP hD hS => ?_)
  have hP : va_P D kC [(h, .inr (5, [.ref q8, .int (nI 0), .ref q14, .ref q27, .int (nI 0), .int (nI 0), .ref q34, .null, .null])), (q8, .inl (D.1 21, 1500, .inl (fun _ => 0))), (q14, .inr (1, [.ref a_18, .ref b_18, .ref c_18, .int (nI 0)])), (a_18, .inl (D.1 20, 8, .inl (fun j => nI ((fun _ => 0) j)))), (b_18, .inl (D.1 20, 8, .inl (fun j => nI ((fun _ => 0) j)))), (c_18, .inl (D.1 22, 8, .inl (fun _ => 0))), (q27, .inl (D.1 24, 8, .inr (.inr (.inr (.inr (fun _ => none)))))), (q34, .inr (0, [.ref a_38, .ref b_38, .int (nI 0)])), (a_38, .inl (D.1 20, 40, .inl (fun j => nI ((fun _ => 0) j)))), (b_38, .inl (D.1 20, 40, .inl (fun j => nI ((fun _ => 0) j)))), (q45, .inr (4, [.ref a_49, .ref b_49, .ref c_49, .ref d_49, .int (nI 0)])), (a_49, .inl (D.1 23, 10, .inr (.inl (fun _ => 0)))), (b_49, .inl (D.1 20, 10, .inl (fun j => nI ((fun _ => 0) j)))), (c_49, .inl (D.1 25, 10, .inr (.inr (.inr (.inr (fun i => if i < 10 then some (r_49 i) else none)))))), (d_49, .inl (D.1 20, 10, .inl (fun j => nI ((fun _ => 0) j)))), ((r_49 0), .inl (D.1 20, 8, .inl (fun _ => 0))), ((r_49 1), .inl (D.1 20, 8, .inl (fun _ => 0))), ((r_49 2), .inl (D.1 20, 8, .inl (fun _ => 0))), ((r_49 3), .inl (D.1 20, 8, .inl (fun _ => 0))), ((r_49 4), .inl (D.1 20, 8, .inl (fun _ => 0))), ((r_49 5), .inl (D.1 20, 8, .inl (fun _ => 0))), ((r_49 6), .inl (D.1 20, 8, .inl (fun _ => 0))), ((r_49 7), .inl (D.1 20, 8, .inl (fun _ => 0))), ((r_49 8), .inl (D.1 20, 8, .inl (fun _ => 0))), ((r_49 9), .inl (D.1 20, 8, .inl (fun _ => 0)))] _ := hP
  have hD : va_D A [(h, .inr (5, [.ref q8, .int (nI 0), .ref q14, .ref q27, .int (nI 0), .int (nI 0), .ref q34, .null, .null])), (q8, .inl (D.1 21, 1500, .inl (fun _ => 0))), (q14, .inr (1, [.ref a_18, .ref b_18, .ref c_18, .int (nI 0)])), (a_18, .inl (D.1 20, 8, .inl (fun j => nI ((fun _ => 0) j)))), (b_18, .inl (D.1 20, 8, .inl (fun j => nI ((fun _ => 0) j)))), (c_18, .inl (D.1 22, 8, .inl (fun _ => 0))), (q27, .inl (D.1 24, 8, .inr (.inr (.inr (.inr (fun _ => none)))))), (q34, .inr (0, [.ref a_38, .ref b_38, .int (nI 0)])), (a_38, .inl (D.1 20, 40, .inl (fun j => nI ((fun _ => 0) j)))), (b_38, .inl (D.1 20, 40, .inl (fun j => nI ((fun _ => 0) j)))), (q45, .inr (4, [.ref a_49, .ref b_49, .ref c_49, .ref d_49, .int (nI 0)])), (a_49, .inl (D.1 23, 10, .inr (.inl (fun _ => 0)))), (b_49, .inl (D.1 20, 10, .inl (fun j => nI ((fun _ => 0) j)))), (c_49, .inl (D.1 25, 10, .inr (.inr (.inr (.inr (fun i => if i < 10 then some (r_49 i) else none)))))), (d_49, .inl (D.1 20, 10, .inl (fun j => nI ((fun _ => 0) j)))), ((r_49 0), .inl (D.1 20, 8, .inl (fun _ => 0))), ((r_49 1), .inl (D.1 20, 8, .inl (fun _ => 0))), ((r_49 2), .inl (D.1 20, 8, .inl (fun _ => 0))), ((r_49 3), .inl (D.1 20, 8, .inl (fun _ => 0))), ((r_49 4), .inl (D.1 20, 8, .inl (fun _ => 0))), ((r_49 5), .inl (D.1 20, 8, .inl (fun _ => 0))), ((r_49 6), .inl (D.1 20, 8, .inl (fun _ => 0))), ((r_49 7), .inl (D.1 20, 8, .inl (fun _ => 0))), ((r_49 8), .inl (D.1 20, 8, .inl (fun _ => 0))), ((r_49 9), .inl (D.1 20, 8, .inl (fun _ => 0)))] := hD
  refine W.eq (g2 := F0 m 52 ls [.ref q45, .ref h]) rfl ?_
  refine W.widen (k := 24) (n := 1744) (Nat.le_of_ble_eq_true rfl) (Nat.le_of_ble_eq_true rfl) ?_
  refine va_putF (D := D) (ci := 5) (v := .ref q45) (ty := .object "SignatureSpans$Stamps") (C := RX5) (T := TX5) (N := 9) hx hb hts inX5 tyX5 tyX5_ok nmX5 hown hK hP hD hS 0 rfl rfl 7 (by decide) hwd21 (fun _ h9 => h9) rfl hin rfl (by decide +kernel) rfl rfl (Nat.le_of_ble_eq_true rfl) dX5_init_52 (fun H locs hP hD hS => ?_)
  have hP : va_P D kC [(h, .inr (5, [.ref q8, .int (nI 0), .ref q14, .ref q27, .int (nI 0), .int (nI 0), .ref q34, .ref q45, .null])), (q8, .inl (D.1 21, 1500, .inl (fun _ => 0))), (q14, .inr (1, [.ref a_18, .ref b_18, .ref c_18, .int (nI 0)])), (a_18, .inl (D.1 20, 8, .inl (fun j => nI ((fun _ => 0) j)))), (b_18, .inl (D.1 20, 8, .inl (fun j => nI ((fun _ => 0) j)))), (c_18, .inl (D.1 22, 8, .inl (fun _ => 0))), (q27, .inl (D.1 24, 8, .inr (.inr (.inr (.inr (fun _ => none)))))), (q34, .inr (0, [.ref a_38, .ref b_38, .int (nI 0)])), (a_38, .inl (D.1 20, 40, .inl (fun j => nI ((fun _ => 0) j)))), (b_38, .inl (D.1 20, 40, .inl (fun j => nI ((fun _ => 0) j)))), (q45, .inr (4, [.ref a_49, .ref b_49, .ref c_49, .ref d_49, .int (nI 0)])), (a_49, .inl (D.1 23, 10, .inr (.inl (fun _ => 0)))), (b_49, .inl (D.1 20, 10, .inl (fun j => nI ((fun _ => 0) j)))), (c_49, .inl (D.1 25, 10, .inr (.inr (.inr (.inr (fun i => if i < 10 then some (r_49 i) else none)))))), (d_49, .inl (D.1 20, 10, .inl (fun j => nI ((fun _ => 0) j)))), ((r_49 0), .inl (D.1 20, 8, .inl (fun _ => 0))), ((r_49 1), .inl (D.1 20, 8, .inl (fun _ => 0))), ((r_49 2), .inl (D.1 20, 8, .inl (fun _ => 0))), ((r_49 3), .inl (D.1 20, 8, .inl (fun _ => 0))), ((r_49 4), .inl (D.1 20, 8, .inl (fun _ => 0))), ((r_49 5), .inl (D.1 20, 8, .inl (fun _ => 0))), ((r_49 6), .inl (D.1 20, 8, .inl (fun _ => 0))), ((r_49 7), .inl (D.1 20, 8, .inl (fun _ => 0))), ((r_49 8), .inl (D.1 20, 8, .inl (fun _ => 0))), ((r_49 9), .inl (D.1 20, 8, .inl (fun _ => 0)))] _ := hP
  have hD : va_D A [(h, .inr (5, [.ref q8, .int (nI 0), .ref q14, .ref q27, .int (nI 0), .int (nI 0), .ref q34, .ref q45, .null])), (q8, .inl (D.1 21, 1500, .inl (fun _ => 0))), (q14, .inr (1, [.ref a_18, .ref b_18, .ref c_18, .int (nI 0)])), (a_18, .inl (D.1 20, 8, .inl (fun j => nI ((fun _ => 0) j)))), (b_18, .inl (D.1 20, 8, .inl (fun j => nI ((fun _ => 0) j)))), (c_18, .inl (D.1 22, 8, .inl (fun _ => 0))), (q27, .inl (D.1 24, 8, .inr (.inr (.inr (.inr (fun _ => none)))))), (q34, .inr (0, [.ref a_38, .ref b_38, .int (nI 0)])), (a_38, .inl (D.1 20, 40, .inl (fun j => nI ((fun _ => 0) j)))), (b_38, .inl (D.1 20, 40, .inl (fun j => nI ((fun _ => 0) j)))), (q45, .inr (4, [.ref a_49, .ref b_49, .ref c_49, .ref d_49, .int (nI 0)])), (a_49, .inl (D.1 23, 10, .inr (.inl (fun _ => 0)))), (b_49, .inl (D.1 20, 10, .inl (fun j => nI ((fun _ => 0) j)))), (c_49, .inl (D.1 25, 10, .inr (.inr (.inr (.inr (fun i => if i < 10 then some (r_49 i) else none)))))), (d_49, .inl (D.1 20, 10, .inl (fun j => nI ((fun _ => 0) j)))), ((r_49 0), .inl (D.1 20, 8, .inl (fun _ => 0))), ((r_49 1), .inl (D.1 20, 8, .inl (fun _ => 0))), ((r_49 2), .inl (D.1 20, 8, .inl (fun _ => 0))), ((r_49 3), .inl (D.1 20, 8, .inl (fun _ => 0))), ((r_49 4), .inl (D.1 20, 8, .inl (fun _ => 0))), ((r_49 5), .inl (D.1 20, 8, .inl (fun _ => 0))), ((r_49 6), .inl (D.1 20, 8, .inl (fun _ => 0))), ((r_49 7), .inl (D.1 20, 8, .inl (fun _ => 0))), ((r_49 8), .inl (D.1 20, 8, .inl (fun _ => 0))), ((r_49 9), .inl (D.1 20, 8, .inl (fun _ => 0)))] := hD
  refine lv_aload_n hx hb dX5_init_55 rfl (lv_at hl 0 rfl) ?_
  refine va_new (ci := 2) (fs := [.null, .int (nI 0), .null, .null]) (C := RX2) (T := TX2) (N := 4) hx hb hts inX2 tyX2 tyX2_ok hown hwd22 hwd23 hwd24 hK hP hD hS hA rfl (fun j hj => by rcases (show j = 0 ∨ j = 1 ∨ j = 2 ∨ j = 3 by omega) with rfl | rfl | rfl | rfl <;> rfl) (Nat.le_of_ble_eq_true rfl) (Nat.le_of_ble_eq_true rfl) dX5_init_56 (fun q56 H hP hD hS => ?_)
  have hP : va_P D kC [(h, .inr (5, [.ref q8, .int (nI 0), .ref q14, .ref q27, .int (nI 0), .int (nI 0), .ref q34, .ref q45, .null])), (q8, .inl (D.1 21, 1500, .inl (fun _ => 0))), (q14, .inr (1, [.ref a_18, .ref b_18, .ref c_18, .int (nI 0)])), (a_18, .inl (D.1 20, 8, .inl (fun j => nI ((fun _ => 0) j)))), (b_18, .inl (D.1 20, 8, .inl (fun j => nI ((fun _ => 0) j)))), (c_18, .inl (D.1 22, 8, .inl (fun _ => 0))), (q27, .inl (D.1 24, 8, .inr (.inr (.inr (.inr (fun _ => none)))))), (q34, .inr (0, [.ref a_38, .ref b_38, .int (nI 0)])), (a_38, .inl (D.1 20, 40, .inl (fun j => nI ((fun _ => 0) j)))), (b_38, .inl (D.1 20, 40, .inl (fun j => nI ((fun _ => 0) j)))), (q45, .inr (4, [.ref a_49, .ref b_49, .ref c_49, .ref d_49, .int (nI 0)])), (a_49, .inl (D.1 23, 10, .inr (.inl (fun _ => 0)))), (b_49, .inl (D.1 20, 10, .inl (fun j => nI ((fun _ => 0) j)))), (c_49, .inl (D.1 25, 10, .inr (.inr (.inr (.inr (fun i => if i < 10 then some (r_49 i) else none)))))), (d_49, .inl (D.1 20, 10, .inl (fun j => nI ((fun _ => 0) j)))), ((r_49 0), .inl (D.1 20, 8, .inl (fun _ => 0))), ((r_49 1), .inl (D.1 20, 8, .inl (fun _ => 0))), ((r_49 2), .inl (D.1 20, 8, .inl (fun _ => 0))), ((r_49 3), .inl (D.1 20, 8, .inl (fun _ => 0))), ((r_49 4), .inl (D.1 20, 8, .inl (fun _ => 0))), ((r_49 5), .inl (D.1 20, 8, .inl (fun _ => 0))), ((r_49 6), .inl (D.1 20, 8, .inl (fun _ => 0))), ((r_49 7), .inl (D.1 20, 8, .inl (fun _ => 0))), ((r_49 8), .inl (D.1 20, 8, .inl (fun _ => 0))), ((r_49 9), .inl (D.1 20, 8, .inl (fun _ => 0))), (q56, .inr (2, [.null, .int (nI 0), .null, .null]))] _ := hP
  have hD : va_D A [(h, .inr (5, [.ref q8, .int (nI 0), .ref q14, .ref q27, .int (nI 0), .int (nI 0), .ref q34, .ref q45, .null])), (q8, .inl (D.1 21, 1500, .inl (fun _ => 0))), (q14, .inr (1, [.ref a_18, .ref b_18, .ref c_18, .int (nI 0)])), (a_18, .inl (D.1 20, 8, .inl (fun j => nI ((fun _ => 0) j)))), (b_18, .inl (D.1 20, 8, .inl (fun j => nI ((fun _ => 0) j)))), (c_18, .inl (D.1 22, 8, .inl (fun _ => 0))), (q27, .inl (D.1 24, 8, .inr (.inr (.inr (.inr (fun _ => none)))))), (q34, .inr (0, [.ref a_38, .ref b_38, .int (nI 0)])), (a_38, .inl (D.1 20, 40, .inl (fun j => nI ((fun _ => 0) j)))), (b_38, .inl (D.1 20, 40, .inl (fun j => nI ((fun _ => 0) j)))), (q45, .inr (4, [.ref a_49, .ref b_49, .ref c_49, .ref d_49, .int (nI 0)])), (a_49, .inl (D.1 23, 10, .inr (.inl (fun _ => 0)))), (b_49, .inl (D.1 20, 10, .inl (fun j => nI ((fun _ => 0) j)))), (c_49, .inl (D.1 25, 10, .inr (.inr (.inr (.inr (fun i => if i < 10 then some (r_49 i) else none)))))), (d_49, .inl (D.1 20, 10, .inl (fun j => nI ((fun _ => 0) j)))), ((r_49 0), .inl (D.1 20, 8, .inl (fun _ => 0))), ((r_49 1), .inl (D.1 20, 8, .inl (fun _ => 0))), ((r_49 2), .inl (D.1 20, 8, .inl (fun _ => 0))), ((r_49 3), .inl (D.1 20, 8, .inl (fun _ => 0))), ((r_49 4), .inl (D.1 20, 8, .inl (fun _ => 0))), ((r_49 5), .inl (D.1 20, 8, .inl (fun _ => 0))), ((r_49 6), .inl (D.1 20, 8, .inl (fun _ => 0))), ((r_49 7), .inl (D.1 20, 8, .inl (fun _ => 0))), ((r_49 8), .inl (D.1 20, 8, .inl (fun _ => 0))), ((r_49 9), .inl (D.1 20, 8, .inl (fun _ => 0))), (q56, .inr (2, [.null, .int (nI 0), .null, .null]))] := hD
  refine W.widen (k := 25) (n := 1748) (Nat.le_refl _) (Nat.le_refl _) ?_
  refine lv_dup hx hb dX5_init_59 rfl ?_
  refine kcIN (As := []) (rest := [.ref q56, .ref h]) (ws := [(q56, .inr (2, [.null, .int (nI 0), .null, .null]))]) (wr := [(h, .inr (5, [.ref q8, .int (nI 0), .ref q14, .ref q27, .int (nI 0), .int (nI 0), .ref q34, .ref q45, .null])), (q8, .inl (D.1 21, 1500, .inl (fun _ => 0))), (q14, .inr (1, [.ref a_18, .ref b_18, .ref c_18, .int (nI 0)])), (a_18, .inl (D.1 20, 8, .inl (fun j => nI ((fun _ => 0) j)))), (b_18, .inl (D.1 20, 8, .inl (fun j => nI ((fun _ => 0) j)))), (c_18, .inl (D.1 22, 8, .inl (fun _ => 0))), (q27, .inl (D.1 24, 8, .inr (.inr (.inr (.inr (fun _ => none)))))), (q34, .inr (0, [.ref a_38, .ref b_38, .int (nI 0)])), (a_38, .inl (D.1 20, 40, .inl (fun j => nI ((fun _ => 0) j)))), (b_38, .inl (D.1 20, 40, .inl (fun j => nI ((fun _ => 0) j)))), (q45, .inr (4, [.ref a_49, .ref b_49, .ref c_49, .ref d_49, .int (nI 0)])), (a_49, .inl (D.1 23, 10, .inr (.inl (fun _ => 0)))), (b_49, .inl (D.1 20, 10, .inl (fun j => nI ((fun _ => 0) j)))), (c_49, .inl (D.1 25, 10, .inr (.inr (.inr (.inr (fun i => if i < 10 then some (r_49 i) else none)))))), (d_49, .inl (D.1 20, 10, .inl (fun j => nI ((fun _ => 0) j)))), ((r_49 0), .inl (D.1 20, 8, .inl (fun _ => 0))), ((r_49 1), .inl (D.1 20, 8, .inl (fun _ => 0))), ((r_49 2), .inl (D.1 20, 8, .inl (fun _ => 0))), ((r_49 3), .inl (D.1 20, 8, .inl (fun _ => 0))), ((r_49 4), .inl (D.1 20, 8, .inl (fun _ => 0))), ((r_49 5), .inl (D.1 20, 8, .inl (fun _ => 0))), ((r_49 6), .inl (D.1 20, 8, .inl (fun _ => 0))), ((r_49 7), .inl (D.1 20, 8, .inl (fun _ => 0))), ((r_49 8), .inl (D.1 20, 8, .inl (fun _ => 0))), ((r_49 9), .inl (D.1 20, 8, .inl (fun _ => 0)))]) ⟨hx, hb, hml, hown, hts⟩ (c_X2_init l D q56) (⟨va_cnB 0 hts gX5_init_X2_init_n42 rfl rfl rfl (hE.2.2.2.2.1 (.methodLinkNest RX5 42 yX2_init RX5) (by decide +kernel)) hwd24 (by decide +kernel) ⟨Nat.le_of_ble_eq_true rfl, Nat.le_of_ble_eq_true rfl⟩, rfl, hwd25⟩) hK hE hP hD hS hA [25] [0, 1, 2, 3, 4, 5, 6, 7, 8, 9, 10, 11, 12, 13, 14, 15, 16, 17, 18, 19, 20, 21, 22, 23, 24] rfl rfl rfl rfl (by decide) rfl hl.1 rfl (Nat.le_of_ble_eq_true rfl) dX5_init_60 ⟨Nat.le_of_ble_eq_true rfl, Nat.le_of_ble_eq_true rfl⟩ (fun ⟨a_60, b_60, c_60⟩ H locs hpo hP hD hS => ?_)
  have hP : va_P D kC [(h, .inr (5, [.ref q8, .int (nI 0), .ref q14, .ref q27, .int (nI 0), .int (nI 0), .ref q34, .ref q45, .null])), (q8, .inl (D.1 21, 1500, .inl (fun _ => 0))), (q14, .inr (1, [.ref a_18, .ref b_18, .ref c_18, .int (nI 0)])), (a_18, .inl (D.1 20, 8, .inl (fun j => nI ((fun _ => 0) j)))), (b_18, .inl (D.1 20, 8, .inl (fun j => nI ((fun _ => 0) j)))), (c_18, .inl (D.1 22, 8, .inl (fun _ => 0))), (q27, .inl (D.1 24, 8, .inr (.inr (.inr (.inr (fun _ => none)))))), (q34, .inr (0, [.ref a_38, .ref b_38, .int (nI 0)])), (a_38, .inl (D.1 20, 40, .inl (fun j => nI ((fun _ => 0) j)))), (b_38, .inl (D.1 20, 40, .inl (fun j => nI ((fun _ => 0) j)))), (q45, .inr (4, [.ref a_49, .ref b_49, .ref c_49, .ref d_49, .int (nI 0)])), (a_49, .inl (D.1 23, 10, .inr (.inl (fun _ => 0)))), (b_49, .inl (D.1 20, 10, .inl (fun j => nI ((fun _ => 0) j)))), (c_49, .inl (D.1 25, 10, .inr (.inr (.inr (.inr (fun i => if i < 10 then some (r_49 i) else none)))))), (d_49, .inl (D.1 20, 10, .inl (fun j => nI ((fun _ => 0) j)))), ((r_49 0), .inl (D.1 20, 8, .inl (fun _ => 0))), ((r_49 1), .inl (D.1 20, 8, .inl (fun _ => 0))), ((r_49 2), .inl (D.1 20, 8, .inl (fun _ => 0))), ((r_49 3), .inl (D.1 20, 8, .inl (fun _ => 0))), ((r_49 4), .inl (D.1 20, 8, .inl (fun _ => 0))), ((r_49 5), .inl (D.1 20, 8, .inl (fun _ => 0))), ((r_49 6), .inl (D.1 20, 8, .inl (fun _ => 0))), ((r_49 7), .inl (D.1 20, 8, .inl (fun _ => 0))), ((r_49 8), .inl (D.1 20, 8, .inl (fun _ => 0))), ((r_49 9), .inl (D.1 20, 8, .inl (fun _ => 0))), (q56, .inr (2, [.ref a_60, .int (nI 0), .ref b_60, .ref c_60])), (a_60, .inl (D.1 21, 1536, .inl (fun _ => 0))), (b_60, .inl (D.1 20, 8, .inl (fun _ => 0))), (c_60, .inl (D.1 20, 64, .inl (fun _ => 0)))] _ := hP
  have hD : va_D A [(h, .inr (5, [.ref q8, .int (nI 0), .ref q14, .ref q27, .int (nI 0), .int (nI 0), .ref q34, .ref q45, .null])), (q8, .inl (D.1 21, 1500, .inl (fun _ => 0))), (q14, .inr (1, [.ref a_18, .ref b_18, .ref c_18, .int (nI 0)])), (a_18, .inl (D.1 20, 8, .inl (fun j => nI ((fun _ => 0) j)))), (b_18, .inl (D.1 20, 8, .inl (fun j => nI ((fun _ => 0) j)))), (c_18, .inl (D.1 22, 8, .inl (fun _ => 0))), (q27, .inl (D.1 24, 8, .inr (.inr (.inr (.inr (fun _ => none)))))), (q34, .inr (0, [.ref a_38, .ref b_38, .int (nI 0)])), (a_38, .inl (D.1 20, 40, .inl (fun j => nI ((fun _ => 0) j)))), (b_38, .inl (D.1 20, 40, .inl (fun j => nI ((fun _ => 0) j)))), (q45, .inr (4, [.ref a_49, .ref b_49, .ref c_49, .ref d_49, .int (nI 0)])), (a_49, .inl (D.1 23, 10, .inr (.inl (fun _ => 0)))), (b_49, .inl (D.1 20, 10, .inl (fun j => nI ((fun _ => 0) j)))), (c_49, .inl (D.1 25, 10, .inr (.inr (.inr (.inr (fun i => if i < 10 then some (r_49 i) else none)))))), (d_49, .inl (D.1 20, 10, .inl (fun j => nI ((fun _ => 0) j)))), ((r_49 0), .inl (D.1 20, 8, .inl (fun _ => 0))), ((r_49 1), .inl (D.1 20, 8, .inl (fun _ => 0))), ((r_49 2), .inl (D.1 20, 8, .inl (fun _ => 0))), ((r_49 3), .inl (D.1 20, 8, .inl (fun _ => 0))), ((r_49 4), .inl (D.1 20, 8, .inl (fun _ => 0))), ((r_49 5), .inl (D.1 20, 8, .inl (fun _ => 0))), ((r_49 6), .inl (D.1 20, 8, .inl (fun _ => 0))), ((r_49 7), .inl (D.1 20, 8, .inl (fun _ => 0))), ((r_49 8), .inl (D.1 20, 8, .inl (fun _ => 0))), ((r_49 9), .inl (D.1 20, 8, .inl (fun _ => 0))), (q56, .inr (2, [.ref a_60, .int (nI 0), .ref b_60, .ref c_60])), (a_60, .inl (D.1 21, 1536, .inl (fun _ => 0))), (b_60, .inl (D.1 20, 8, .inl (fun _ => 0))), (c_60, .inl (D.1 20, 64, .inl (fun _ => 0)))] := hD
  refine W.eq (g2 := F0 m 63 ls [.ref q56, .ref h]) rfl ?_
  refine W.widen (k := 28) (n := 3356) (Nat.le_of_ble_eq_true rfl) (Nat.le_of_ble_eq_true rfl) ?_
  refine va_putF (D := D) (ci := 5) (v := .ref q56) (ty := .object "SignatureSpans$Sha256") (C := RX5) (T := TX5) (N := 9) hx hb hts inX5 tyX5 tyX5_ok nmX5 hown hK hP hD hS 0 rfl rfl 8 (by decide) hwd26 (fun _ h9 => h9) rfl hin rfl (by decide +kernel) rfl rfl (Nat.le_of_ble_eq_true rfl) dX5_init_63 (fun H locs hP hD hS => ?_)
  have hP : va_P D kC [(h, .inr (5, [.ref q8, .int (nI 0), .ref q14, .ref q27, .int (nI 0), .int (nI 0), .ref q34, .ref q45, .ref q56])), (q8, .inl (D.1 21, 1500, .inl (fun _ => 0))), (q14, .inr (1, [.ref a_18, .ref b_18, .ref c_18, .int (nI 0)])), (a_18, .inl (D.1 20, 8, .inl (fun j => nI ((fun _ => 0) j)))), (b_18, .inl (D.1 20, 8, .inl (fun j => nI ((fun _ => 0) j)))), (c_18, .inl (D.1 22, 8, .inl (fun _ => 0))), (q27, .inl (D.1 24, 8, .inr (.inr (.inr (.inr (fun _ => none)))))), (q34, .inr (0, [.ref a_38, .ref b_38, .int (nI 0)])), (a_38, .inl (D.1 20, 40, .inl (fun j => nI ((fun _ => 0) j)))), (b_38, .inl (D.1 20, 40, .inl (fun j => nI ((fun _ => 0) j)))), (q45, .inr (4, [.ref a_49, .ref b_49, .ref c_49, .ref d_49, .int (nI 0)])), (a_49, .inl (D.1 23, 10, .inr (.inl (fun _ => 0)))), (b_49, .inl (D.1 20, 10, .inl (fun j => nI ((fun _ => 0) j)))), (c_49, .inl (D.1 25, 10, .inr (.inr (.inr (.inr (fun i => if i < 10 then some (r_49 i) else none)))))), (d_49, .inl (D.1 20, 10, .inl (fun j => nI ((fun _ => 0) j)))), ((r_49 0), .inl (D.1 20, 8, .inl (fun _ => 0))), ((r_49 1), .inl (D.1 20, 8, .inl (fun _ => 0))), ((r_49 2), .inl (D.1 20, 8, .inl (fun _ => 0))), ((r_49 3), .inl (D.1 20, 8, .inl (fun _ => 0))), ((r_49 4), .inl (D.1 20, 8, .inl (fun _ => 0))), ((r_49 5), .inl (D.1 20, 8, .inl (fun _ => 0))), ((r_49 6), .inl (D.1 20, 8, .inl (fun _ => 0))), ((r_49 7), .inl (D.1 20, 8, .inl (fun _ => 0))), ((r_49 8), .inl (D.1 20, 8, .inl (fun _ => 0))), ((r_49 9), .inl (D.1 20, 8, .inl (fun _ => 0))), (q56, .inr (2, [.ref a_60, .int (nI 0), .ref b_60, .ref c_60])), (a_60, .inl (D.1 21, 1536, .inl (fun _ => 0))), (b_60, .inl (D.1 20, 8, .inl (fun _ => 0))), (c_60, .inl (D.1 20, 64, .inl (fun _ => 0)))] _ := hP
  have hD : va_D A [(h, .inr (5, [.ref q8, .int (nI 0), .ref q14, .ref q27, .int (nI 0), .int (nI 0), .ref q34, .ref q45, .ref q56])), (q8, .inl (D.1 21, 1500, .inl (fun _ => 0))), (q14, .inr (1, [.ref a_18, .ref b_18, .ref c_18, .int (nI 0)])), (a_18, .inl (D.1 20, 8, .inl (fun j => nI ((fun _ => 0) j)))), (b_18, .inl (D.1 20, 8, .inl (fun j => nI ((fun _ => 0) j)))), (c_18, .inl (D.1 22, 8, .inl (fun _ => 0))), (q27, .inl (D.1 24, 8, .inr (.inr (.inr (.inr (fun _ => none)))))), (q34, .inr (0, [.ref a_38, .ref b_38, .int (nI 0)])), (a_38, .inl (D.1 20, 40, .inl (fun j => nI ((fun _ => 0) j)))), (b_38, .inl (D.1 20, 40, .inl (fun j => nI ((fun _ => 0) j)))), (q45, .inr (4, [.ref a_49, .ref b_49, .ref c_49, .ref d_49, .int (nI 0)])), (a_49, .inl (D.1 23, 10, .inr (.inl (fun _ => 0)))), (b_49, .inl (D.1 20, 10, .inl (fun j => nI ((fun _ => 0) j)))), (c_49, .inl (D.1 25, 10, .inr (.inr (.inr (.inr (fun i => if i < 10 then some (r_49 i) else none)))))), (d_49, .inl (D.1 20, 10, .inl (fun j => nI ((fun _ => 0) j)))), ((r_49 0), .inl (D.1 20, 8, .inl (fun _ => 0))), ((r_49 1), .inl (D.1 20, 8, .inl (fun _ => 0))), ((r_49 2), .inl (D.1 20, 8, .inl (fun _ => 0))), ((r_49 3), .inl (D.1 20, 8, .inl (fun _ => 0))), ((r_49 4), .inl (D.1 20, 8, .inl (fun _ => 0))), ((r_49 5), .inl (D.1 20, 8, .inl (fun _ => 0))), ((r_49 6), .inl (D.1 20, 8, .inl (fun _ => 0))), ((r_49 7), .inl (D.1 20, 8, .inl (fun _ => 0))), ((r_49 8), .inl (D.1 20, 8, .inl (fun _ => 0))), ((r_49 9), .inl (D.1 20, 8, .inl (fun _ => 0))), (q56, .inr (2, [.ref a_60, .int (nI 0), .ref b_60, .ref c_60])), (a_60, .inl (D.1 21, 1536, .inl (fun _ => 0))), (b_60, .inl (D.1 20, 8, .inl (fun _ => 0))), (c_60, .inl (D.1 20, 64, .inl (fun _ => 0)))] := hD
  rw [hQ]
  have hP9 : va_P D kC [(h, .inr (5, [.ref q8, .int (nI 0), .ref q14, .ref q27, .int (nI 0), .int (nI 0), .ref q34, .ref q45, .ref q56])), (q8, .inl (D.1 21, 1500, .inl (fun _ => 0))), (q14, .inr (1, [.ref a_18, .ref b_18, .ref c_18, .int (nI 0)])), (a_18, .inl (D.1 20, 8, .inl (fun j => nI ((fun _ => 0) j)))), (b_18, .inl (D.1 20, 8, .inl (fun j => nI ((fun _ => 0) j)))), (c_18, .inl (D.1 22, 8, .inl (fun _ => 0))), (q27, .inl (D.1 24, 8, .inr (.inr (.inr (.inr (fun _ => none)))))), (q34, .inr (0, [.ref a_38, .ref b_38, .int (nI 0)])), (a_38, .inl (D.1 20, 40, .inl (fun j => nI ((fun _ => 0) j)))), (b_38, .inl (D.1 20, 40, .inl (fun j => nI ((fun _ => 0) j)))), (q45, .inr (4, [.ref a_49, .ref b_49, .ref c_49, .ref d_49, .int (nI 0)])), (a_49, .inl (D.1 23, 10, .inr (.inl (fun _ => 0)))), (b_49, .inl (D.1 20, 10, .inl (fun j => nI ((fun _ => 0) j)))), (c_49, .inl (D.1 25, 10, .inr (.inr (.inr (.inr (fun i => if i < 10 then some (r_49 i) else none)))))), (d_49, .inl (D.1 20, 10, .inl (fun j => nI ((fun _ => 0) j)))), ((r_49 0), .inl (D.1 20, 8, .inl (fun _ => 0))), ((r_49 1), .inl (D.1 20, 8, .inl (fun _ => 0))), ((r_49 2), .inl (D.1 20, 8, .inl (fun _ => 0))), ((r_49 3), .inl (D.1 20, 8, .inl (fun _ => 0))), ((r_49 4), .inl (D.1 20, 8, .inl (fun _ => 0))), ((r_49 5), .inl (D.1 20, 8, .inl (fun _ => 0))), ((r_49 6), .inl (D.1 20, 8, .inl (fun _ => 0))), ((r_49 7), .inl (D.1 20, 8, .inl (fun _ => 0))), ((r_49 8), .inl (D.1 20, 8, .inl (fun _ => 0))), ((r_49 9), .inl (D.1 20, 8, .inl (fun _ => 0))), (q56, .inr (2, [.ref a_60, .int (nI 0), .ref b_60, .ref c_60])), (a_60, .inl (D.1 21, 1536, .inl (fun _ => 0))), (b_60, .inl (D.1 20, 8, .inl (fun _ => 0))), (c_60, .inl (D.1 20, 64, .inl (fun _ => 0)))] _ := hP
  have hD9 : va_D A [(h, .inr (5, [.ref q8, .int (nI 0), .ref q14, .ref q27, .int (nI 0), .int (nI 0), .ref q34, .ref q45, .ref q56])), (q8, .inl (D.1 21, 1500, .inl (fun _ => 0))), (q14, .inr (1, [.ref a_18, .ref b_18, .ref c_18, .int (nI 0)])), (a_18, .inl (D.1 20, 8, .inl (fun j => nI ((fun _ => 0) j)))), (b_18, .inl (D.1 20, 8, .inl (fun j => nI ((fun _ => 0) j)))), (c_18, .inl (D.1 22, 8, .inl (fun _ => 0))), (q27, .inl (D.1 24, 8, .inr (.inr (.inr (.inr (fun _ => none)))))), (q34, .inr (0, [.ref a_38, .ref b_38, .int (nI 0)])), (a_38, .inl (D.1 20, 40, .inl (fun j => nI ((fun _ => 0) j)))), (b_38, .inl (D.1 20, 40, .inl (fun j => nI ((fun _ => 0) j)))), (q45, .inr (4, [.ref a_49, .ref b_49, .ref c_49, .ref d_49, .int (nI 0)])), (a_49, .inl (D.1 23, 10, .inr (.inl (fun _ => 0)))), (b_49, .inl (D.1 20, 10, .inl (fun j => nI ((fun _ => 0) j)))), (c_49, .inl (D.1 25, 10, .inr (.inr (.inr (.inr (fun i => if i < 10 then some (r_49 i) else none)))))), (d_49, .inl (D.1 20, 10, .inl (fun j => nI ((fun _ => 0) j)))), ((r_49 0), .inl (D.1 20, 8, .inl (fun _ => 0))), ((r_49 1), .inl (D.1 20, 8, .inl (fun _ => 0))), ((r_49 2), .inl (D.1 20, 8, .inl (fun _ => 0))), ((r_49 3), .inl (D.1 20, 8, .inl (fun _ => 0))), ((r_49 4), .inl (D.1 20, 8, .inl (fun _ => 0))), ((r_49 5), .inl (D.1 20, 8, .inl (fun _ => 0))), ((r_49 6), .inl (D.1 20, 8, .inl (fun _ => 0))), ((r_49 7), .inl (D.1 20, 8, .inl (fun _ => 0))), ((r_49 8), .inl (D.1 20, 8, .inl (fun _ => 0))), ((r_49 9), .inl (D.1 20, 8, .inl (fun _ => 0))), (q56, .inr (2, [.ref a_60, .int (nI 0), .ref b_60, .ref c_60])), (a_60, .inl (D.1 21, 1536, .inl (fun _ => 0))), (b_60, .inl (D.1 20, 8, .inl (fun _ => 0))), (c_60, .inl (D.1 20, 64, .inl (fun _ => 0)))] := hD
  exact W.vret hx hb hr (fun tq ht hW => ⟨⟨((fun k => [q8, q14, a_18, b_18, c_18, q27, q34, a_38, b_38, q45, a_49, b_49, c_49, d_49, q56, a_60, b_60, c_60].getD k 0), r_49), rfl, trivial, by rw [ht]; exact hP9, va_K.moved hW.alike hK, hD9⟩, hS.F ht⟩) hS.2.2 dX5_init_66
