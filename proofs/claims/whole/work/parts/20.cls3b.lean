theorem iX3_init_X3 : ∀ w ∈ wsX30, w ∈ wsX3_init := by decide +kernel
theorem X3_init_hwd0 : (.methodLink RX3 3 objectInit : Cond) ∈ wsX3_init := by decide +kernel
theorem X3_init_hwd1 : (.instanceMethod objectInit : Cond) ∈ wsX3_init := by decide +kernel
theorem X3_init_hwd2 : (.code objectInit ⟨#[0xb1]⟩ 1 none : Cond) ∈ wsX3_init := by decide +kernel
theorem X3_init_hwd3 : (.arrayClass .int : Cond) ∈ wsX3_init := by decide +kernel
theorem X3_init_hwd4 : (.fieldLink RX3 11 "SignatureSpans$Signature" "digestWords" "[I" : Cond) ∈ wsX3_init := by decide +kernel
theorem X3_init_hwd5 : (.arrayClass .long : Cond) ∈ wsX3_init := by decide +kernel
theorem X3_init_hwd6 : (.fieldLink RX3 17 "SignatureSpans$Signature" "spans" "[J" : Cond) ∈ wsX3_init := by decide +kernel
theorem X3_init_hwd7 : (.fieldLink RX3 21 "SignatureSpans$Signature" "chainFrom" "[J" : Cond) ∈ wsX3_init := by decide +kernel
theorem X3_init_hwd8 : (.fieldLink RX3 24 "SignatureSpans$Signature" "chainTo" "[J" : Cond) ∈ wsX3_init := by decide +kernel
theorem X3_init_hwd9 : (.fieldLink RX3 27 "SignatureSpans$Signature" "allowedKinds" "I" : Cond) ∈ wsX3_init := by decide +kernel
theorem X3_init_hwd10 : (.fieldLink RX3 31 "SignatureSpans$Signature" "placeFrom" "I" : Cond) ∈ wsX3_init := by decide +kernel
theorem X3_init_hwd11 : (.fieldLink RX3 34 "SignatureSpans$Signature" "placeTo" "I" : Cond) ∈ wsX3_init := by decide +kernel
theorem X3_init_hwd12 : (.fieldLink RX3 37 "SignatureSpans$Signature" "end" "I" : Cond) ∈ wsX3_init := by decide +kernel
theorem X3_init_hwd13 : (.fieldLink RX3 40 "SignatureSpans$Signature" "verdict" "Z" : Cond) ∈ wsX3_init := by decide +kernel
theorem X3_init_hwd14 : (.fieldLink RX3 44 "SignatureSpans$Signature" "time" "J" : Cond) ∈ wsX3_init := by decide +kernel
theorem X3_init_hwd15 : (.fieldLink RX3 48 "SignatureSpans$Signature" "changesBefore" "I" : Cond) ∈ wsX3_init := by decide +kernel
set_option maxHeartbeats 4000000 in
set_option maxRecDepth 100000 in
/-- a new signature -/
theorem c_X3_init (l : Launch) (D : va_G) (h a b z cb : Nat) (vd : Int32) (ti : Int64) (hvd : vd = 0 ∨ vd = 1) (ha9 : a ≤ 1500) (hb9 : b ≤ 1500) (hz9 : z ≤ 1500) : kM (S := Nat × Nat × Nat × Nat) l yX3_init wsX3_init ({ frames := 8, cells := 4, slots := 20, locals := 160 }) 4 20 D [.ref h, .int (nI a), .int (nI b), .int (nI z), .int vd, .long ti, .int (nI cb)] [(h, .inr (3, [.int (nI 0), .int (nI 0), .int (nI 0), .int (nI 0), .long (lN 0), .int (nI 0), .null, .null, .null, .null, .int (nI 0), .int (nI 0), .int (nI 0), .int (nI 0)]))] (fun _ => none) (fun u => [(h, .inr (3, [.int (nI a), .int (nI b), .int (nI z), .int vd, .long ti, .int (nI cb), .ref u.1, .ref u.2.1, .ref u.2.2.1, .ref u.2.2.2, .int (nI 0), .int (nI 15), .int (nI 0), .int (nI 0)])), (u.1, .inl (D.1 20, 8, .inl (fun _ => 0))), (u.2.1, .inl (D.1 23, 4, .inr (.inl (kSp0 a b z)))), (u.2.2.1, .inl (D.1 23, 4, .inr (.inl (fun _ => 0)))), (u.2.2.2, .inl (D.1 23, 4, .inr (.inl (fun _ => 0))))]) (fun _ => True) := by
  intro sz
  refine Met.ofW (cc := cX3_init) (maxL := 8) (ret := none) (by decide) rfl ?_
  intro p e s m args below meth c s₁ B hml hv
  obtain ⟨rfl, hsz, hP, hK, hD0, hE⟩ := hv
  have hx := B.exec
  have hb := B.bytes
  have hr := B.returns
  have hts := atoms_spec (ws := wsX3_init) B.pre
  have hown : s.vm.findClass RX3 = some m.cls := findClass_of_methodNamed B.named
  have hlocks := B.notSynchronized
  have hin : meth.name = "<init>" := (name_of_methodNamed B.named B.method).1
  subst hsz
  have hD := hD0.self (sz := s.heap.size)
  generalize hAe : va_A [(h, .inr (3, [.int (nI 0), .int (nI 0), .int (nI 0), .int (nI 0), .long (lN 0), .int (nI 0), .null, .null, .null, .null, .int (nI 0), .int (nI 0), .int (nI 0), .int (nI 0)]))] s.heap.size = A at hD hE ⊢
  have hA : ∀ q : Nat, s.heap.size ≤ q → A q := fun q h => by rw [← hAe]; exact Or.inr h
  have hS : va_S A s.heap s.heap [] := va_S.rf
  have hl := lv_entry ([.ref h, .int (nI a), .int (nI b), .int (nI z), .int vd, .long ti, .int (nI cb)]) (n := 8) (Nat.le_of_ble_eq_true rfl)
  have inX3 : ∀ w ∈ wsX30, w ∈ wsX3_init := iX3_init_X3
  have hwd0 := hts (.methodLink RX3 3 objectInit) X3_init_hwd0
  have hwd1 := hts (.instanceMethod objectInit) X3_init_hwd1
  have hwd2 := hts (.code objectInit ⟨#[0xb1]⟩ 1 none) X3_init_hwd2
  have hwd3 := hts (.arrayClass .int) X3_init_hwd3
  have hwd4 := hts (.fieldLink RX3 11 "SignatureSpans$Signature" "digestWords" "[I") X3_init_hwd4
  have hwd5 := hts (.arrayClass .long) X3_init_hwd5
  have hwd6 := hts (.fieldLink RX3 17 "SignatureSpans$Signature" "spans" "[J") X3_init_hwd6
  have hwd7 := hts (.fieldLink RX3 21 "SignatureSpans$Signature" "chainFrom" "[J") X3_init_hwd7
  have hwd8 := hts (.fieldLink RX3 24 "SignatureSpans$Signature" "chainTo" "[J") X3_init_hwd8
  have hwd9 := hts (.fieldLink RX3 27 "SignatureSpans$Signature" "allowedKinds" "I") X3_init_hwd9
  have hwd10 := hts (.fieldLink RX3 31 "SignatureSpans$Signature" "placeFrom" "I") X3_init_hwd10
  have hwd11 := hts (.fieldLink RX3 34 "SignatureSpans$Signature" "placeTo" "I") X3_init_hwd11
  have hwd12 := hts (.fieldLink RX3 37 "SignatureSpans$Signature" "end" "I") X3_init_hwd12
  have hwd13 := hts (.fieldLink RX3 40 "SignatureSpans$Signature" "verdict" "Z") X3_init_hwd13
  have hwd14 := hts (.fieldLink RX3 44 "SignatureSpans$Signature" "time" "J") X3_init_hwd14
  have hwd15 := hts (.fieldLink RX3 48 "SignatureSpans$Signature" "changesBefore" "I") X3_init_hwd15
  refine kgenQ (fun Q hQ => ?_)
  rw [lg_entry_eq]
  generalize (lg_sl ([.ref h, .int (nI a), .int (nI b), .int (nI z), .int vd, .long ti, .int (nI cb)]) ++ List.replicate (8 - (lg_sl ([.ref h, .int (nI a), .int (nI b), .int (nI z), .int vd, .long ti, .int (nI cb)])).length) Slot.unset).toArray = ls at hl ⊢
  have hl : lv_has ls 8 [(0, .ref h), (1, .int (nI a)), (2, .int (nI b)), (3, .int (nI z)), (4, .int vd), (5, .long ti), (7, .int (nI cb))] := hl
  refine lv_aload_n hx hb dX3_init_0 rfl (lv_at hl 0 rfl) ?_
  refine W.objInit hx hb hown hwd0 hwd1 hwd2 rfl (by rw [hml]; exact hl.1) rfl dX3_init_1 (Nat.le_of_ble_eq_true rfl) (Nat.le_of_ble_eq_true rfl) ?_
  refine W.eq (g2 := F0 m 4 ls []) rfl ?_
  refine lv_aload_n hx hb dX3_init_4 rfl (lv_at hl 0 rfl) ?_
  refine lv_bipush (v := nI 8) hx hb dX3_init_5 (by decide) ?_
  refine kn_newa (atype := .int) (a0 := (8, .inl (fun _ => 0))) (ty := .int) (N' := 8) hx hb hwd3 rfl (fun C h9 => by cases h9) hK hP hD hS hA 0 rfl (fun _ => rfl) (by decide) (by decide) (Nat.le_of_ble_eq_true rfl) (Nat.le_of_ble_eq_true rfl) dX3_init_7 (fun q7 H hP hD hS => ?_)
  have hP : va_P D kC [(h, .inr (3, [.int (nI 0), .int (nI 0), .int (nI 0), .int (nI 0), .long (lN 0), .int (nI 0), .null, .null, .null, .null, .int (nI 0), .int (nI 0), .int (nI 0), .int (nI 0)])), (q7, .inl (D.1 20, 8, .inl (fun _ => 0)))] _ := hP
  have hD : va_D A [(h, .inr (3, [.int (nI 0), .int (nI 0), .int (nI 0), .int (nI 0), .long (lN 0), .int (nI 0), .null, .null, .null, .null, .int (nI 0), .int (nI 0), .int (nI 0), .int (nI 0)])), (q7, .inl (D.1 20, 8, .inl (fun _ => 0)))] := hD
  refine W.widen (k := 1) (n := 8) (Nat.le_refl _) (Nat.le_refl _) ?_
  refine va_putF (D := D) (ci := 3) (v := .ref q7) (ty := .array .int) (C := RX3) (T := TX3) (N := 14) hx hb hts inX3 tyX3 tyX3_ok nmX3 hown hK hP hD hS 0 rfl rfl 6 (by decide) hwd4 (fun _ h9 => h9) rfl hin rfl (by decide +kernel) rfl rfl (Nat.le_of_ble_eq_true rfl) dX3_init_9 (fun H locs hP hD hS => ?_)
  have hP : va_P D kC [(h, .inr (3, [.int (nI 0), .int (nI 0), .int (nI 0), .int (nI 0), .long (lN 0), .int (nI 0), .ref q7, .null, .null, .null, .int (nI 0), .int (nI 0), .int (nI 0), .int (nI 0)])), (q7, .inl (D.1 20, 8, .inl (fun _ => 0)))] _ := hP
  have hD : va_D A [(h, .inr (3, [.int (nI 0), .int (nI 0), .int (nI 0), .int (nI 0), .long (lN 0), .int (nI 0), .ref q7, .null, .null, .null, .int (nI 0), .int (nI 0), .int (nI 0), .int (nI 0)])), (q7, .inl (D.1 20, 8, .inl (fun _ => 0)))] := hD
  refine lv_aload_n hx hb dX3_init_12 rfl (lv_at hl 0 rfl) ?_
  refine lv_iconst (v := nI 4) hx hb dX3_init_13 (by decide) ?_
  refine kn_newa (atype := .long) (a0 := (4, .inr (.inl (fun _ => 0)))) (ty := .long) (N' := 4) hx hb hwd5 rfl (fun C h9 => by cases h9) hK hP hD hS hA 3 rfl (fun _ => rfl) (by decide) (by decide) (Nat.le_of_ble_eq_true rfl) (Nat.le_of_ble_eq_true rfl) dX3_init_14 (fun q14 H hP hD hS => ?_)
  have hP : va_P D kC [(h, .inr (3, [.int (nI 0), .int (nI 0), .int (nI 0), .int (nI 0), .long (lN 0), .int (nI 0), .ref q7, .null, .null, .null, .int (nI 0), .int (nI 0), .int (nI 0), .int (nI 0)])), (q7, .inl (D.1 20, 8, .inl (fun _ => 0))), (q14, .inl (D.1 23, 4, .inr (.inl (fun _ => 0))))] _ := hP
  have hD : va_D A [(h, .inr (3, [.int (nI 0), .int (nI 0), .int (nI 0), .int (nI 0), .long (lN 0), .int (nI 0), .ref q7, .null, .null, .null, .int (nI 0), .int (nI 0), .int (nI 0), .int (nI 0)])), (q7, .inl (D.1 20, 8, .inl (fun _ => 0))), (q14, .inl (D.1 23, 4, .inr (.inl (fun _ => 0))))] := hD
  refine W.widen (k := 2) (n := 12) (Nat.le_refl _) (Nat.le_refl _) ?_
  refine va_putF (D := D) (ci := 3) (v := .ref q14) (ty := .array .long) (C := RX3) (T := TX3) (N := 14) hx hb hts inX3 tyX3 tyX3_ok nmX3 hown hK hP hD hS 0 rfl rfl 7 (by decide) hwd6 (fun _ h9 => h9) rfl hin rfl (by decide +kernel) rfl rfl (Nat.le_of_ble_eq_true rfl) dX3_init_16 (fun H locs hP hD hS => ?_)
  have hP : va_P D kC [(h, .inr (3, [.int (nI 0), .int (nI 0), .int (nI 0), .int (nI 0), .long (lN 0), .int (nI 0), .ref q7, .ref q14, .null, .null, .int (nI 0), .int (nI 0), .int (nI 0), .int (nI 0)])), (q7, .inl (D.1 20, 8, .inl (fun _ => 0))), (q14, .inl (D.1 23, 4, .inr (.inl (fun _ => 0))))] _ := hP
  have hD : va_D A [(h, .inr (3, [.int (nI 0), .int (nI 0), .int (nI 0), .int (nI 0), .long (lN 0), .int (nI 0), .ref q7, .ref q14, .null, .null, .int (nI 0), .int (nI 0), .int (nI 0), .int (nI 0)])), (q7, .inl (D.1 20, 8, .inl (fun _ => 0))), (q14, .inl (D.1 23, 4, .inr (.inl (fun _ => 0))))] := hD
  refine lv_aload_n hx hb dX3_init_19 rfl (lv_at hl 0 rfl) ?_
  refine lv_iconst (v := nI 4) hx hb dX3_init_20 (by decide) ?_
  refine kn_newa (atype := .long) (a0 := (4, .inr (.inl (fun _ => 0)))) (ty := .long) (N' := 4) hx hb hwd5 rfl (fun C h9 => by cases h9) hK hP hD hS hA 3 rfl (fun _ => rfl) (by decide) (by decide) (Nat.le_of_ble_eq_true rfl) (Nat.le_of_ble_eq_true rfl) dX3_init_21 (fun q21 H hP hD hS => ?_)
  have hP : va_P D kC [(h, .inr (3, [.int (nI 0), .int (nI 0), .int (nI 0), .int (nI 0), .long (lN 0), .int (nI 0), .ref q7, .ref q14, .null, .null, .int (nI 0), .int (nI 0), .int (nI 0), .int (nI 0)])), (q7, .inl (D.1 20, 8, .inl (fun _ => 0))), (q14, .inl (D.1 23, 4, .inr (.inl (fun _ => 0)))), (q21, .inl (D.1 23, 4, .inr (.inl (fun _ => 0))))] _ := hP
  have hD : va_D A [(h, .inr (3, [.int (nI 0), .int (nI 0), .int (nI 0), .int (nI 0), .long (lN 0), .int (nI 0), .ref q7, .ref q14, .null, .null, .int (nI 0), .int (nI 0), .int (nI 0), .int (nI 0)])), (q7, .inl (D.1 20, 8, .inl (fun _ => 0))), (q14, .inl (D.1 23, 4, .inr (.inl (fun _ => 0)))), (q21, .inl (D.1 23, 4, .inr (.inl (fun _ => 0))))] := hD
  refine W.widen (k := 3) (n := 16) (Nat.le_refl _) (Nat.le_refl _) ?_
  refine va_putF (D := D) (ci := 3) (v := .ref q21) (ty := .array .long) (C := RX3) (T := TX3) (N := 14) hx hb hts inX3 tyX3 tyX3_ok nmX3 hown hK hP hD hS 0 rfl rfl 8 (by decide) hwd7 (fun _ h9 => h9) rfl hin rfl (by decide +kernel) rfl rfl (Nat.le_of_ble_eq_true rfl) dX3_init_23 (fun H locs hP hD hS => ?_)
  have hP : va_P D kC [(h, .inr (3, [.int (nI 0), .int (nI 0), .int (nI 0), .int (nI 0), .long (lN 0), .int (nI 0), .ref q7, .ref q14, .ref q21, .null, .int (nI 0), .int (nI 0), .int (nI 0), .int (nI 0)])), (q7, .inl (D.1 20, 8, .inl (fun _ => 0))), (q14, .inl (D.1 23, 4, .inr (.inl (fun _ => 0)))), (q21, .inl (D.1 23, 4, .inr (.inl (fun _ => 0))))] _ := hP
  have hD : va_D A [(h, .inr (3, [.int (nI 0), .int (nI 0), .int (nI 0), .int (nI 0), .long (lN 0), .int (nI 0), .ref q7, .ref q14, .ref q21, .null, .int (nI 0), .int (nI 0), .int (nI 0), .int (nI 0)])), (q7, .inl (D.1 20, 8, .inl (fun _ => 0))), (q14, .inl (D.1 23, 4, .inr (.inl (fun _ => 0)))), (q21, .inl (D.1 23, 4, .inr (.inl (fun _ => 0))))] := hD
  refine lv_aload_n hx hb dX3_init_26 rfl (lv_at hl 0 rfl) ?_
  refine lv_iconst (v := nI 4) hx hb dX3_init_27 (by decide) ?_
  refine kn_newa (atype := .long) (a0 := (4, .inr (.inl (fun _ => 0)))) (ty := .long) (N' := 4) hx hb hwd5 rfl (fun C h9 => by cases h9) hK hP hD hS hA 3 rfl (fun _ => rfl) (by decide) (by decide) (Nat.le_of_ble_eq_true rfl) (Nat.le_of_ble_eq_true rfl) dX3_init_28 (fun q28 H hP hD hS => ?_)
  have hP : va_P D kC [(h, .inr (3, [.int (nI 0), .int (nI 0), .int (nI 0), .int (nI 0), .long (lN 0), .int (nI 0), .ref q7, .ref q14, .ref q21, .null, .int (nI 0), .int (nI 0), .int (nI 0), .int (nI 0)])), (q7, .inl (D.1 20, 8, .inl (fun _ => 0))), (q14, .inl (D.1 23, 4, .inr (.inl (fun _ => 0)))), (q21, .inl (D.1 23, 4, .inr (.inl (fun _ => 0)))), (q28, .inl (D.1 23, 4, .inr (.inl (fun _ => 0))))] _ := hP
  have hD : va_D A [(h, .inr (3, [.int (nI 0), .int (nI 0), .int (nI 0), .int (nI 0), .long (lN 0), .int (nI 0), .ref q7, .ref q14, .ref q21, .null, .int (nI 0), .int (nI 0), .int (nI 0), .int (nI 0)])), (q7, .inl (D.1 20, 8, .inl (fun _ => 0))), (q14, .inl (D.1 23, 4, .inr (.inl (fun _ => 0)))), (q21, .inl (D.1 23, 4, .inr (.inl (fun _ => 0)))), (q28, .inl (D.1 23, 4, .inr (.inl (fun _ => 0))))] := hD
  refine W.widen (k := 4) (n := 20) (Nat.le_refl _) (Nat.le_refl _) ?_
  refine va_putF (D := D) (ci := 3) (v := .ref q28) (ty := .array .long) (C := RX3) (T := TX3) (N := 14) hx hb hts inX3 tyX3 tyX3_ok nmX3 hown hK hP hD hS 0 rfl rfl 9 (by decide) hwd8 (fun _ h9 => h9) rfl hin rfl (by decide +kernel) rfl rfl (Nat.le_of_ble_eq_true rfl) dX3_init_30 (fun H locs hP hD hS => ?_)
  have hP : va_P D kC [(h, .inr (3, [.int (nI 0), .int (nI 0), .int (nI 0), .int (nI 0), .long (lN 0), .int (nI 0), .ref q7, .ref q14, .ref q21, .ref q28, .int (nI 0), .int (nI 0), .int (nI 0), .int (nI 0)])), (q7, .inl (D.1 20, 8, .inl (fun _ => 0))), (q14, .inl (D.1 23, 4, .inr (.inl (fun _ => 0)))), (q21, .inl (D.1 23, 4, .inr (.inl (fun _ => 0)))), (q28, .inl (D.1 23, 4, .inr (.inl (fun _ => 0))))] _ := hP
  have hD : va_D A [(h, .inr (3, [.int (nI 0), .int (nI 0), .int (nI 0), .int (nI 0), .long (lN 0), .int (nI 0), .ref q7, .ref q14, .ref q21, .ref q28, .int (nI 0), .int (nI 0), .int (nI 0), .int (nI 0)])), (q7, .inl (D.1 20, 8, .inl (fun _ => 0))), (q14, .inl (D.1 23, 4, .inr (.inl (fun _ => 0)))), (q21, .inl (D.1 23, 4, .inr (.inl (fun _ => 0)))), (q28, .inl (D.1 23, 4, .inr (.inl (fun _ => 0))))] := hD
  refine lv_aload_n hx hb dX3_init_33 rfl (lv_at hl 0 rfl) ?_
  refine lv_bipush (v := nI 15) hx hb dX3_init_34 (by decide) ?_
  refine va_put (D := D) (ci := 3) (v := .int (nI 15)) (ty := .int) (C := RX3) (T := TX3) (N := 14) hx hb hts inX3 tyX3 tyX3_ok nmX3 hown hK hP hD hS 0 rfl rfl 11 (by decide) hwd9 (fun _ h9 => h9) rfl (by decide +kernel) rfl rfl (Nat.le_of_ble_eq_true rfl) dX3_init_36 (fun H locs hP hD hS => ?_)
  have hP : va_P D kC [(h, .inr (3, [.int (nI 0), .int (nI 0), .int (nI 0), .int (nI 0), .long (lN 0), .int (nI 0), .ref q7, .ref q14, .ref q21, .ref q28, .int (nI 0), .int (nI 15), .int (nI 0), .int (nI 0)])), (q7, .inl (D.1 20, 8, .inl (fun _ => 0))), (q14, .inl (D.1 23, 4, .inr (.inl (fun _ => 0)))), (q21, .inl (D.1 23, 4, .inr (.inl (fun _ => 0)))), (q28, .inl (D.1 23, 4, .inr (.inl (fun _ => 0))))] _ := hP
  have hD : va_D A [(h, .inr (3, [.int (nI 0), .int (nI 0), .int (nI 0), .int (nI 0), .long (lN 0), .int (nI 0), .ref q7, .ref q14, .ref q21, .ref q28, .int (nI 0), .int (nI 15), .int (nI 0), .int (nI 0)])), (q7, .inl (D.1 20, 8, .inl (fun _ => 0))), (q14, .inl (D.1 23, 4, .inr (.inl (fun _ => 0)))), (q21, .inl (D.1 23, 4, .inr (.inl (fun _ => 0)))), (q28, .inl (D.1 23, 4, .inr (.inl (fun _ => 0))))] := hD
  refine lv_aload_n hx hb dX3_init_39 rfl (lv_at hl 0 rfl) ?_
  refine lv_iload_n hx hb dX3_init_40 rfl (lv_at hl 1 rfl) ?_
  refine va_putF (D := D) (ci := 3) (v := .int (nI a)) (ty := .int) (C := RX3) (T := TX3) (N := 14) hx hb hts inX3 tyX3 tyX3_ok nmX3 hown hK hP hD hS 0 rfl rfl 0 (by decide) hwd10 (fun _ h9 => h9) rfl hin rfl (by decide +kernel) rfl rfl (Nat.le_of_ble_eq_true rfl) dX3_init_41 (fun H locs hP hD hS => ?_)
  have hP : va_P D kC [(h, .inr (3, [.int (nI a), .int (nI 0), .int (nI 0), .int (nI 0), .long (lN 0), .int (nI 0), .ref q7, .ref q14, .ref q21, .ref q28, .int (nI 0), .int (nI 15), .int (nI 0), .int (nI 0)])), (q7, .inl (D.1 20, 8, .inl (fun _ => 0))), (q14, .inl (D.1 23, 4, .inr (.inl (fun _ => 0)))), (q21, .inl (D.1 23, 4, .inr (.inl (fun _ => 0)))), (q28, .inl (D.1 23, 4, .inr (.inl (fun _ => 0))))] _ := hP
  have hD : va_D A [(h, .inr (3, [.int (nI a), .int (nI 0), .int (nI 0), .int (nI 0), .long (lN 0), .int (nI 0), .ref q7, .ref q14, .ref q21, .ref q28, .int (nI 0), .int (nI 15), .int (nI 0), .int (nI 0)])), (q7, .inl (D.1 20, 8, .inl (fun _ => 0))), (q14, .inl (D.1 23, 4, .inr (.inl (fun _ => 0)))), (q21, .inl (D.1 23, 4, .inr (.inl (fun _ => 0)))), (q28, .inl (D.1 23, 4, .inr (.inl (fun _ => 0))))] := hD
  refine lv_aload_n hx hb dX3_init_44 rfl (lv_at hl 0 rfl) ?_
  refine lv_iload_n hx hb dX3_init_45 rfl (lv_at hl 2 rfl) ?_
  refine va_putF (D := D) (ci := 3) (v := .int (nI b)) (ty := .int) (C := RX3) (T := TX3) (N := 14) hx hb hts inX3 tyX3 tyX3_ok nmX3 hown hK hP hD hS 0 rfl rfl 1 (by decide) hwd11 (fun _ h9 => h9) rfl hin rfl (by decide +kernel) rfl rfl (Nat.le_of_ble_eq_true rfl) dX3_init_46 (fun H locs hP hD hS => ?_)
  have hP : va_P D kC [(h, .inr (3, [.int (nI a), .int (nI b), .int (nI 0), .int (nI 0), .long (lN 0), .int (nI 0), .ref q7, .ref q14, .ref q21, .ref q28, .int (nI 0), .int (nI 15), .int (nI 0), .int (nI 0)])), (q7, .inl (D.1 20, 8, .inl (fun _ => 0))), (q14, .inl (D.1 23, 4, .inr (.inl (fun _ => 0)))), (q21, .inl (D.1 23, 4, .inr (.inl (fun _ => 0)))), (q28, .inl (D.1 23, 4, .inr (.inl (fun _ => 0))))] _ := hP
  have hD : va_D A [(h, .inr (3, [.int (nI a), .int (nI b), .int (nI 0), .int (nI 0), .long (lN 0), .int (nI 0), .ref q7, .ref q14, .ref q21, .ref q28, .int (nI 0), .int (nI 15), .int (nI 0), .int (nI 0)])), (q7, .inl (D.1 20, 8, .inl (fun _ => 0))), (q14, .inl (D.1 23, 4, .inr (.inl (fun _ => 0)))), (q21, .inl (D.1 23, 4, .inr (.inl (fun _ => 0)))), (q28, .inl (D.1 23, 4, .inr (.inl (fun _ => 0))))] := hD
  refine lv_aload_n hx hb dX3_init_49 rfl (lv_at hl 0 rfl) ?_
  refine lv_iload_n hx hb dX3_init_50 rfl (lv_at hl 3 rfl) ?_
  refine va_putF (D := D) (ci := 3) (v := .int (nI z)) (ty := .int) (C := RX3) (T := TX3) (N := 14) hx hb hts inX3 tyX3 tyX3_ok nmX3 hown hK hP hD hS 0 rfl rfl 2 (by decide) hwd12 (fun _ h9 => h9) rfl hin rfl (by decide +kernel) rfl rfl (Nat.le_of_ble_eq_true rfl) dX3_init_51 (fun H locs hP hD hS => ?_)
  have hP : va_P D kC [(h, .inr (3, [.int (nI a), .int (nI b), .int (nI z), .int (nI 0), .long (lN 0), .int (nI 0), .ref q7, .ref q14, .ref q21, .ref q28, .int (nI 0), .int (nI 15), .int (nI 0), .int (nI 0)])), (q7, .inl (D.1 20, 8, .inl (fun _ => 0))), (q14, .inl (D.1 23, 4, .inr (.inl (fun _ => 0)))), (q21, .inl (D.1 23, 4, .inr (.inl (fun _ => 0)))), (q28, .inl (D.1 23, 4, .inr (.inl (fun _ => 0))))] _ := hP
  have hD : va_D A [(h, .inr (3, [.int (nI a), .int (nI b), .int (nI z), .int (nI 0), .long (lN 0), .int (nI 0), .ref q7, .ref q14, .ref q21, .ref q28, .int (nI 0), .int (nI 15), .int (nI 0), .int (nI 0)])), (q7, .inl (D.1 20, 8, .inl (fun _ => 0))), (q14, .inl (D.1 23, 4, .inr (.inl (fun _ => 0)))), (q21, .inl (D.1 23, 4, .inr (.inl (fun _ => 0)))), (q28, .inl (D.1 23, 4, .inr (.inl (fun _ => 0))))] := hD
  refine lv_aload_n hx hb dX3_init_54 rfl (lv_at hl 0 rfl) ?_
  refine lv_iload hx hb dX3_init_55 (lv_at hl 4 rfl) ?_
  refine va_putF (D := D) (ci := 3) (v := .int vd) (ty := .boolean) (C := RX3) (T := TX3) (N := 14) hx hb hts inX3 tyX3 tyX3_ok nmX3 hown hK hP hD hS 0 rfl rfl 3 (by decide) hwd13 (fun _ h9 => h9) rfl hin rfl (by decide +kernel) (by rcases hvd with rfl | rfl <;> rfl) (by rcases hvd with rfl | rfl <;> rfl) (Nat.le_of_ble_eq_true rfl) dX3_init_57 (fun H locs hP hD hS => ?_)
  have hP : va_P D kC [(h, .inr (3, [.int (nI a), .int (nI b), .int (nI z), .int vd, .long (lN 0), .int (nI 0), .ref q7, .ref q14, .ref q21, .ref q28, .int (nI 0), .int (nI 15), .int (nI 0), .int (nI 0)])), (q7, .inl (D.1 20, 8, .inl (fun _ => 0))), (q14, .inl (D.1 23, 4, .inr (.inl (fun _ => 0)))), (q21, .inl (D.1 23, 4, .inr (.inl (fun _ => 0)))), (q28, .inl (D.1 23, 4, .inr (.inl (fun _ => 0))))] _ := hP
  have hD : va_D A [(h, .inr (3, [.int (nI a), .int (nI b), .int (nI z), .int vd, .long (lN 0), .int (nI 0), .ref q7, .ref q14, .ref q21, .ref q28, .int (nI 0), .int (nI 15), .int (nI 0), .int (nI 0)])), (q7, .inl (D.1 20, 8, .inl (fun _ => 0))), (q14, .inl (D.1 23, 4, .inr (.inl (fun _ => 0)))), (q21, .inl (D.1 23, 4, .inr (.inl (fun _ => 0)))), (q28, .inl (D.1 23, 4, .inr (.inl (fun _ => 0))))] := hD
  refine lv_aload_n hx hb dX3_init_60 rfl (lv_at hl 0 rfl) ?_
  refine lv_lload hx hb dX3_init_61 (lv_at hl 5 rfl) ?_
  refine va_putF (D := D) (ci := 3) (v := .long ti) (ty := .long) (C := RX3) (T := TX3) (N := 14) hx hb hts inX3 tyX3 tyX3_ok nmX3 hown hK hP hD hS 0 rfl rfl 4 (by decide) hwd14 (fun _ h9 => h9) rfl hin rfl (by decide +kernel) rfl rfl (Nat.le_of_ble_eq_true rfl) dX3_init_63 (fun H locs hP hD hS => ?_)
  have hP : va_P D kC [(h, .inr (3, [.int (nI a), .int (nI b), .int (nI z), .int vd, .long ti, .int (nI 0), .ref q7, .ref q14, .ref q21, .ref q28, .int (nI 0), .int (nI 15), .int (nI 0), .int (nI 0)])), (q7, .inl (D.1 20, 8, .inl (fun _ => 0))), (q14, .inl (D.1 23, 4, .inr (.inl (fun _ => 0)))), (q21, .inl (D.1 23, 4, .inr (.inl (fun _ => 0)))), (q28, .inl (D.1 23, 4, .inr (.inl (fun _ => 0))))] _ := hP
  have hD : va_D A [(h, .inr (3, [.int (nI a), .int (nI b), .int (nI z), .int vd, .long ti, .int (nI 0), .ref q7, .ref q14, .ref q21, .ref q28, .int (nI 0), .int (nI 15), .int (nI 0), .int (nI 0)])), (q7, .inl (D.1 20, 8, .inl (fun _ => 0))), (q14, .inl (D.1 23, 4, .inr (.inl (fun _ => 0)))), (q21, .inl (D.1 23, 4, .inr (.inl (fun _ => 0)))), (q28, .inl (D.1 23, 4, .inr (.inl (fun _ => 0))))] := hD
  refine lv_aload_n hx hb dX3_init_66 rfl (lv_at hl 0 rfl) ?_
  refine lv_iload hx hb dX3_init_67 (lv_at hl 6 rfl) ?_
  refine va_putF (D := D) (ci := 3) (v := .int (nI cb)) (ty := .int) (C := RX3) (T := TX3) (N := 14) hx hb hts inX3 tyX3 tyX3_ok nmX3 hown hK hP hD hS 0 rfl rfl 5 (by decide) hwd15 (fun _ h9 => h9) rfl hin rfl (by decide +kernel) rfl rfl (Nat.le_of_ble_eq_true rfl) dX3_init_69 (fun H locs hP hD hS => ?_)
  have hP : va_P D kC [(h, .inr (3, [.int (nI a), .int (nI b), .int (nI z), .int vd, .long ti, .int (nI cb), .ref q7, .ref q14, .ref q21, .ref q28, .int (nI 0), .int (nI 15), .int (nI 0), .int (nI 0)])), (q7, .inl (D.1 20, 8, .inl (fun _ => 0))), (q14, .inl (D.1 23, 4, .inr (.inl (fun _ => 0)))), (q21, .inl (D.1 23, 4, .inr (.inl (fun _ => 0)))), (q28, .inl (D.1 23, 4, .inr (.inl (fun _ => 0))))] _ := hP
  have hD : va_D A [(h, .inr (3, [.int (nI a), .int (nI b), .int (nI z), .int vd, .long ti, .int (nI cb), .ref q7, .ref q14, .ref q21, .ref q28, .int (nI 0), .int (nI 15), .int (nI 0), .int (nI 0)])), (q7, .inl (D.1 20, 8, .inl (fun _ => 0))), (q14, .inl (D.1 23, 4, .inr (.inl (fun _ => 0)))), (q21, .inl (D.1 23, 4, .inr (.inl (fun _ => 0)))), (q28, .inl (D.1 23, 4, .inr (.inl (fun _ => 0))))] := hD
  refine lv_aload_n hx hb dX3_init_72 rfl (lv_at hl 0 rfl) ?_
  refine va_get (D := D) (ci := 3) (v := .ref q14) (C := RX3) (T := TX3) (N := 14) hx hb hts inX3 hown hK hP 0 rfl rfl 7 (by decide) hwd6 (fun _ h9 => h9) rfl dX3_init_73 ?_
  refine lv_iconst (v := nI 1) hx hb dX3_init_76 (by decide) ?_
  refine lv_iload_n hx hb dX3_init_77 rfl (lv_at hl 1 rfl) ?_
  refine lv_i2l (v := lN a) hx hb dX3_init_78 (nI_l (by omega)) ?_
  refine kn_last hx hb hK hP hD hS 2 3 rfl rfl (i := 1) (by omega) (by decide) dX3_init_79 (fun H locs hP hD hS => ?_)
  have hP : va_P D kC [(h, .inr (3, [.int (nI a), .int (nI b), .int (nI z), .int vd, .long ti, .int (nI cb), .ref q7, .ref q14, .ref q21, .ref q28, .int (nI 0), .int (nI 15), .int (nI 0), .int (nI 0)])), (q7, .inl (D.1 20, 8, .inl (fun _ => 0))), (q14, .inl (D.1 23, 4, .inr (.inl (vp_updL (fun _ => 0) 1 (lN a))))), (q21, .inl (D.1 23, 4, .inr (.inl (fun _ => 0)))), (q28, .inl (D.1 23, 4, .inr (.inl (fun _ => 0))))] _ := hP
  have hD : va_D A [(h, .inr (3, [.int (nI a), .int (nI b), .int (nI z), .int vd, .long ti, .int (nI cb), .ref q7, .ref q14, .ref q21, .ref q28, .int (nI 0), .int (nI 15), .int (nI 0), .int (nI 0)])), (q7, .inl (D.1 20, 8, .inl (fun _ => 0))), (q14, .inl (D.1 23, 4, .inr (.inl (vp_updL (fun _ => 0) 1 (lN a))))), (q21, .inl (D.1 23, 4, .inr (.inl (fun _ => 0)))), (q28, .inl (D.1 23, 4, .inr (.inl (fun _ => 0))))] := hD
  refine lv_aload_n hx hb dX3_init_80 rfl (lv_at hl 0 rfl) ?_
  refine va_get (D := D) (ci := 3) (v := .ref q14) (C := RX3) (T := TX3) (N := 14) hx hb hts inX3 hown hK hP 0 rfl rfl 7 (by decide) hwd6 (fun _ h9 => h9) rfl dX3_init_81 ?_
  refine lv_iconst (v := nI 2) hx hb dX3_init_84 (by decide) ?_
  refine lv_iload_n hx hb dX3_init_85 rfl (lv_at hl 2 rfl) ?_
  refine lv_i2l (v := lN b) hx hb dX3_init_86 (nI_l (by omega)) ?_
  refine kn_last hx hb hK hP hD hS 2 3 rfl rfl (i := 2) (by omega) (by decide) dX3_init_87 (fun H locs hP hD hS => ?_)
  have hP : va_P D kC [(h, .inr (3, [.int (nI a), .int (nI b), .int (nI z), .int vd, .long ti, .int (nI cb), .ref q7, .ref q14, .ref q21, .ref q28, .int (nI 0), .int (nI 15), .int (nI 0), .int (nI 0)])), (q7, .inl (D.1 20, 8, .inl (fun _ => 0))), (q14, .inl (D.1 23, 4, .inr (.inl (vp_updL (vp_updL (fun _ => 0) 1 (lN a)) 2 (lN b))))), (q21, .inl (D.1 23, 4, .inr (.inl (fun _ => 0)))), (q28, .inl (D.1 23, 4, .inr (.inl (fun _ => 0))))] _ := hP
  have hD : va_D A [(h, .inr (3, [.int (nI a), .int (nI b), .int (nI z), .int vd, .long ti, .int (nI cb), .ref q7, .ref q14, .ref q21, .ref q28, .int (nI 0), .int (nI 15), .int (nI 0), .int (nI 0)])), (q7, .inl (D.1 20, 8, .inl (fun _ => 0))), (q14, .inl (D.1 23, 4, .inr (.inl (vp_updL (vp_updL (fun _ => 0) 1 (lN a)) 2 (lN b))))), (q21, .inl (D.1 23, 4, .inr (.inl (fun _ => 0)))), (q28, .inl (D.1 23, 4, .inr (.inl (fun _ => 0))))] := hD
  refine lv_aload_n hx hb dX3_init_88 rfl (lv_at hl 0 rfl) ?_
  refine va_get (D := D) (ci := 3) (v := .ref q14) (C := RX3) (T := TX3) (N := 14) hx hb hts inX3 hown hK hP 0 rfl rfl 7 (by decide) hwd6 (fun _ h9 => h9) rfl dX3_init_89 ?_
  refine lv_iconst (v := nI 3) hx hb dX3_init_92 (by decide) ?_
  refine lv_iload_n hx hb dX3_init_93 rfl (lv_at hl 3 rfl) ?_
  refine lv_i2l (v := lN z) hx hb dX3_init_94 (nI_l (by omega)) ?_
  refine kn_last hx hb hK hP hD hS 2 3 rfl rfl (i := 3) (by omega) (by decide) dX3_init_95 (fun H locs hP hD hS => ?_)
  have hP : va_P D kC [(h, .inr (3, [.int (nI a), .int (nI b), .int (nI z), .int vd, .long ti, .int (nI cb), .ref q7, .ref q14, .ref q21, .ref q28, .int (nI 0), .int (nI 15), .int (nI 0), .int (nI 0)])), (q7, .inl (D.1 20, 8, .inl (fun _ => 0))), (q14, .inl (D.1 23, 4, .inr (.inl (vp_updL (vp_updL (vp_updL (fun _ => 0) 1 (lN a)) 2 (lN b)) 3 (lN z))))), (q21, .inl (D.1 23, 4, .inr (.inl (fun _ => 0)))), (q28, .inl (D.1 23, 4, .inr (.inl (fun _ => 0))))] _ := hP
  have hD : va_D A [(h, .inr (3, [.int (nI a), .int (nI b), .int (nI z), .int vd, .long ti, .int (nI cb), .ref q7, .ref q14, .ref q21, .ref q28, .int (nI 0), .int (nI 15), .int (nI 0), .int (nI 0)])), (q7, .inl (D.1 20, 8, .inl (fun _ => 0))), (q14, .inl (D.1 23, 4, .inr (.inl (vp_updL (vp_updL (vp_updL (fun _ => 0) 1 (lN a)) 2 (lN b)) 3 (lN z))))), (q21, .inl (D.1 23, 4, .inr (.inl (fun _ => 0)))), (q28, .inl (D.1 23, 4, .inr (.inl (fun _ => 0))))] := hD
  have ef44 : vp_updL (vp_updL (vp_updL (fun _ => 0) 1 (lN a)) 2 (lN b)) 3 (lN z) = kSp0 a b z := rfl
  rw [ef44] at hP hD
  rw [hQ]
  have hP9 : va_P D kC [(h, .inr (3, [.int (nI a), .int (nI b), .int (nI z), .int vd, .long ti, .int (nI cb), .ref q7, .ref q14, .ref q21, .ref q28, .int (nI 0), .int (nI 15), .int (nI 0), .int (nI 0)])), (q7, .inl (D.1 20, 8, .inl (fun _ => 0))), (q14, .inl (D.1 23, 4, .inr (.inl (kSp0 a b z)))), (q21, .inl (D.1 23, 4, .inr (.inl (fun _ => 0)))), (q28, .inl (D.1 23, 4, .inr (.inl (fun _ => 0))))] _ := hP
  have hD9 : va_D A [(h, .inr (3, [.int (nI a), .int (nI b), .int (nI z), .int vd, .long ti, .int (nI cb), .ref q7, .ref q14, .ref q21, .ref q28, .int (nI 0), .int (nI 15), .int (nI 0), .int (nI 0)])), (q7, .inl (D.1 20, 8, .inl (fun _ => 0))), (q14, .inl (D.1 23, 4, .inr (.inl (kSp0 a b z)))), (q21, .inl (D.1 23, 4, .inr (.inl (fun _ => 0)))), (q28, .inl (D.1 23, 4, .inr (.inl (fun _ => 0))))] := hD
  exact W.vret hx hb hr (fun tq ht hW => ⟨⟨(q7, q14, q21, q28), rfl, trivial, by rw [ht]; exact hP9, va_K.moved hW.alike hK, hD9⟩, hS.F ht⟩) hS.2.2 dX3_init_96
