theorem iX6_reckon_X6 : ∀ w ∈ wsX60, w ∈ wsX6_reckon := by decide +kernel
theorem X6_reckon_hwd0 : (.fieldLink RX6 146 "SignatureSpansModel" "state" "[I" : Cond) ∈ wsX6_reckon := by decide +kernel
theorem X6_reckon_hwd1 : (.constant RX6 165 (1779033703) : Cond) ∈ wsX6_reckon := by decide +kernel
theorem X6_reckon_hwd2 : (.constant RX6 166 (-1150833019) : Cond) ∈ wsX6_reckon := by decide +kernel
theorem X6_reckon_hwd3 : (.constant RX6 167 (1013904242) : Cond) ∈ wsX6_reckon := by decide +kernel
theorem X6_reckon_hwd4 : (.constant RX6 168 (-1521486534) : Cond) ∈ wsX6_reckon := by decide +kernel
theorem X6_reckon_hwd5 : (.constant RX6 169 (1359893119) : Cond) ∈ wsX6_reckon := by decide +kernel
theorem X6_reckon_hwd6 : (.constant RX6 170 (-1694144372) : Cond) ∈ wsX6_reckon := by decide +kernel
theorem X6_reckon_hwd7 : (.constant RX6 171 (528734635) : Cond) ∈ wsX6_reckon := by decide +kernel
theorem X6_reckon_hwd8 : (.constant RX6 172 (1541459225) : Cond) ∈ wsX6_reckon := by decide +kernel
theorem X6_reckon_hwd9 : (.fieldLink RX6 152 "SignatureSpansModel" "words" "[I" : Cond) ∈ wsX6_reckon := by decide +kernel
set_option maxHeartbeats 4000000 in
set_option maxRecDepth 100000 in
/-- reckon -/
theorem c_X6_reckon (l : Launch) (D : va_G) (h : Nat) (r : Nat → Nat) (a b z : Nat) (z1 z3 z4 z8 z22 z25 : Int32) (fl sa nw wd : Nat → Int32) (hab : a ≤ b) (hbz : b ≤ z) (hz : z ≤ 1500) : kM (S := (Nat → Int32) × (Nat → Int32) × (Nat → Int32)) l yX6_reckon wsX6_reckon ({ frames := 9, cells := 0, slots := 0, locals := 220 }) 0 0 D [.ref h, .int (nI a), .int (nI b), .int (nI z)] [(h, .inr (6, [.ref (r 0), .int z1, .ref (r 2), .int z3, .int z4, .ref (r 5), .ref (r 6), .ref (r 7), .int z8, .ref (r 9), .ref (r 10), .ref (r 11), .ref (r 12), .ref (r 13), .ref (r 14), .ref (r 15), .ref (r 16), .ref (r 17), .ref (r 18), .ref (r 19), .ref (r 20), .ref (r 21), .int z22, .ref (r 23), .ref (r 24), .int z25, .ref (r 26), .ref (r 27), .ref (r 28), .ref (r 29), .ref (r 30), .ref (r 31)])), ((r 0), .inl (D.1 20, 64, .inl kRd)), ((r 2), .inl (D.1 21, 1500, .inl fl)), ((r 29), .inl (D.1 20, 8, .inl sa)), ((r 30), .inl (D.1 20, 8, .inl nw)), ((r 31), .inl (D.1 20, 64, .inl wd))] (fun _ => none) (fun u => [(h, .inr (6, [.ref (r 0), .int z1, .ref (r 2), .int z3, .int z4, .ref (r 5), .ref (r 6), .ref (r 7), .int z8, .ref (r 9), .ref (r 10), .ref (r 11), .ref (r 12), .ref (r 13), .ref (r 14), .ref (r 15), .ref (r 16), .ref (r 17), .ref (r 18), .ref (r 19), .ref (r 20), .ref (r 21), .int z22, .ref (r 23), .ref (r 24), .int z25, .ref (r 26), .ref (r 27), .ref (r 28), .ref (r 29), .ref (r 30), .ref (r 31)])), ((r 0), .inl (D.1 20, 64, .inl kRd)), ((r 2), .inl (D.1 21, 1500, .inl fl)), ((r 29), .inl (D.1 20, 8, .inl u.1)), ((r 30), .inl (D.1 20, 8, .inl u.2.1)), ((r 31), .inl (D.1 20, 64, .inl u.2.2))]) (fun u => ∀ j, j < 8 → u.1 j = kSha (kMb fl a b) (a + z - b) j) := by
  intro sz
  refine Met.ofW (cc := cX6_reckon) (maxL := 8) (ret := none) (by decide) rfl ?_
  intro p e s m args below meth c s₁ B hml hv
  obtain ⟨rfl, hsz, hP, hK, hD0, hE⟩ := hv
  have hx := B.exec
  have hb := B.bytes
  have hr := B.returns
  have hts := atoms_spec (ws := wsX6_reckon) B.pre
  have hown : s.vm.findClass RX6 = some m.cls := findClass_of_methodNamed B.named
  have hlocks := B.notSynchronized
  subst hsz
  have hD := hD0.self (sz := s.heap.size)
  generalize hAe : va_A [(h, .inr (6, [.ref (r 0), .int z1, .ref (r 2), .int z3, .int z4, .ref (r 5), .ref (r 6), .ref (r 7), .int z8, .ref (r 9), .ref (r 10), .ref (r 11), .ref (r 12), .ref (r 13), .ref (r 14), .ref (r 15), .ref (r 16), .ref (r 17), .ref (r 18), .ref (r 19), .ref (r 20), .ref (r 21), .int z22, .ref (r 23), .ref (r 24), .int z25, .ref (r 26), .ref (r 27), .ref (r 28), .ref (r 29), .ref (r 30), .ref (r 31)])), ((r 0), .inl (D.1 20, 64, .inl kRd)), ((r 2), .inl (D.1 21, 1500, .inl fl)), ((r 29), .inl (D.1 20, 8, .inl sa)), ((r 30), .inl (D.1 20, 8, .inl nw)), ((r 31), .inl (D.1 20, 64, .inl wd))] s.heap.size = A at hD hE ⊢
  have hA : ∀ q : Nat, s.heap.size ≤ q → A q := fun q h => by rw [← hAe]; exact Or.inr h
  have hS : va_S A s.heap s.heap [] := va_S.rf
  have hl := lv_entry ([.ref h, .int (nI a), .int (nI b), .int (nI z)]) (n := 8) (Nat.le_of_ble_eq_true rfl)
  have inX6 : ∀ w ∈ wsX60, w ∈ wsX6_reckon := iX6_reckon_X6
  have hwd0 := hts (.fieldLink RX6 146 "SignatureSpansModel" "state" "[I") X6_reckon_hwd0
  have hwd1 := hts (.constant RX6 165 (1779033703)) X6_reckon_hwd1
  have hwd2 := hts (.constant RX6 166 (-1150833019)) X6_reckon_hwd2
  have hwd3 := hts (.constant RX6 167 (1013904242)) X6_reckon_hwd3
  have hwd4 := hts (.constant RX6 168 (-1521486534)) X6_reckon_hwd4
  have hwd5 := hts (.constant RX6 169 (1359893119)) X6_reckon_hwd5
  have hwd6 := hts (.constant RX6 170 (-1694144372)) X6_reckon_hwd6
  have hwd7 := hts (.constant RX6 171 (528734635)) X6_reckon_hwd7
  have hwd8 := hts (.constant RX6 172 (1541459225)) X6_reckon_hwd8
  have hwd9 := hts (.fieldLink RX6 152 "SignatureSpansModel" "words" "[I") X6_reckon_hwd9
  refine kgenQ (fun Q hQ => ?_)
  rw [lg_entry_eq]
  generalize (lg_sl ([.ref h, .int (nI a), .int (nI b), .int (nI z)]) ++ List.replicate (8 - (lg_sl ([.ref h, .int (nI a), .int (nI b), .int (nI z)])).length) Slot.unset).toArray = ls at hl ⊢
  have hl : lv_has ls 8 [(0, .ref h), (1, .int (nI a)), (2, .int (nI b)), (3, .int (nI z))] := hl
  refine lv_iload_n hx hb dX6_reckon_0 rfl (lv_at hl 1 rfl) ?_
  refine lv_iload_n hx hb dX6_reckon_1 rfl (lv_at hl 3 rfl) ?_
  refine kn_iadd hx hb dX6_reckon_2 ?_
  refine lv_iload_n hx hb dX6_reckon_3 rfl (lv_at hl 2 rfl) ?_
  refine kn_isub hx hb (by omega) dX6_reckon_4 ?_
  refine lv_bipush (v := nI 72) hx hb dX6_reckon_5 (by decide) ?_
  refine kn_iadd hx hb dX6_reckon_7 ?_
  refine lv_bipush (v := nI 64) hx hb dX6_reckon_8 (by decide) ?_
  refine kn_idiv hx hb (by omega) (by omega) (by omega) dX6_reckon_10 ?_
  refine lv_istore (lv' := [(4, .int (nI ((a + z - b + 72) / 64))), (0, .ref h), (1, .int (nI a)), (2, .int (nI b)), (3, .int (nI z))]) hx hb dX6_reckon_11 hl (by decide) rfl (fun ls hl => ?_)
  have ef28 : sa = kSeg sa kSt 0 0 := (kSeg_0 _ _ _).symm
  rw [ef28] at hP hD
  refine lv_aload_n hx hb dX6_reckon_13 rfl (lv_at hl 1 rfl) ?_
  refine va_get (D := D) (ci := 6) (v := .ref (r 29)) (C := RX6) (T := TX6) (N := 32) hx hb hts inX6 hown hK hP 0 rfl rfl 29 (by decide) hwd0 (fun _ h9 => h9) rfl dX6_reckon_14 ?_
  refine lv_iconst (v := nI 0) hx hb dX6_reckon_17 (by decide) ?_
  refine lv_ldc (v := (1779033703)) hx hb hown hwd1 dX6_reckon_18 ?_
  refine kn_iast hx hb hK hP hD hS 3 0 rfl rfl (i := 0) (by omega) (by decide) dX6_reckon_20 (fun H locs hP hD hS => ?_)
  have hP : va_P D kC [(h, .inr (6, [.ref (r 0), .int z1, .ref (r 2), .int z3, .int z4, .ref (r 5), .ref (r 6), .ref (r 7), .int z8, .ref (r 9), .ref (r 10), .ref (r 11), .ref (r 12), .ref (r 13), .ref (r 14), .ref (r 15), .ref (r 16), .ref (r 17), .ref (r 18), .ref (r 19), .ref (r 20), .ref (r 21), .int z22, .ref (r 23), .ref (r 24), .int z25, .ref (r 26), .ref (r 27), .ref (r 28), .ref (r 29), .ref (r 30), .ref (r 31)])), ((r 0), .inl (D.1 20, 64, .inl kRd)), ((r 2), .inl (D.1 21, 1500, .inl fl)), ((r 29), .inl (D.1 20, 8, .inl (upd (kSeg sa kSt 0 0) 0 (1779033703)))), ((r 30), .inl (D.1 20, 8, .inl nw)), ((r 31), .inl (D.1 20, 64, .inl wd))] _ := hP
  have hD : va_D A [(h, .inr (6, [.ref (r 0), .int z1, .ref (r 2), .int z3, .int z4, .ref (r 5), .ref (r 6), .ref (r 7), .int z8, .ref (r 9), .ref (r 10), .ref (r 11), .ref (r 12), .ref (r 13), .ref (r 14), .ref (r 15), .ref (r 16), .ref (r 17), .ref (r 18), .ref (r 19), .ref (r 20), .ref (r 21), .int z22, .ref (r 23), .ref (r 24), .int z25, .ref (r 26), .ref (r 27), .ref (r 28), .ref (r 29), .ref (r 30), .ref (r 31)])), ((r 0), .inl (D.1 20, 64, .inl kRd)), ((r 2), .inl (D.1 21, 1500, .inl fl)), ((r 29), .inl (D.1 20, 8, .inl (upd (kSeg sa kSt 0 0) 0 (1779033703)))), ((r 30), .inl (D.1 20, 8, .inl nw)), ((r 31), .inl (D.1 20, 64, .inl wd))] := hD
  have ef29 : upd (kSeg sa kSt 0 0) 0 (1779033703) = kSeg sa kSt 0 1 := kSeg_up (Nat.zero_le _) rfl
  rw [ef29] at hP hD
  refine lv_aload_n hx hb dX6_reckon_21 rfl (lv_at hl 1 rfl) ?_
  refine va_get (D := D) (ci := 6) (v := .ref (r 29)) (C := RX6) (T := TX6) (N := 32) hx hb hts inX6 hown hK hP 0 rfl rfl 29 (by decide) hwd0 (fun _ h9 => h9) rfl dX6_reckon_22 ?_
  refine lv_iconst (v := nI 1) hx hb dX6_reckon_25 (by decide) ?_
  refine lv_ldc (v := (-1150833019)) hx hb hown hwd2 dX6_reckon_26 ?_
  refine kn_iast hx hb hK hP hD hS 3 0 rfl rfl (i := 1) (by omega) (by decide) dX6_reckon_28 (fun H locs hP hD hS => ?_)
  have hP : va_P D kC [(h, .inr (6, [.ref (r 0), .int z1, .ref (r 2), .int z3, .int z4, .ref (r 5), .ref (r 6), .ref (r 7), .int z8, .ref (r 9), .ref (r 10), .ref (r 11), .ref (r 12), .ref (r 13), .ref (r 14), .ref (r 15), .ref (r 16), .ref (r 17), .ref (r 18), .ref (r 19), .ref (r 20), .ref (r 21), .int z22, .ref (r 23), .ref (r 24), .int z25, .ref (r 26), .ref (r 27), .ref (r 28), .ref (r 29), .ref (r 30), .ref (r 31)])), ((r 0), .inl (D.1 20, 64, .inl kRd)), ((r 2), .inl (D.1 21, 1500, .inl fl)), ((r 29), .inl (D.1 20, 8, .inl (upd (kSeg sa kSt 0 1) 1 (-1150833019)))), ((r 30), .inl (D.1 20, 8, .inl nw)), ((r 31), .inl (D.1 20, 64, .inl wd))] _ := hP
  have hD : va_D A [(h, .inr (6, [.ref (r 0), .int z1, .ref (r 2), .int z3, .int z4, .ref (r 5), .ref (r 6), .ref (r 7), .int z8, .ref (r 9), .ref (r 10), .ref (r 11), .ref (r 12), .ref (r 13), .ref (r 14), .ref (r 15), .ref (r 16), .ref (r 17), .ref (r 18), .ref (r 19), .ref (r 20), .ref (r 21), .int z22, .ref (r 23), .ref (r 24), .int z25, .ref (r 26), .ref (r 27), .ref (r 28), .ref (r 29), .ref (r 30), .ref (r 31)])), ((r 0), .inl (D.1 20, 64, .inl kRd)), ((r 2), .inl (D.1 21, 1500, .inl fl)), ((r 29), .inl (D.1 20, 8, .inl (upd (kSeg sa kSt 0 1) 1 (-1150833019)))), ((r 30), .inl (D.1 20, 8, .inl nw)), ((r 31), .inl (D.1 20, 64, .inl wd))] := hD
  have ef30 : upd (kSeg sa kSt 0 1) 1 (-1150833019) = kSeg sa kSt 0 2 := kSeg_up (Nat.zero_le _) rfl
  rw [ef30] at hP hD
  refine lv_aload_n hx hb dX6_reckon_29 rfl (lv_at hl 1 rfl) ?_
  refine va_get (D := D) (ci := 6) (v := .ref (r 29)) (C := RX6) (T := TX6) (N := 32) hx hb hts inX6 hown hK hP 0 rfl rfl 29 (by decide) hwd0 (fun _ h9 => h9) rfl dX6_reckon_30 ?_
  refine lv_iconst (v := nI 2) hx hb dX6_reckon_33 (by decide) ?_
  refine lv_ldc (v := (1013904242)) hx hb hown hwd3 dX6_reckon_34 ?_
  refine kn_iast hx hb hK hP hD hS 3 0 rfl rfl (i := 2) (by omega) (by decide) dX6_reckon_36 (fun H locs hP hD hS => ?_)
  have hP : va_P D kC [(h, .inr (6, [.ref (r 0), .int z1, .ref (r 2), .int z3, .int z4, .ref (r 5), .ref (r 6), .ref (r 7), .int z8, .ref (r 9), .ref (r 10), .ref (r 11), .ref (r 12), .ref (r 13), .ref (r 14), .ref (r 15), .ref (r 16), .ref (r 17), .ref (r 18), .ref (r 19), .ref (r 20), .ref (r 21), .int z22, .ref (r 23), .ref (r 24), .int z25, .ref (r 26), .ref (r 27), .ref (r 28), .ref (r 29), .ref (r 30), .ref (r 31)])), ((r 0), .inl (D.1 20, 64, .inl kRd)), ((r 2), .inl (D.1 21, 1500, .inl fl)), ((r 29), .inl (D.1 20, 8, .inl (upd (kSeg sa kSt 0 2) 2 (1013904242)))), ((r 30), .inl (D.1 20, 8, .inl nw)), ((r 31), .inl (D.1 20, 64, .inl wd))] _ := hP
  have hD : va_D A [(h, .inr (6, [.ref (r 0), .int z1, .ref (r 2), .int z3, .int z4, .ref (r 5), .ref (r 6), .ref (r 7), .int z8, .ref (r 9), .ref (r 10), .ref (r 11), .ref (r 12), .ref (r 13), .ref (r 14), .ref (r 15), .ref (r 16), .ref (r 17), .ref (r 18), .ref (r 19), .ref (r 20), .ref (r 21), .int z22, .ref (r 23), .ref (r 24), .int z25, .ref (r 26), .ref (r 27), .ref (r 28), .ref (r 29), .ref (r 30), .ref (r 31)])), ((r 0), .inl (D.1 20, 64, .inl kRd)), ((r 2), .inl (D.1 21, 1500, .inl fl)), ((r 29), .inl (D.1 20, 8, .inl (upd (kSeg sa kSt 0 2) 2 (1013904242)))), ((r 30), .inl (D.1 20, 8, .inl nw)), ((r 31), .inl (D.1 20, 64, .inl wd))] := hD
  have ef31 : upd (kSeg sa kSt 0 2) 2 (1013904242) = kSeg sa kSt 0 3 := kSeg_up (Nat.zero_le _) rfl
  rw [ef31] at hP hD
  refine lv_aload_n hx hb dX6_reckon_37 rfl (lv_at hl 1 rfl) ?_
  refine va_get (D := D) (ci := 6) (v := .ref (r 29)) (C := RX6) (T := TX6) (N := 32) hx hb hts inX6 hown hK hP 0 rfl rfl 29 (by decide) hwd0 (fun _ h9 => h9) rfl dX6_reckon_38 ?_
  refine lv_iconst (v := nI 3) hx hb dX6_reckon_41 (by decide) ?_
  refine lv_ldc (v := (-1521486534)) hx hb hown hwd4 dX6_reckon_42 ?_
  refine kn_iast hx hb hK hP hD hS 3 0 rfl rfl (i := 3) (by omega) (by decide) dX6_reckon_44 (fun H locs hP hD hS => ?_)
  have hP : va_P D kC [(h, .inr (6, [.ref (r 0), .int z1, .ref (r 2), .int z3, .int z4, .ref (r 5), .ref (r 6), .ref (r 7), .int z8, .ref (r 9), .ref (r 10), .ref (r 11), .ref (r 12), .ref (r 13), .ref (r 14), .ref (r 15), .ref (r 16), .ref (r 17), .ref (r 18), .ref (r 19), .ref (r 20), .ref (r 21), .int z22, .ref (r 23), .ref (r 24), .int z25, .ref (r 26), .ref (r 27), .ref (r 28), .ref (r 29), .ref (r 30), .ref (r 31)])), ((r 0), .inl (D.1 20, 64, .inl kRd)), ((r 2), .inl (D.1 21, 1500, .inl fl)), ((r 29), .inl (D.1 20, 8, .inl (upd (kSeg sa kSt 0 3) 3 (-1521486534)))), ((r 30), .inl (D.1 20, 8, .inl nw)), ((r 31), .inl (D.1 20, 64, .inl wd))] _ := hP
  have hD : va_D A [(h, .inr (6, [.ref (r 0), .int z1, .ref (r 2), .int z3, .int z4, .ref (r 5), .ref (r 6), .ref (r 7), .int z8, .ref (r 9), .ref (r 10), .ref (r 11), .ref (r 12), .ref (r 13), .ref (r 14), .ref (r 15), .ref (r 16), .ref (r 17), .ref (r 18), .ref (r 19), .ref (r 20), .ref (r 21), .int z22, .ref (r 23), .ref (r 24), .int z25, .ref (r 26), .ref (r 27), .ref (r 28), .ref (r 29), .ref (r 30), .ref (r 31)])), ((r 0), .inl (D.1 20, 64, .inl kRd)), ((r 2), .inl (D.1 21, 1500, .inl fl)), ((r 29), .inl (D.1 20, 8, .inl (upd (kSeg sa kSt 0 3) 3 (-1521486534)))), ((r 30), .inl (D.1 20, 8, .inl nw)), ((r 31), .inl (D.1 20, 64, .inl wd))] := hD
  have ef32 : upd (kSeg sa kSt 0 3) 3 (-1521486534) = kSeg sa kSt 0 4 := kSeg_up (Nat.zero_le _) rfl
  rw [ef32] at hP hD
  refine lv_aload_n hx hb dX6_reckon_45 rfl (lv_at hl 1 rfl) ?_
  refine va_get (D := D) (ci := 6) (v := .ref (r 29)) (C := RX6) (T := TX6) (N := 32) hx hb hts inX6 hown hK hP 0 rfl rfl 29 (by decide) hwd0 (fun _ h9 => h9) rfl dX6_reckon_46 ?_
  refine lv_iconst (v := nI 4) hx hb dX6_reckon_49 (by decide) ?_
  refine lv_ldc (v := (1359893119)) hx hb hown hwd5 dX6_reckon_50 ?_
  refine kn_iast hx hb hK hP hD hS 3 0 rfl rfl (i := 4) (by omega) (by decide) dX6_reckon_52 (fun H locs hP hD hS => ?_)
  have hP : va_P D kC [(h, .inr (6, [.ref (r 0), .int z1, .ref (r 2), .int z3, .int z4, .ref (r 5), .ref (r 6), .ref (r 7), .int z8, .ref (r 9), .ref (r 10), .ref (r 11), .ref (r 12), .ref (r 13), .ref (r 14), .ref (r 15), .ref (r 16), .ref (r 17), .ref (r 18), .ref (r 19), .ref (r 20), .ref (r 21), .int z22, .ref (r 23), .ref (r 24), .int z25, .ref (r 26), .ref (r 27), .ref (r 28), .ref (r 29), .ref (r 30), .ref (r 31)])), ((r 0), .inl (D.1 20, 64, .inl kRd)), ((r 2), .inl (D.1 21, 1500, .inl fl)), ((r 29), .inl (D.1 20, 8, .inl (upd (kSeg sa kSt 0 4) 4 (1359893119)))), ((r 30), .inl (D.1 20, 8, .inl nw)), ((r 31), .inl (D.1 20, 64, .inl wd))] _ := hP
  have hD : va_D A [(h, .inr (6, [.ref (r 0), .int z1, .ref (r 2), .int z3, .int z4, .ref (r 5), .ref (r 6), .ref (r 7), .int z8, .ref (r 9), .ref (r 10), .ref (r 11), .ref (r 12), .ref (r 13), .ref (r 14), .ref (r 15), .ref (r 16), .ref (r 17), .ref (r 18), .ref (r 19), .ref (r 20), .ref (r 21), .int z22, .ref (r 23), .ref (r 24), .int z25, .ref (r 26), .ref (r 27), .ref (r 28), .ref (r 29), .ref (r 30), .ref (r 31)])), ((r 0), .inl (D.1 20, 64, .inl kRd)), ((r 2), .inl (D.1 21, 1500, .inl fl)), ((r 29), .inl (D.1 20, 8, .inl (upd (kSeg sa kSt 0 4) 4 (1359893119)))), ((r 30), .inl (D.1 20, 8, .inl nw)), ((r 31), .inl (D.1 20, 64, .inl wd))] := hD
  have ef33 : upd (kSeg sa kSt 0 4) 4 (1359893119) = kSeg sa kSt 0 5 := kSeg_up (Nat.zero_le _) rfl
  rw [ef33] at hP hD
  refine lv_aload_n hx hb dX6_reckon_53 rfl (lv_at hl 1 rfl) ?_
  refine va_get (D := D) (ci := 6) (v := .ref (r 29)) (C := RX6) (T := TX6) (N := 32) hx hb hts inX6 hown hK hP 0 rfl rfl 29 (by decide) hwd0 (fun _ h9 => h9) rfl dX6_reckon_54 ?_
  refine lv_iconst (v := nI 5) hx hb dX6_reckon_57 (by decide) ?_
  refine lv_ldc (v := (-1694144372)) hx hb hown hwd6 dX6_reckon_58 ?_
  refine kn_iast hx hb hK hP hD hS 3 0 rfl rfl (i := 5) (by omega) (by decide) dX6_reckon_60 (fun H locs hP hD hS => ?_)
  have hP : va_P D kC [(h, .inr (6, [.ref (r 0), .int z1, .ref (r 2), .int z3, .int z4, .ref (r 5), .ref (r 6), .ref (r 7), .int z8, .ref (r 9), .ref (r 10), .ref (r 11), .ref (r 12), .ref (r 13), .ref (r 14), .ref (r 15), .ref (r 16), .ref (r 17), .ref (r 18), .ref (r 19), .ref (r 20), .ref (r 21), .int z22, .ref (r 23), .ref (r 24), .int z25, .ref (r 26), .ref (r 27), .ref (r 28), .ref (r 29), .ref (r 30), .ref (r 31)])), ((r 0), .inl (D.1 20, 64, .inl kRd)), ((r 2), .inl (D.1 21, 1500, .inl fl)), ((r 29), .inl (D.1 20, 8, .inl (upd (kSeg sa kSt 0 5) 5 (-1694144372)))), ((r 30), .inl (D.1 20, 8, .inl nw)), ((r 31), .inl (D.1 20, 64, .inl wd))] _ := hP
  have hD : va_D A [(h, .inr (6, [.ref (r 0), .int z1, .ref (r 2), .int z3, .int z4, .ref (r 5), .ref (r 6), .ref (r 7), .int z8, .ref (r 9), .ref (r 10), .ref (r 11), .ref (r 12), .ref (r 13), .ref (r 14), .ref (r 15), .ref (r 16), .ref (r 17), .ref (r 18), .ref (r 19), .ref (r 20), .ref (r 21), .int z22, .ref (r 23), .ref (r 24), .int z25, .ref (r 26), .ref (r 27), .ref (r 28), .ref (r 29), .ref (r 30), .ref (r 31)])), ((r 0), .inl (D.1 20, 64, .inl kRd)), ((r 2), .inl (D.1 21, 1500, .inl fl)), ((r 29), .inl (D.1 20, 8, .inl (upd (kSeg sa kSt 0 5) 5 (-1694144372)))), ((r 30), .inl (D.1 20, 8, .inl nw)), ((r 31), .inl (D.1 20, 64, .inl wd))] := hD
  have ef34 : upd (kSeg sa kSt 0 5) 5 (-1694144372) = kSeg sa kSt 0 6 := kSeg_up (Nat.zero_le _) rfl
  rw [ef34] at hP hD
  refine lv_aload_n hx hb dX6_reckon_61 rfl (lv_at hl 1 rfl) ?_
  refine va_get (D := D) (ci := 6) (v := .ref (r 29)) (C := RX6) (T := TX6) (N := 32) hx hb hts inX6 hown hK hP 0 rfl rfl 29 (by decide) hwd0 (fun _ h9 => h9) rfl dX6_reckon_62 ?_
  refine lv_bipush (v := nI 6) hx hb dX6_reckon_65 (by decide) ?_
  refine lv_ldc (v := (528734635)) hx hb hown hwd7 dX6_reckon_67 ?_
  refine kn_iast hx hb hK hP hD hS 3 0 rfl rfl (i := 6) (by omega) (by decide) dX6_reckon_69 (fun H locs hP hD hS => ?_)
  have hP : va_P D kC [(h, .inr (6, [.ref (r 0), .int z1, .ref (r 2), .int z3, .int z4, .ref (r 5), .ref (r 6), .ref (r 7), .int z8, .ref (r 9), .ref (r 10), .ref (r 11), .ref (r 12), .ref (r 13), .ref (r 14), .ref (r 15), .ref (r 16), .ref (r 17), .ref (r 18), .ref (r 19), .ref (r 20), .ref (r 21), .int z22, .ref (r 23), .ref (r 24), .int z25, .ref (r 26), .ref (r 27), .ref (r 28), .ref (r 29), .ref (r 30), .ref (r 31)])), ((r 0), .inl (D.1 20, 64, .inl kRd)), ((r 2), .inl (D.1 21, 1500, .inl fl)), ((r 29), .inl (D.1 20, 8, .inl (upd (kSeg sa kSt 0 6) 6 (528734635)))), ((r 30), .inl (D.1 20, 8, .inl nw)), ((r 31), .inl (D.1 20, 64, .inl wd))] _ := hP
  have hD : va_D A [(h, .inr (6, [.ref (r 0), .int z1, .ref (r 2), .int z3, .int z4, .ref (r 5), .ref (r 6), .ref (r 7), .int z8, .ref (r 9), .ref (r 10), .ref (r 11), .ref (r 12), .ref (r 13), .ref (r 14), .ref (r 15), .ref (r 16), .ref (r 17), .ref (r 18), .ref (r 19), .ref (r 20), .ref (r 21), .int z22, .ref (r 23), .ref (r 24), .int z25, .ref (r 26), .ref (r 27), .ref (r 28), .ref (r 29), .ref (r 30), .ref (r 31)])), ((r 0), .inl (D.1 20, 64, .inl kRd)), ((r 2), .inl (D.1 21, 1500, .inl fl)), ((r 29), .inl (D.1 20, 8, .inl (upd (kSeg sa kSt 0 6) 6 (528734635)))), ((r 30), .inl (D.1 20, 8, .inl nw)), ((r 31), .inl (D.1 20, 64, .inl wd))] := hD
  have ef35 : upd (kSeg sa kSt 0 6) 6 (528734635) = kSeg sa kSt 0 7 := kSeg_up (Nat.zero_le _) rfl
  rw [ef35] at hP hD
  refine lv_aload_n hx hb dX6_reckon_70 rfl (lv_at hl 1 rfl) ?_
  refine va_get (D := D) (ci := 6) (v := .ref (r 29)) (C := RX6) (T := TX6) (N := 32) hx hb hts inX6 hown hK hP 0 rfl rfl 29 (by decide) hwd0 (fun _ h9 => h9) rfl dX6_reckon_71 ?_
  refine lv_bipush (v := nI 7) hx hb dX6_reckon_74 (by decide) ?_
  refine lv_ldc (v := (1541459225)) hx hb hown hwd8 dX6_reckon_76 ?_
  refine kn_iast hx hb hK hP hD hS 3 0 rfl rfl (i := 7) (by omega) (by decide) dX6_reckon_78 (fun H locs hP hD hS => ?_)
  have hP : va_P D kC [(h, .inr (6, [.ref (r 0), .int z1, .ref (r 2), .int z3, .int z4, .ref (r 5), .ref (r 6), .ref (r 7), .int z8, .ref (r 9), .ref (r 10), .ref (r 11), .ref (r 12), .ref (r 13), .ref (r 14), .ref (r 15), .ref (r 16), .ref (r 17), .ref (r 18), .ref (r 19), .ref (r 20), .ref (r 21), .int z22, .ref (r 23), .ref (r 24), .int z25, .ref (r 26), .ref (r 27), .ref (r 28), .ref (r 29), .ref (r 30), .ref (r 31)])), ((r 0), .inl (D.1 20, 64, .inl kRd)), ((r 2), .inl (D.1 21, 1500, .inl fl)), ((r 29), .inl (D.1 20, 8, .inl (upd (kSeg sa kSt 0 7) 7 (1541459225)))), ((r 30), .inl (D.1 20, 8, .inl nw)), ((r 31), .inl (D.1 20, 64, .inl wd))] _ := hP
  have hD : va_D A [(h, .inr (6, [.ref (r 0), .int z1, .ref (r 2), .int z3, .int z4, .ref (r 5), .ref (r 6), .ref (r 7), .int z8, .ref (r 9), .ref (r 10), .ref (r 11), .ref (r 12), .ref (r 13), .ref (r 14), .ref (r 15), .ref (r 16), .ref (r 17), .ref (r 18), .ref (r 19), .ref (r 20), .ref (r 21), .int z22, .ref (r 23), .ref (r 24), .int z25, .ref (r 26), .ref (r 27), .ref (r 28), .ref (r 29), .ref (r 30), .ref (r 31)])), ((r 0), .inl (D.1 20, 64, .inl kRd)), ((r 2), .inl (D.1 21, 1500, .inl fl)), ((r 29), .inl (D.1 20, 8, .inl (upd (kSeg sa kSt 0 7) 7 (1541459225)))), ((r 30), .inl (D.1 20, 8, .inl nw)), ((r 31), .inl (D.1 20, 64, .inl wd))] := hD
  have ef36 : upd (kSeg sa kSt 0 7) 7 (1541459225) = kSeg sa kSt 0 8 := kSeg_up (Nat.zero_le _) rfl
  rw [ef36] at hP hD
  refine lv_iconst (v := nI 0) hx hb dX6_reckon_79 (by decide) ?_
  refine lv_istore (lv' := [(5, .int (nI 0)), (4, .int (nI ((a + z - b + 72) / 64))), (0, .ref h), (1, .int (nI a)), (2, .int (nI b)), (3, .int (nI z))]) hx hb dX6_reckon_80 hl (by decide) rfl (fun ls hl => ?_)
  have lb : ∀ fu : Nat, ∀ (b9 : Nat) (s9 : Nat → Int32) (n9 : Nat → Int32) (w9 : Nat → Int32), (b9 ≤ (a + z - b + 72) / 64) → (∀ j, j < 8 → s9 j = kBlks (kPad (kMb fl a b) (a + z - b)) b9 j) → ((a + z - b + 72) / 64 + 1 ≤ b9 + fu) → ∀ (H : Heap) (locs : List Loc), va_P D kC [(h, .inr (6, [.ref (r 0), .int z1, .ref (r 2), .int z3, .int z4, .ref (r 5), .ref (r 6), .ref (r 7), .int z8, .ref (r 9), .ref (r 10), .ref (r 11), .ref (r 12), .ref (r 13), .ref (r 14), .ref (r 15), .ref (r 16), .ref (r 17), .ref (r 18), .ref (r 19), .ref (r 20), .ref (r 21), .int z22, .ref (r 23), .ref (r 24), .int z25, .ref (r 26), .ref (r 27), .ref (r 28), .ref (r 29), .ref (r 30), .ref (r 31)])), ((r 0), .inl (D.1 20, 64, .inl kRd)), ((r 2), .inl (D.1 21, 1500, .inl fl)), ((r 29), .inl (D.1 20, 8, .inl s9)), ((r 30), .inl (D.1 20, 8, .inl n9)), ((r 31), .inl (D.1 20, 64, .inl w9))] H → va_D A [(h, .inr (6, [.ref (r 0), .int z1, .ref (r 2), .int z3, .int z4, .ref (r 5), .ref (r 6), .ref (r 7), .int z8, .ref (r 9), .ref (r 10), .ref (r 11), .ref (r 12), .ref (r 13), .ref (r 14), .ref (r 15), .ref (r 16), .ref (r 17), .ref (r 18), .ref (r 19), .ref (r 20), .ref (r 21), .int z22, .ref (r 23), .ref (r 24), .int z25, .ref (r 26), .ref (r 27), .ref (r 28), .ref (r 29), .ref (r 30), .ref (r 31)])), ((r 0), .inl (D.1 20, 64, .inl kRd)), ((r 2), .inl (D.1 21, 1500, .inl fl)), ((r 29), .inl (D.1 20, 8, .inl s9)), ((r 30), .inl (D.1 20, 8, .inl n9)), ((r 31), .inl (D.1 20, 64, .inl w9))] → va_S A s.heap H locs → ∀ (ls : Array Slot), lv_has ls 8 [(0, .ref h), (1, .int (nI a)), (2, .int (nI b)), (3, .int (nI z)), (4, .int (nI ((a + z - b + 72) / 64))), (5, .int (nI b9))] → W p l e (headSpec wsX6_reckon ({ frames := 9, cells := 0, slots := 0, locals := 220 })).room s m #[Value.ref h, Value.int (nI a), Value.int (nI b), Value.int (nI z)] below meth c H locs 0 0 Q (F0 m 82 ls []) := by
    intro fu
    induction fu with
    | zero =>
      intro b9 s9 n9 w9 h2 hs9 hfu H locs hP hD hS ls hl
      exfalso; omega
    | succ fu ih_lb =>
      intro b9 s9 n9 w9 h2 hs9 hfu H locs hP hD hS ls hl
      refine lv_iload hx hb dX6_reckon_82 (lv_at hl 5 rfl) ?_
      refine lv_iload hx hb dX6_reckon_84 (lv_at hl 4 rfl) ?_
      refine kn_icmp_ge (tgt := 176) hx hb (by omega) (by omega) dX6_reckon_86 (by decide) (fun c_86 => ?_) (fun c_86 => ?_)
      · have eb : b9 = (a + z - b + 72) / 64 := by omega
        rw [hQ]
        have hP9 : va_P D kC [(h, .inr (6, [.ref (r 0), .int z1, .ref (r 2), .int z3, .int z4, .ref (r 5), .ref (r 6), .ref (r 7), .int z8, .ref (r 9), .ref (r 10), .ref (r 11), .ref (r 12), .ref (r 13), .ref (r 14), .ref (r 15), .ref (r 16), .ref (r 17), .ref (r 18), .ref (r 19), .ref (r 20), .ref (r 21), .int z22, .ref (r 23), .ref (r 24), .int z25, .ref (r 26), .ref (r 27), .ref (r 28), .ref (r 29), .ref (r 30), .ref (r 31)])), ((r 0), .inl (D.1 20, 64, .inl kRd)), ((r 2), .inl (D.1 21, 1500, .inl fl)), ((r 29), .inl (D.1 20, 8, .inl s9)), ((r 30), .inl (D.1 20, 8, .inl n9)), ((r 31), .inl (D.1 20, 64, .inl w9))] _ := hP
        have hD9 : va_D A [(h, .inr (6, [.ref (r 0), .int z1, .ref (r 2), .int z3, .int z4, .ref (r 5), .ref (r 6), .ref (r 7), .int z8, .ref (r 9), .ref (r 10), .ref (r 11), .ref (r 12), .ref (r 13), .ref (r 14), .ref (r 15), .ref (r 16), .ref (r 17), .ref (r 18), .ref (r 19), .ref (r 20), .ref (r 21), .int z22, .ref (r 23), .ref (r 24), .int z25, .ref (r 26), .ref (r 27), .ref (r 28), .ref (r 29), .ref (r 30), .ref (r 31)])), ((r 0), .inl (D.1 20, 64, .inl kRd)), ((r 2), .inl (D.1 21, 1500, .inl fl)), ((r 29), .inl (D.1 20, 8, .inl s9)), ((r 30), .inl (D.1 20, 8, .inl n9)), ((r 31), .inl (D.1 20, 64, .inl w9))] := hD
        exact W.vret hx hb hr (fun tq ht hW => ⟨⟨(s9, n9, w9), rfl, fun j hj => (hs9 j hj).trans (by rw [eb]; rfl), by rw [ht]; exact hP9, va_K.moved hW.alike hK, hD9⟩, hS.F ht⟩) hS.2.2 dX6_reckon_176
      · refine lv_iconst (v := nI 0) hx hb dX6_reckon_89 (by decide) ?_
        refine lv_istore (lv' := [(6, .int (nI 0)), (0, .ref h), (1, .int (nI a)), (2, .int (nI b)), (3, .int (nI z)), (4, .int (nI ((a + z - b + 72) / 64))), (5, .int (nI b9))]) hx hb dX6_reckon_90 hl (by decide) rfl (fun ls hl => ?_)
        have lt : ∀ fu2 : Nat, ∀ (i1 : Nat), (i1 ≤ 16) → (17 ≤ i1 + fu2) → ∀ (H : Heap) (locs : List Loc), va_P D kC [(h, .inr (6, [.ref (r 0), .int z1, .ref (r 2), .int z3, .int z4, .ref (r 5), .ref (r 6), .ref (r 7), .int z8, .ref (r 9), .ref (r 10), .ref (r 11), .ref (r 12), .ref (r 13), .ref (r 14), .ref (r 15), .ref (r 16), .ref (r 17), .ref (r 18), .ref (r 19), .ref (r 20), .ref (r 21), .int z22, .ref (r 23), .ref (r 24), .int z25, .ref (r 26), .ref (r 27), .ref (r 28), .ref (r 29), .ref (r 30), .ref (r 31)])), ((r 0), .inl (D.1 20, 64, .inl kRd)), ((r 2), .inl (D.1 21, 1500, .inl fl)), ((r 29), .inl (D.1 20, 8, .inl s9)), ((r 30), .inl (D.1 20, 8, .inl n9)), ((r 31), .inl (D.1 20, 64, .inl (kSeg w9 (fun t => kWd (kPad (kMb fl a b) (a + z - b)) (64 * b9 + 4 * t)) 0 i1)))] H → va_D A [(h, .inr (6, [.ref (r 0), .int z1, .ref (r 2), .int z3, .int z4, .ref (r 5), .ref (r 6), .ref (r 7), .int z8, .ref (r 9), .ref (r 10), .ref (r 11), .ref (r 12), .ref (r 13), .ref (r 14), .ref (r 15), .ref (r 16), .ref (r 17), .ref (r 18), .ref (r 19), .ref (r 20), .ref (r 21), .int z22, .ref (r 23), .ref (r 24), .int z25, .ref (r 26), .ref (r 27), .ref (r 28), .ref (r 29), .ref (r 30), .ref (r 31)])), ((r 0), .inl (D.1 20, 64, .inl kRd)), ((r 2), .inl (D.1 21, 1500, .inl fl)), ((r 29), .inl (D.1 20, 8, .inl s9)), ((r 30), .inl (D.1 20, 8, .inl n9)), ((r 31), .inl (D.1 20, 64, .inl (kSeg w9 (fun t => kWd (kPad (kMb fl a b) (a + z - b)) (64 * b9 + 4 * t)) 0 i1)))] → va_S A s.heap H locs → ∀ (ls : Array Slot), lv_has ls 8 [(0, .ref h), (1, .int (nI a)), (2, .int (nI b)), (3, .int (nI z)), (4, .int (nI ((a + z - b + 72) / 64))), (5, .int (nI b9)), (6, .int (nI i1))] → W p l e (headSpec wsX6_reckon ({ frames := 9, cells := 0, slots := 0, locals := 220 })).room s m #[Value.ref h, Value.int (nI a), Value.int (nI b), Value.int (nI z)] below meth c H locs 0 0 Q (F0 m 92 ls []) := by
          intro fu2
          induction fu2 with
          | zero =>
            intro i1 h1 hfu2 H locs hP hD hS ls hl
            exfalso; omega
          | succ fu2 ih_lt =>
            intro i1 h1 hfu2 H locs hP hD hS ls hl
            refine lv_iload hx hb dX6_reckon_92 (lv_at hl 6 rfl) ?_
            refine lv_bipush (v := nI 16) hx hb dX6_reckon_94 (by decide) ?_
            refine kn_icmp_ge (tgt := 166) hx hb (by omega) (by omega) dX6_reckon_96 (by decide) (fun c_96 => ?_) (fun c_96 => ?_)
            · have ev : i1 = 16 := by omega
              subst ev
              refine lv_aload_n hx hb dX6_reckon_166 rfl (lv_at hl 0 rfl) ?_
              refine kcV (C := RX6) (As := []) (rest := []) (ws := [(h, .inr (6, [.ref (r 0), .int z1, .ref (r 2), .int z3, .int z4, .ref (r 5), .ref (r 6), .ref (r 7), .int z8, .ref (r 9), .ref (r 10), .ref (r 11), .ref (r 12), .ref (r 13), .ref (r 14), .ref (r 15), .ref (r 16), .ref (r 17), .ref (r 18), .ref (r 19), .ref (r 20), .ref (r 21), .int z22, .ref (r 23), .ref (r 24), .int z25, .ref (r 26), .ref (r 27), .ref (r 28), .ref (r 29), .ref (r 30), .ref (r 31)])), ((r 0), .inl (D.1 20, 64, .inl kRd)), ((r 29), .inl (D.1 20, 8, .inl s9)), ((r 30), .inl (D.1 20, 8, .inl n9)), ((r 31), .inl (D.1 20, 64, .inl (kSeg w9 (fun t => kWd (kPad (kMb fl a b) (a + z - b)) (64 * b9 + 4 * t)) 0 16)))]) (wr := [((r 2), .inl (D.1 21, 1500, .inl fl))]) ⟨hx, hb, hml, hown, hts⟩ (c_X6_mix l D h r z1 z3 z4 z8 z22 z25 (kSeg w9 (fun t => kWd (kPad (kMb fl a b) (a + z - b)) (64 * b9 + 4 * t)) 0 16) s9 n9) (cwV 0 hts gX6_reckon_X6_mix rfl rfl rfl (by decide +kernel) ⟨Nat.le_of_ble_eq_true rfl, Nat.le_of_ble_eq_true rfl⟩) hK hE hP hD hS hA [0, 1, 3, 4, 5] [2] rfl rfl rfl rfl (by decide) 0 6 rfl rfl rfl rfl hl.1 rfl (Nat.le_of_ble_eq_true rfl) dX6_reckon_167 ⟨Nat.le_of_ble_eq_true rfl, Nat.le_of_ble_eq_true rfl⟩ (fun _ H locs hpo hP hD hS => ?_)
              have hP : va_P D kC [((r 2), .inl (D.1 21, 1500, .inl fl)), (h, .inr (6, [.ref (r 0), .int z1, .ref (r 2), .int z3, .int z4, .ref (r 5), .ref (r 6), .ref (r 7), .int z8, .ref (r 9), .ref (r 10), .ref (r 11), .ref (r 12), .ref (r 13), .ref (r 14), .ref (r 15), .ref (r 16), .ref (r 17), .ref (r 18), .ref (r 19), .ref (r 20), .ref (r 21), .int z22, .ref (r 23), .ref (r 24), .int z25, .ref (r 26), .ref (r 27), .ref (r 28), .ref (r 29), .ref (r 30), .ref (r 31)])), ((r 0), .inl (D.1 20, 64, .inl kRd)), ((r 29), .inl (D.1 20, 8, .inl (kSeg s9 (fun j => s9 j + kRN (kSchN (kSeg w9 (fun t => kWd (kPad (kMb fl a b) (a + z - b)) (64 * b9 + 4 * t)) 0 16) 48) s9 64 j) 0 8))), ((r 30), .inl (D.1 20, 8, .inl (kSeg n9 (kRN (kSchN (kSeg w9 (fun t => kWd (kPad (kMb fl a b) (a + z - b)) (64 * b9 + 4 * t)) 0 16) 48) s9 64) 0 8))), ((r 31), .inl (D.1 20, 64, .inl (kSchN (kSeg w9 (fun t => kWd (kPad (kMb fl a b) (a + z - b)) (64 * b9 + 4 * t)) 0 16) 48)))] _ := hP
              have hD : va_D A [((r 2), .inl (D.1 21, 1500, .inl fl)), (h, .inr (6, [.ref (r 0), .int z1, .ref (r 2), .int z3, .int z4, .ref (r 5), .ref (r 6), .ref (r 7), .int z8, .ref (r 9), .ref (r 10), .ref (r 11), .ref (r 12), .ref (r 13), .ref (r 14), .ref (r 15), .ref (r 16), .ref (r 17), .ref (r 18), .ref (r 19), .ref (r 20), .ref (r 21), .int z22, .ref (r 23), .ref (r 24), .int z25, .ref (r 26), .ref (r 27), .ref (r 28), .ref (r 29), .ref (r 30), .ref (r 31)])), ((r 0), .inl (D.1 20, 64, .inl kRd)), ((r 29), .inl (D.1 20, 8, .inl (kSeg s9 (fun j => s9 j + kRN (kSchN (kSeg w9 (fun t => kWd (kPad (kMb fl a b) (a + z - b)) (64 * b9 + 4 * t)) 0 16) 48) s9 64 j) 0 8))), ((r 30), .inl (D.1 20, 8, .inl (kSeg n9 (kRN (kSchN (kSeg w9 (fun t => kWd (kPad (kMb fl a b) (a + z - b)) (64 * b9 + 4 * t)) 0 16) 48) s9 64) 0 8))), ((r 31), .inl (D.1 20, 64, .inl (kSchN (kSeg w9 (fun t => kWd (kPad (kMb fl a b) (a + z - b)) (64 * b9 + 4 * t)) 0 16) 48)))] := hD
              refine W.eq (g2 := F0 m 170 ls []) rfl ?_
              refine W.widen (k := 0) (n := 0) (Nat.le_of_ble_eq_true rfl) (Nat.le_of_ble_eq_true rfl) ?_
              refine lv_iinc (v := nI (b9 + 1)) (lv' := [(5, .int (nI (b9 + 1))), (0, .ref h), (1, .int (nI a)), (2, .int (nI b)), (3, .int (nI z)), (4, .int (nI ((a + z - b + 72) / 64))), (6, .int (nI 16))]) hx hb dX6_reckon_170 hl (k := 5) rfl (nI_1 _) (by decide) rfl (fun ls hl => ?_)
              refine lv_goto (tgt := 82) hx hb dX6_reckon_173 (by decide) ?_
              exact ih_lb (b9 + 1) (kSeg s9 (fun j => s9 j + kRN (kSchN (kSeg w9 (fun t => kWd (kPad (kMb fl a b) (a + z - b)) (64 * b9 + 4 * t)) 0 16) 48) s9 64 j) 0 8) (kSeg n9 (kRN (kSchN (kSeg w9 (fun t => kWd (kPad (kMb fl a b) (a + z - b)) (64 * b9 + 4 * t)) 0 16) 48) s9 64) 0 8) (kSchN (kSeg w9 (fun t => kWd (kPad (kMb fl a b) (a + z - b)) (64 * b9 + 4 * t)) 0 16) 48) (by omega) (k_step (kPad (kMb fl a b) (a + z - b)) s9 w9 b9 hs9) (by omega) _ _ (hP.sub [1, 2, 0, 3, 4, 5] rfl) (hD.sub [1, 2, 0, 3, 4, 5] (by decide) rfl) hS ls (lv_sub hl [1, 2, 3, 4, 5, 0] rfl)
            · refine lv_aload_n hx hb dX6_reckon_99 rfl (lv_at hl 0 rfl) ?_
              refine va_get (D := D) (ci := 6) (v := .ref (r 31)) (C := RX6) (T := TX6) (N := 32) hx hb hts inX6 hown hK hP 0 rfl rfl 31 (by decide) hwd9 (fun _ h9 => h9) rfl dX6_reckon_100 ?_
              refine lv_iload hx hb dX6_reckon_103 (lv_at hl 6 rfl) ?_
              refine lv_iconst (v := nI 0) hx hb dX6_reckon_105 (by decide) ?_
              refine kn_iast hx hb hK hP hD hS 5 0 rfl rfl (i := i1) (by omega) (by decide) dX6_reckon_106 (fun H locs hP hD hS => ?_)
              have hP : va_P D kC [(h, .inr (6, [.ref (r 0), .int z1, .ref (r 2), .int z3, .int z4, .ref (r 5), .ref (r 6), .ref (r 7), .int z8, .ref (r 9), .ref (r 10), .ref (r 11), .ref (r 12), .ref (r 13), .ref (r 14), .ref (r 15), .ref (r 16), .ref (r 17), .ref (r 18), .ref (r 19), .ref (r 20), .ref (r 21), .int z22, .ref (r 23), .ref (r 24), .int z25, .ref (r 26), .ref (r 27), .ref (r 28), .ref (r 29), .ref (r 30), .ref (r 31)])), ((r 0), .inl (D.1 20, 64, .inl kRd)), ((r 2), .inl (D.1 21, 1500, .inl fl)), ((r 29), .inl (D.1 20, 8, .inl s9)), ((r 30), .inl (D.1 20, 8, .inl n9)), ((r 31), .inl (D.1 20, 64, .inl (upd (kSeg w9 (fun t => kWd (kPad (kMb fl a b) (a + z - b)) (64 * b9 + 4 * t)) 0 i1) i1 (nI 0))))] _ := hP
              have hD : va_D A [(h, .inr (6, [.ref (r 0), .int z1, .ref (r 2), .int z3, .int z4, .ref (r 5), .ref (r 6), .ref (r 7), .int z8, .ref (r 9), .ref (r 10), .ref (r 11), .ref (r 12), .ref (r 13), .ref (r 14), .ref (r 15), .ref (r 16), .ref (r 17), .ref (r 18), .ref (r 19), .ref (r 20), .ref (r 21), .int z22, .ref (r 23), .ref (r 24), .int z25, .ref (r 26), .ref (r 27), .ref (r 28), .ref (r 29), .ref (r 30), .ref (r 31)])), ((r 0), .inl (D.1 20, 64, .inl kRd)), ((r 2), .inl (D.1 21, 1500, .inl fl)), ((r 29), .inl (D.1 20, 8, .inl s9)), ((r 30), .inl (D.1 20, 8, .inl n9)), ((r 31), .inl (D.1 20, 64, .inl (upd (kSeg w9 (fun t => kWd (kPad (kMb fl a b) (a + z - b)) (64 * b9 + 4 * t)) 0 i1) i1 (nI 0))))] := hD
              refine lv_iconst (v := nI 0) hx hb dX6_reckon_107 (by decide) ?_
              refine lv_istore (lv' := [(7, .int (nI 0)), (0, .ref h), (1, .int (nI a)), (2, .int (nI b)), (3, .int (nI z)), (4, .int (nI ((a + z - b + 72) / 64))), (5, .int (nI b9)), (6, .int (nI i1))]) hx hb dX6_reckon_108 hl (by decide) rfl (fun ls hl => ?_)
              refine lv_iload hx hb dX6_reckon_110 (lv_at hl 0 rfl) ?_
              refine lv_iconst (v := nI 4) hx hb dX6_reckon_112 (by decide) ?_
              refine kn_icmp_ge (tgt := 160) hx hb (by decide) (by decide) dX6_reckon_113 (by decide) (fun c_113 => absurd c_113 (by decide)) (fun c_113 => ?_)
              refine lv_aload_n hx hb dX6_reckon_116 rfl (lv_at hl 1 rfl) ?_
              refine va_get (D := D) (ci := 6) (v := .ref (r 31)) (C := RX6) (T := TX6) (N := 32) hx hb hts inX6 hown hK hP 0 rfl rfl 31 (by decide) hwd9 (fun _ h9 => h9) rfl dX6_reckon_117 ?_
              refine lv_iload hx hb dX6_reckon_120 (lv_at hl 7 rfl) ?_
              refine lv_aload_n hx hb dX6_reckon_122 rfl (lv_at hl 1 rfl) ?_
              refine va_get (D := D) (ci := 6) (v := .ref (r 31)) (C := RX6) (T := TX6) (N := 32) hx hb hts inX6 hown hK hP 0 rfl rfl 31 (by decide) hwd9 (fun _ h9 => h9) rfl dX6_reckon_123 ?_
              refine lv_iload hx hb dX6_reckon_126 (lv_at hl 7 rfl) ?_
              refine kn_iald hx hb hK hP 5 0 rfl rfl (i := i1) (by omega) (by decide) dX6_reckon_128 ?_
              refine kt_i (v' := nI 0) pk_us ?_
              refine lv_bipush (v := nI 8) hx hb dX6_reckon_129 (by decide) ?_
              refine lv_ishl hx hb dX6_reckon_131 ?_
              refine lv_aload_n hx hb dX6_reckon_132 rfl (lv_at hl 1 rfl) ?_
              refine lv_bipush (v := nI 64) hx hb dX6_reckon_133 (by decide) ?_
              refine lv_iload hx hb dX6_reckon_135 (lv_at hl 6 rfl) ?_
              refine kn_imul hx hb dX6_reckon_137 ?_
              refine lv_iconst (v := nI 4) hx hb dX6_reckon_138 (by decide) ?_
              refine lv_iload hx hb dX6_reckon_139 (lv_at hl 7 rfl) ?_
              refine kn_imul hx hb dX6_reckon_141 ?_
              refine kn_iadd hx hb dX6_reckon_142 ?_
              refine lv_iload hx hb dX6_reckon_143 (lv_at hl 0 rfl) ?_
              refine kn_iadd hx hb dX6_reckon_145 ?_
              refine lv_iload_n hx hb dX6_reckon_146 rfl (lv_at hl 2 rfl) ?_
              refine lv_iload_n hx hb dX6_reckon_147 rfl (lv_at hl 3 rfl) ?_
              refine lv_iload_n hx hb dX6_reckon_148 rfl (lv_at hl 4 rfl) ?_
              refine kcV (C := RX6) (As := [.int (nI (64 * b9 + (4 * i1) + 0)), .int (nI a), .int (nI b), .int (nI z)]) (rest := [.int ((nI 0) <<< ((nI 8) &&& 31)), .int (nI i1), .ref (r 31)]) (ws := [(h, .inr (6, [.ref (r 0), .int z1, .ref (r 2), .int z3, .int z4, .ref (r 5), .ref (r 6), .ref (r 7), .int z8, .ref (r 9), .ref (r 10), .ref (r 11), .ref (r 12), .ref (r 13), .ref (r 14), .ref (r 15), .ref (r 16), .ref (r 17), .ref (r 18), .ref (r 19), .ref (r 20), .ref (r 21), .int z22, .ref (r 23), .ref (r 24), .int z25, .ref (r 26), .ref (r 27), .ref (r 28), .ref (r 29), .ref (r 30), .ref (r 31)])), ((r 2), .inl (D.1 21, 1500, .inl fl))]) (wr := [((r 0), .inl (D.1 20, 64, .inl kRd)), ((r 29), .inl (D.1 20, 8, .inl s9)), ((r 30), .inl (D.1 20, 8, .inl n9)), ((r 31), .inl (D.1 20, 64, .inl (upd (kSeg w9 (fun t => kWd (kPad (kMb fl a b) (a + z - b)) (64 * b9 + 4 * t)) 0 i1) i1 (nI 0))))]) ⟨hx, hb, hml, hown, hts⟩ (c_X6_byteOf l D h r (64 * b9 + (4 * i1) + 0) a b z z1 z3 z4 z8 z22 z25 fl (by omega) (by omega) (by omega) (by omega)) (cwV 4 hts gX6_reckon_X6_byteOf rfl rfl rfl (by decide +kernel) ⟨Nat.le_of_ble_eq_true rfl, Nat.le_of_ble_eq_true rfl⟩) hK hE hP hD hS hA [0, 2] [1, 3, 4, 5] rfl rfl rfl rfl (by decide) 0 6 rfl rfl rfl rfl hl.1 rfl (Nat.le_of_ble_eq_true rfl) dX6_reckon_149 ⟨Nat.le_of_ble_eq_true rfl, Nat.le_of_ble_eq_true rfl⟩ (fun _ H locs hpo hP hD hS => ?_)
              have hP : va_P D kC [((r 0), .inl (D.1 20, 64, .inl kRd)), ((r 29), .inl (D.1 20, 8, .inl s9)), ((r 30), .inl (D.1 20, 8, .inl n9)), ((r 31), .inl (D.1 20, 64, .inl (upd (kSeg w9 (fun t => kWd (kPad (kMb fl a b) (a + z - b)) (64 * b9 + 4 * t)) 0 i1) i1 (nI 0)))), (h, .inr (6, [.ref (r 0), .int z1, .ref (r 2), .int z3, .int z4, .ref (r 5), .ref (r 6), .ref (r 7), .int z8, .ref (r 9), .ref (r 10), .ref (r 11), .ref (r 12), .ref (r 13), .ref (r 14), .ref (r 15), .ref (r 16), .ref (r 17), .ref (r 18), .ref (r 19), .ref (r 20), .ref (r 21), .int z22, .ref (r 23), .ref (r 24), .int z25, .ref (r 26), .ref (r 27), .ref (r 28), .ref (r 29), .ref (r 30), .ref (r 31)])), ((r 2), .inl (D.1 21, 1500, .inl fl))] _ := hP
              have hD : va_D A [((r 0), .inl (D.1 20, 64, .inl kRd)), ((r 29), .inl (D.1 20, 8, .inl s9)), ((r 30), .inl (D.1 20, 8, .inl n9)), ((r 31), .inl (D.1 20, 64, .inl (upd (kSeg w9 (fun t => kWd (kPad (kMb fl a b) (a + z - b)) (64 * b9 + 4 * t)) 0 i1) i1 (nI 0)))), (h, .inr (6, [.ref (r 0), .int z1, .ref (r 2), .int z3, .int z4, .ref (r 5), .ref (r 6), .ref (r 7), .int z8, .ref (r 9), .ref (r 10), .ref (r 11), .ref (r 12), .ref (r 13), .ref (r 14), .ref (r 15), .ref (r 16), .ref (r 17), .ref (r 18), .ref (r 19), .ref (r 20), .ref (r 21), .int z22, .ref (r 23), .ref (r 24), .int z25, .ref (r 26), .ref (r 27), .ref (r 28), .ref (r 29), .ref (r 30), .ref (r 31)])), ((r 2), .inl (D.1 21, 1500, .inl fl))] := hD
              refine W.eq (g2 := F0 m 152 ls [.int (kPad (kMb fl a b) (a + z - b) (64 * b9 + (4 * i1) + 0)), .int ((nI 0) <<< ((nI 8) &&& 31)), .int (nI i1), .ref (r 31)]) rfl ?_
              refine W.widen (k := 0) (n := 0) (Nat.le_of_ble_eq_true rfl) (Nat.le_of_ble_eq_true rfl) ?_
              refine lv_ior hx hb dX6_reckon_152 ?_
              refine kn_iast hx hb hK hP hD hS 3 0 rfl rfl (i := i1) (by omega) (by decide) dX6_reckon_153 (fun H locs hP hD hS => ?_)
              have hP : va_P D kC [((r 0), .inl (D.1 20, 64, .inl kRd)), ((r 29), .inl (D.1 20, 8, .inl s9)), ((r 30), .inl (D.1 20, 8, .inl n9)), ((r 31), .inl (D.1 20, 64, .inl (upd (upd (kSeg w9 (fun t => kWd (kPad (kMb fl a b) (a + z - b)) (64 * b9 + 4 * t)) 0 i1) i1 (nI 0)) i1 (((nI 0) <<< ((nI 8) &&& 31)) ||| (kPad (kMb fl a b) (a + z - b) (64 * b9 + (4 * i1) + 0)))))), (h, .inr (6, [.ref (r 0), .int z1, .ref (r 2), .int z3, .int z4, .ref (r 5), .ref (r 6), .ref (r 7), .int z8, .ref (r 9), .ref (r 10), .ref (r 11), .ref (r 12), .ref (r 13), .ref (r 14), .ref (r 15), .ref (r 16), .ref (r 17), .ref (r 18), .ref (r 19), .ref (r 20), .ref (r 21), .int z22, .ref (r 23), .ref (r 24), .int z25, .ref (r 26), .ref (r 27), .ref (r 28), .ref (r 29), .ref (r 30), .ref (r 31)])), ((r 2), .inl (D.1 21, 1500, .inl fl))] _ := hP
              have hD : va_D A [((r 0), .inl (D.1 20, 64, .inl kRd)), ((r 29), .inl (D.1 20, 8, .inl s9)), ((r 30), .inl (D.1 20, 8, .inl n9)), ((r 31), .inl (D.1 20, 64, .inl (upd (upd (kSeg w9 (fun t => kWd (kPad (kMb fl a b) (a + z - b)) (64 * b9 + 4 * t)) 0 i1) i1 (nI 0)) i1 (((nI 0) <<< ((nI 8) &&& 31)) ||| (kPad (kMb fl a b) (a + z - b) (64 * b9 + (4 * i1) + 0)))))), (h, .inr (6, [.ref (r 0), .int z1, .ref (r 2), .int z3, .int z4, .ref (r 5), .ref (r 6), .ref (r 7), .int z8, .ref (r 9), .ref (r 10), .ref (r 11), .ref (r 12), .ref (r 13), .ref (r 14), .ref (r 15), .ref (r 16), .ref (r 17), .ref (r 18), .ref (r 19), .ref (r 20), .ref (r 21), .int z22, .ref (r 23), .ref (r 24), .int z25, .ref (r 26), .ref (r 27), .ref (r 28), .ref (r 29), .ref (r 30), .ref (r 31)])), ((r 2), .inl (D.1 21, 1500, .inl fl))] := hD
              have ef37 : upd (upd (kSeg w9 (fun t => kWd (kPad (kMb fl a b) (a + z - b)) (64 * b9 + 4 * t)) 0 i1) i1 (nI 0)) i1 (((nI 0) <<< ((nI 8) &&& 31)) ||| (kPad (kMb fl a b) (a + z - b) (64 * b9 + (4 * i1) + 0))) = upd (kSeg w9 (fun t => kWd (kPad (kMb fl a b) (a + z - b)) (64 * b9 + 4 * t)) 0 i1) i1 (((nI 0) <<< ((nI 8) &&& 31)) ||| (kPad (kMb fl a b) (a + z - b) (64 * b9 + (4 * i1) + 0))) := kU_uu
              rw [ef37] at hP hD
              refine lv_iinc (v := nI 1) (lv' := [(7, .int (nI 1)), (0, .ref h), (1, .int (nI a)), (2, .int (nI b)), (3, .int (nI z)), (4, .int (nI ((a + z - b + 72) / 64))), (5, .int (nI b9)), (6, .int (nI i1))]) hx hb dX6_reckon_154 hl (k := 0) rfl (nI_1 _) (by decide) rfl (fun ls hl => ?_)
              refine lv_goto (tgt := 110) hx hb dX6_reckon_157 (by decide) ?_
              refine lv_iload hx hb dX6_reckon_110 (lv_at hl 0 rfl) ?_
              refine lv_iconst (v := nI 4) hx hb dX6_reckon_112 (by decide) ?_
              refine kn_icmp_ge (tgt := 160) hx hb (by decide) (by decide) dX6_reckon_113 (by decide) (fun c_113 => absurd c_113 (by decide)) (fun c_113 => ?_)
              refine lv_aload_n hx hb dX6_reckon_116 rfl (lv_at hl 1 rfl) ?_
              refine va_get (D := D) (ci := 6) (v := .ref (r 31)) (C := RX6) (T := TX6) (N := 32) hx hb hts inX6 hown hK hP 4 rfl rfl 31 (by decide) hwd9 (fun _ h9 => h9) rfl dX6_reckon_117 ?_
              refine lv_iload hx hb dX6_reckon_120 (lv_at hl 7 rfl) ?_
              refine lv_aload_n hx hb dX6_reckon_122 rfl (lv_at hl 1 rfl) ?_
              refine va_get (D := D) (ci := 6) (v := .ref (r 31)) (C := RX6) (T := TX6) (N := 32) hx hb hts inX6 hown hK hP 4 rfl rfl 31 (by decide) hwd9 (fun _ h9 => h9) rfl dX6_reckon_123 ?_
              refine lv_iload hx hb dX6_reckon_126 (lv_at hl 7 rfl) ?_
              refine kn_iald hx hb hK hP 3 0 rfl rfl (i := i1) (by omega) (by decide) dX6_reckon_128 ?_
              refine kt_i (v' := ((nI 0) <<< ((nI 8) &&& 31)) ||| (kPad (kMb fl a b) (a + z - b) (64 * b9 + (4 * i1) + 0))) pk_us ?_
              refine lv_bipush (v := nI 8) hx hb dX6_reckon_129 (by decide) ?_
              refine lv_ishl hx hb dX6_reckon_131 ?_
              refine lv_aload_n hx hb dX6_reckon_132 rfl (lv_at hl 1 rfl) ?_
              refine lv_bipush (v := nI 64) hx hb dX6_reckon_133 (by decide) ?_
              refine lv_iload hx hb dX6_reckon_135 (lv_at hl 6 rfl) ?_
              refine kn_imul hx hb dX6_reckon_137 ?_
              refine lv_iconst (v := nI 4) hx hb dX6_reckon_138 (by decide) ?_
              refine lv_iload hx hb dX6_reckon_139 (lv_at hl 7 rfl) ?_
              refine kn_imul hx hb dX6_reckon_141 ?_
              refine kn_iadd hx hb dX6_reckon_142 ?_
              refine lv_iload hx hb dX6_reckon_143 (lv_at hl 0 rfl) ?_
              refine kn_iadd hx hb dX6_reckon_145 ?_
              refine lv_iload_n hx hb dX6_reckon_146 rfl (lv_at hl 2 rfl) ?_
              refine lv_iload_n hx hb dX6_reckon_147 rfl (lv_at hl 3 rfl) ?_
              refine lv_iload_n hx hb dX6_reckon_148 rfl (lv_at hl 4 rfl) ?_
              refine kcV (C := RX6) (As := [.int (nI (64 * b9 + (4 * i1) + 1)), .int (nI a), .int (nI b), .int (nI z)]) (rest := [.int ((((nI 0) <<< ((nI 8) &&& 31)) ||| (kPad (kMb fl a b) (a + z - b) (64 * b9 + (4 * i1) + 0))) <<< ((nI 8) &&& 31)), .int (nI i1), .ref (r 31)]) (ws := [(h, .inr (6, [.ref (r 0), .int z1, .ref (r 2), .int z3, .int z4, .ref (r 5), .ref (r 6), .ref (r 7), .int z8, .ref (r 9), .ref (r 10), .ref (r 11), .ref (r 12), .ref (r 13), .ref (r 14), .ref (r 15), .ref (r 16), .ref (r 17), .ref (r 18), .ref (r 19), .ref (r 20), .ref (r 21), .int z22, .ref (r 23), .ref (r 24), .int z25, .ref (r 26), .ref (r 27), .ref (r 28), .ref (r 29), .ref (r 30), .ref (r 31)])), ((r 2), .inl (D.1 21, 1500, .inl fl))]) (wr := [((r 0), .inl (D.1 20, 64, .inl kRd)), ((r 29), .inl (D.1 20, 8, .inl s9)), ((r 30), .inl (D.1 20, 8, .inl n9)), ((r 31), .inl (D.1 20, 64, .inl (upd (kSeg w9 (fun t => kWd (kPad (kMb fl a b) (a + z - b)) (64 * b9 + 4 * t)) 0 i1) i1 (((nI 0) <<< ((nI 8) &&& 31)) ||| (kPad (kMb fl a b) (a + z - b) (64 * b9 + (4 * i1) + 0))))))]) ⟨hx, hb, hml, hown, hts⟩ (c_X6_byteOf l D h r (64 * b9 + (4 * i1) + 1) a b z z1 z3 z4 z8 z22 z25 fl (by omega) (by omega) (by omega) (by omega)) (cwV 4 hts gX6_reckon_X6_byteOf rfl rfl rfl (by decide +kernel) ⟨Nat.le_of_ble_eq_true rfl, Nat.le_of_ble_eq_true rfl⟩) hK hE hP hD hS hA [4, 5] [0, 1, 2, 3] rfl rfl rfl rfl (by decide) 4 6 rfl rfl rfl rfl hl.1 rfl (Nat.le_of_ble_eq_true rfl) dX6_reckon_149 ⟨Nat.le_of_ble_eq_true rfl, Nat.le_of_ble_eq_true rfl⟩ (fun _ H locs hpo hP hD hS => ?_)
              have hP : va_P D kC [((r 0), .inl (D.1 20, 64, .inl kRd)), ((r 29), .inl (D.1 20, 8, .inl s9)), ((r 30), .inl (D.1 20, 8, .inl n9)), ((r 31), .inl (D.1 20, 64, .inl (upd (kSeg w9 (fun t => kWd (kPad (kMb fl a b) (a + z - b)) (64 * b9 + 4 * t)) 0 i1) i1 (((nI 0) <<< ((nI 8) &&& 31)) ||| (kPad (kMb fl a b) (a + z - b) (64 * b9 + (4 * i1) + 0)))))), (h, .inr (6, [.ref (r 0), .int z1, .ref (r 2), .int z3, .int z4, .ref (r 5), .ref (r 6), .ref (r 7), .int z8, .ref (r 9), .ref (r 10), .ref (r 11), .ref (r 12), .ref (r 13), .ref (r 14), .ref (r 15), .ref (r 16), .ref (r 17), .ref (r 18), .ref (r 19), .ref (r 20), .ref (r 21), .int z22, .ref (r 23), .ref (r 24), .int z25, .ref (r 26), .ref (r 27), .ref (r 28), .ref (r 29), .ref (r 30), .ref (r 31)])), ((r 2), .inl (D.1 21, 1500, .inl fl))] _ := hP
              have hD : va_D A [((r 0), .inl (D.1 20, 64, .inl kRd)), ((r 29), .inl (D.1 20, 8, .inl s9)), ((r 30), .inl (D.1 20, 8, .inl n9)), ((r 31), .inl (D.1 20, 64, .inl (upd (kSeg w9 (fun t => kWd (kPad (kMb fl a b) (a + z - b)) (64 * b9 + 4 * t)) 0 i1) i1 (((nI 0) <<< ((nI 8) &&& 31)) ||| (kPad (kMb fl a b) (a + z - b) (64 * b9 + (4 * i1) + 0)))))), (h, .inr (6, [.ref (r 0), .int z1, .ref (r 2), .int z3, .int z4, .ref (r 5), .ref (r 6), .ref (r 7), .int z8, .ref (r 9), .ref (r 10), .ref (r 11), .ref (r 12), .ref (r 13), .ref (r 14), .ref (r 15), .ref (r 16), .ref (r 17), .ref (r 18), .ref (r 19), .ref (r 20), .ref (r 21), .int z22, .ref (r 23), .ref (r 24), .int z25, .ref (r 26), .ref (r 27), .ref (r 28), .ref (r 29), .ref (r 30), .ref (r 31)])), ((r 2), .inl (D.1 21, 1500, .inl fl))] := hD
              refine W.eq (g2 := F0 m 152 ls [.int (kPad (kMb fl a b) (a + z - b) (64 * b9 + (4 * i1) + 1)), .int ((((nI 0) <<< ((nI 8) &&& 31)) ||| (kPad (kMb fl a b) (a + z - b) (64 * b9 + (4 * i1) + 0))) <<< ((nI 8) &&& 31)), .int (nI i1), .ref (r 31)]) rfl ?_
              refine W.widen (k := 0) (n := 0) (Nat.le_of_ble_eq_true rfl) (Nat.le_of_ble_eq_true rfl) ?_
              refine lv_ior hx hb dX6_reckon_152 ?_
              refine kn_iast hx hb hK hP hD hS 3 0 rfl rfl (i := i1) (by omega) (by decide) dX6_reckon_153 (fun H locs hP hD hS => ?_)
              have hP : va_P D kC [((r 0), .inl (D.1 20, 64, .inl kRd)), ((r 29), .inl (D.1 20, 8, .inl s9)), ((r 30), .inl (D.1 20, 8, .inl n9)), ((r 31), .inl (D.1 20, 64, .inl (upd (upd (kSeg w9 (fun t => kWd (kPad (kMb fl a b) (a + z - b)) (64 * b9 + 4 * t)) 0 i1) i1 (((nI 0) <<< ((nI 8) &&& 31)) ||| (kPad (kMb fl a b) (a + z - b) (64 * b9 + (4 * i1) + 0)))) i1 (((((nI 0) <<< ((nI 8) &&& 31)) ||| (kPad (kMb fl a b) (a + z - b) (64 * b9 + (4 * i1) + 0))) <<< ((nI 8) &&& 31)) ||| (kPad (kMb fl a b) (a + z - b) (64 * b9 + (4 * i1) + 1)))))), (h, .inr (6, [.ref (r 0), .int z1, .ref (r 2), .int z3, .int z4, .ref (r 5), .ref (r 6), .ref (r 7), .int z8, .ref (r 9), .ref (r 10), .ref (r 11), .ref (r 12), .ref (r 13), .ref (r 14), .ref (r 15), .ref (r 16), .ref (r 17), .ref (r 18), .ref (r 19), .ref (r 20), .ref (r 21), .int z22, .ref (r 23), .ref (r 24), .int z25, .ref (r 26), .ref (r 27), .ref (r 28), .ref (r 29), .ref (r 30), .ref (r 31)])), ((r 2), .inl (D.1 21, 1500, .inl fl))] _ := hP
              have hD : va_D A [((r 0), .inl (D.1 20, 64, .inl kRd)), ((r 29), .inl (D.1 20, 8, .inl s9)), ((r 30), .inl (D.1 20, 8, .inl n9)), ((r 31), .inl (D.1 20, 64, .inl (upd (upd (kSeg w9 (fun t => kWd (kPad (kMb fl a b) (a + z - b)) (64 * b9 + 4 * t)) 0 i1) i1 (((nI 0) <<< ((nI 8) &&& 31)) ||| (kPad (kMb fl a b) (a + z - b) (64 * b9 + (4 * i1) + 0)))) i1 (((((nI 0) <<< ((nI 8) &&& 31)) ||| (kPad (kMb fl a b) (a + z - b) (64 * b9 + (4 * i1) + 0))) <<< ((nI 8) &&& 31)) ||| (kPad (kMb fl a b) (a + z - b) (64 * b9 + (4 * i1) + 1)))))), (h, .inr (6, [.ref (r 0), .int z1, .ref (r 2), .int z3, .int z4, .ref (r 5), .ref (r 6), .ref (r 7), .int z8, .ref (r 9), .ref (r 10), .ref (r 11), .ref (r 12), .ref (r 13), .ref (r 14), .ref (r 15), .ref (r 16), .ref (r 17), .ref (r 18), .ref (r 19), .ref (r 20), .ref (r 21), .int z22, .ref (r 23), .ref (r 24), .int z25, .ref (r 26), .ref (r 27), .ref (r 28), .ref (r 29), .ref (r 30), .ref (r 31)])), ((r 2), .inl (D.1 21, 1500, .inl fl))] := hD
              have ef38 : upd (upd (kSeg w9 (fun t => kWd (kPad (kMb fl a b) (a + z - b)) (64 * b9 + 4 * t)) 0 i1) i1 (((nI 0) <<< ((nI 8) &&& 31)) ||| (kPad (kMb fl a b) (a + z - b) (64 * b9 + (4 * i1) + 0)))) i1 (((((nI 0) <<< ((nI 8) &&& 31)) ||| (kPad (kMb fl a b) (a + z - b) (64 * b9 + (4 * i1) + 0))) <<< ((nI 8) &&& 31)) ||| (kPad (kMb fl a b) (a + z - b) (64 * b9 + (4 * i1) + 1))) = upd (kSeg w9 (fun t => kWd (kPad (kMb fl a b) (a + z - b)) (64 * b9 + 4 * t)) 0 i1) i1 (((((nI 0) <<< ((nI 8) &&& 31)) ||| (kPad (kMb fl a b) (a + z - b) (64 * b9 + (4 * i1) + 0))) <<< ((nI 8) &&& 31)) ||| (kPad (kMb fl a b) (a + z - b) (64 * b9 + (4 * i1) + 1))) := kU_uu
              rw [ef38] at hP hD
              refine lv_iinc (v := nI 2) (lv' := [(7, .int (nI 2)), (0, .ref h), (1, .int (nI a)), (2, .int (nI b)), (3, .int (nI z)), (4, .int (nI ((a + z - b + 72) / 64))), (5, .int (nI b9)), (6, .int (nI i1))]) hx hb dX6_reckon_154 hl (k := 0) rfl (nI_1 _) (by decide) rfl (fun ls hl => ?_)
              refine lv_goto (tgt := 110) hx hb dX6_reckon_157 (by decide) ?_
              refine lv_iload hx hb dX6_reckon_110 (lv_at hl 0 rfl) ?_
              refine lv_iconst (v := nI 4) hx hb dX6_reckon_112 (by decide) ?_
              refine kn_icmp_ge (tgt := 160) hx hb (by decide) (by decide) dX6_reckon_113 (by decide) (fun c_113 => absurd c_113 (by decide)) (fun c_113 => ?_)
              refine lv_aload_n hx hb dX6_reckon_116 rfl (lv_at hl 1 rfl) ?_
              refine va_get (D := D) (ci := 6) (v := .ref (r 31)) (C := RX6) (T := TX6) (N := 32) hx hb hts inX6 hown hK hP 4 rfl rfl 31 (by decide) hwd9 (fun _ h9 => h9) rfl dX6_reckon_117 ?_
              refine lv_iload hx hb dX6_reckon_120 (lv_at hl 7 rfl) ?_
              refine lv_aload_n hx hb dX6_reckon_122 rfl (lv_at hl 1 rfl) ?_
              refine va_get (D := D) (ci := 6) (v := .ref (r 31)) (C := RX6) (T := TX6) (N := 32) hx hb hts inX6 hown hK hP 4 rfl rfl 31 (by decide) hwd9 (fun _ h9 => h9) rfl dX6_reckon_123 ?_
              refine lv_iload hx hb dX6_reckon_126 (lv_at hl 7 rfl) ?_
              refine kn_iald hx hb hK hP 3 0 rfl rfl (i := i1) (by omega) (by decide) dX6_reckon_128 ?_
              refine kt_i (v' := ((((nI 0) <<< ((nI 8) &&& 31)) ||| (kPad (kMb fl a b) (a + z - b) (64 * b9 + (4 * i1) + 0))) <<< ((nI 8) &&& 31)) ||| (kPad (kMb fl a b) (a + z - b) (64 * b9 + (4 * i1) + 1))) pk_us ?_
              refine lv_bipush (v := nI 8) hx hb dX6_reckon_129 (by decide) ?_
              refine lv_ishl hx hb dX6_reckon_131 ?_
              refine lv_aload_n hx hb dX6_reckon_132 rfl (lv_at hl 1 rfl) ?_
              refine lv_bipush (v := nI 64) hx hb dX6_reckon_133 (by decide) ?_
              refine lv_iload hx hb dX6_reckon_135 (lv_at hl 6 rfl) ?_
              refine kn_imul hx hb dX6_reckon_137 ?_
              refine lv_iconst (v := nI 4) hx hb dX6_reckon_138 (by decide) ?_
              refine lv_iload hx hb dX6_reckon_139 (lv_at hl 7 rfl) ?_
              refine kn_imul hx hb dX6_reckon_141 ?_
              refine kn_iadd hx hb dX6_reckon_142 ?_
              refine lv_iload hx hb dX6_reckon_143 (lv_at hl 0 rfl) ?_
              refine kn_iadd hx hb dX6_reckon_145 ?_
              refine lv_iload_n hx hb dX6_reckon_146 rfl (lv_at hl 2 rfl) ?_
              refine lv_iload_n hx hb dX6_reckon_147 rfl (lv_at hl 3 rfl) ?_
              refine lv_iload_n hx hb dX6_reckon_148 rfl (lv_at hl 4 rfl) ?_
              refine kcV (C := RX6) (As := [.int (nI (64 * b9 + (4 * i1) + 2)), .int (nI a), .int (nI b), .int (nI z)]) (rest := [.int ((((((nI 0) <<< ((nI 8) &&& 31)) ||| (kPad (kMb fl a b) (a + z - b) (64 * b9 + (4 * i1) + 0))) <<< ((nI 8) &&& 31)) ||| (kPad (kMb fl a b) (a + z - b) (64 * b9 + (4 * i1) + 1))) <<< ((nI 8) &&& 31)), .int (nI i1), .ref (r 31)]) (ws := [(h, .inr (6, [.ref (r 0), .int z1, .ref (r 2), .int z3, .int z4, .ref (r 5), .ref (r 6), .ref (r 7), .int z8, .ref (r 9), .ref (r 10), .ref (r 11), .ref (r 12), .ref (r 13), .ref (r 14), .ref (r 15), .ref (r 16), .ref (r 17), .ref (r 18), .ref (r 19), .ref (r 20), .ref (r 21), .int z22, .ref (r 23), .ref (r 24), .int z25, .ref (r 26), .ref (r 27), .ref (r 28), .ref (r 29), .ref (r 30), .ref (r 31)])), ((r 2), .inl (D.1 21, 1500, .inl fl))]) (wr := [((r 0), .inl (D.1 20, 64, .inl kRd)), ((r 29), .inl (D.1 20, 8, .inl s9)), ((r 30), .inl (D.1 20, 8, .inl n9)), ((r 31), .inl (D.1 20, 64, .inl (upd (kSeg w9 (fun t => kWd (kPad (kMb fl a b) (a + z - b)) (64 * b9 + 4 * t)) 0 i1) i1 (((((nI 0) <<< ((nI 8) &&& 31)) ||| (kPad (kMb fl a b) (a + z - b) (64 * b9 + (4 * i1) + 0))) <<< ((nI 8) &&& 31)) ||| (kPad (kMb fl a b) (a + z - b) (64 * b9 + (4 * i1) + 1))))))]) ⟨hx, hb, hml, hown, hts⟩ (c_X6_byteOf l D h r (64 * b9 + (4 * i1) + 2) a b z z1 z3 z4 z8 z22 z25 fl (by omega) (by omega) (by omega) (by omega)) (cwV 4 hts gX6_reckon_X6_byteOf rfl rfl rfl (by decide +kernel) ⟨Nat.le_of_ble_eq_true rfl, Nat.le_of_ble_eq_true rfl⟩) hK hE hP hD hS hA [4, 5] [0, 1, 2, 3] rfl rfl rfl rfl (by decide) 4 6 rfl rfl rfl rfl hl.1 rfl (Nat.le_of_ble_eq_true rfl) dX6_reckon_149 ⟨Nat.le_of_ble_eq_true rfl, Nat.le_of_ble_eq_true rfl⟩ (fun _ H locs hpo hP hD hS => ?_)
              have hP : va_P D kC [((r 0), .inl (D.1 20, 64, .inl kRd)), ((r 29), .inl (D.1 20, 8, .inl s9)), ((r 30), .inl (D.1 20, 8, .inl n9)), ((r 31), .inl (D.1 20, 64, .inl (upd (kSeg w9 (fun t => kWd (kPad (kMb fl a b) (a + z - b)) (64 * b9 + 4 * t)) 0 i1) i1 (((((nI 0) <<< ((nI 8) &&& 31)) ||| (kPad (kMb fl a b) (a + z - b) (64 * b9 + (4 * i1) + 0))) <<< ((nI 8) &&& 31)) ||| (kPad (kMb fl a b) (a + z - b) (64 * b9 + (4 * i1) + 1)))))), (h, .inr (6, [.ref (r 0), .int z1, .ref (r 2), .int z3, .int z4, .ref (r 5), .ref (r 6), .ref (r 7), .int z8, .ref (r 9), .ref (r 10), .ref (r 11), .ref (r 12), .ref (r 13), .ref (r 14), .ref (r 15), .ref (r 16), .ref (r 17), .ref (r 18), .ref (r 19), .ref (r 20), .ref (r 21), .int z22, .ref (r 23), .ref (r 24), .int z25, .ref (r 26), .ref (r 27), .ref (r 28), .ref (r 29), .ref (r 30), .ref (r 31)])), ((r 2), .inl (D.1 21, 1500, .inl fl))] _ := hP
              have hD : va_D A [((r 0), .inl (D.1 20, 64, .inl kRd)), ((r 29), .inl (D.1 20, 8, .inl s9)), ((r 30), .inl (D.1 20, 8, .inl n9)), ((r 31), .inl (D.1 20, 64, .inl (upd (kSeg w9 (fun t => kWd (kPad (kMb fl a b) (a + z - b)) (64 * b9 + 4 * t)) 0 i1) i1 (((((nI 0) <<< ((nI 8) &&& 31)) ||| (kPad (kMb fl a b) (a + z - b) (64 * b9 + (4 * i1) + 0))) <<< ((nI 8) &&& 31)) ||| (kPad (kMb fl a b) (a + z - b) (64 * b9 + (4 * i1) + 1)))))), (h, .inr (6, [.ref (r 0), .int z1, .ref (r 2), .int z3, .int z4, .ref (r 5), .ref (r 6), .ref (r 7), .int z8, .ref (r 9), .ref (r 10), .ref (r 11), .ref (r 12), .ref (r 13), .ref (r 14), .ref (r 15), .ref (r 16), .ref (r 17), .ref (r 18), .ref (r 19), .ref (r 20), .ref (r 21), .int z22, .ref (r 23), .ref (r 24), .int z25, .ref (r 26), .ref (r 27), .ref (r 28), .ref (r 29), .ref (r 30), .ref (r 31)])), ((r 2), .inl (D.1 21, 1500, .inl fl))] := hD
              refine W.eq (g2 := F0 m 152 ls [.int (kPad (kMb fl a b) (a + z - b) (64 * b9 + (4 * i1) + 2)), .int ((((((nI 0) <<< ((nI 8) &&& 31)) ||| (kPad (kMb fl a b) (a + z - b) (64 * b9 + (4 * i1) + 0))) <<< ((nI 8) &&& 31)) ||| (kPad (kMb fl a b) (a + z - b) (64 * b9 + (4 * i1) + 1))) <<< ((nI 8) &&& 31)), .int (nI i1), .ref (r 31)]) rfl ?_
              refine W.widen (k := 0) (n := 0) (Nat.le_of_ble_eq_true rfl) (Nat.le_of_ble_eq_true rfl) ?_
              refine lv_ior hx hb dX6_reckon_152 ?_
              refine kn_iast hx hb hK hP hD hS 3 0 rfl rfl (i := i1) (by omega) (by decide) dX6_reckon_153 (fun H locs hP hD hS => ?_)
              have hP : va_P D kC [((r 0), .inl (D.1 20, 64, .inl kRd)), ((r 29), .inl (D.1 20, 8, .inl s9)), ((r 30), .inl (D.1 20, 8, .inl n9)), ((r 31), .inl (D.1 20, 64, .inl (upd (upd (kSeg w9 (fun t => kWd (kPad (kMb fl a b) (a + z - b)) (64 * b9 + 4 * t)) 0 i1) i1 (((((nI 0) <<< ((nI 8) &&& 31)) ||| (kPad (kMb fl a b) (a + z - b) (64 * b9 + (4 * i1) + 0))) <<< ((nI 8) &&& 31)) ||| (kPad (kMb fl a b) (a + z - b) (64 * b9 + (4 * i1) + 1)))) i1 (((((((nI 0) <<< ((nI 8) &&& 31)) ||| (kPad (kMb fl a b) (a + z - b) (64 * b9 + (4 * i1) + 0))) <<< ((nI 8) &&& 31)) ||| (kPad (kMb fl a b) (a + z - b) (64 * b9 + (4 * i1) + 1))) <<< ((nI 8) &&& 31)) ||| (kPad (kMb fl a b) (a + z - b) (64 * b9 + (4 * i1) + 2)))))), (h, .inr (6, [.ref (r 0), .int z1, .ref (r 2), .int z3, .int z4, .ref (r 5), .ref (r 6), .ref (r 7), .int z8, .ref (r 9), .ref (r 10), .ref (r 11), .ref (r 12), .ref (r 13), .ref (r 14), .ref (r 15), .ref (r 16), .ref (r 17), .ref (r 18), .ref (r 19), .ref (r 20), .ref (r 21), .int z22, .ref (r 23), .ref (r 24), .int z25, .ref (r 26), .ref (r 27), .ref (r 28), .ref (r 29), .ref (r 30), .ref (r 31)])), ((r 2), .inl (D.1 21, 1500, .inl fl))] _ := hP
              have hD : va_D A [((r 0), .inl (D.1 20, 64, .inl kRd)), ((r 29), .inl (D.1 20, 8, .inl s9)), ((r 30), .inl (D.1 20, 8, .inl n9)), ((r 31), .inl (D.1 20, 64, .inl (upd (upd (kSeg w9 (fun t => kWd (kPad (kMb fl a b) (a + z - b)) (64 * b9 + 4 * t)) 0 i1) i1 (((((nI 0) <<< ((nI 8) &&& 31)) ||| (kPad (kMb fl a b) (a + z - b) (64 * b9 + (4 * i1) + 0))) <<< ((nI 8) &&& 31)) ||| (kPad (kMb fl a b) (a + z - b) (64 * b9 + (4 * i1) + 1)))) i1 (((((((nI 0) <<< ((nI 8) &&& 31)) ||| (kPad (kMb fl a b) (a + z - b) (64 * b9 + (4 * i1) + 0))) <<< ((nI 8) &&& 31)) ||| (kPad (kMb fl a b) (a + z - b) (64 * b9 + (4 * i1) + 1))) <<< ((nI 8) &&& 31)) ||| (kPad (kMb fl a b) (a + z - b) (64 * b9 + (4 * i1) + 2)))))), (h, .inr (6, [.ref (r 0), .int z1, .ref (r 2), .int z3, .int z4, .ref (r 5), .ref (r 6), .ref (r 7), .int z8, .ref (r 9), .ref (r 10), .ref (r 11), .ref (r 12), .ref (r 13), .ref (r 14), .ref (r 15), .ref (r 16), .ref (r 17), .ref (r 18), .ref (r 19), .ref (r 20), .ref (r 21), .int z22, .ref (r 23), .ref (r 24), .int z25, .ref (r 26), .ref (r 27), .ref (r 28), .ref (r 29), .ref (r 30), .ref (r 31)])), ((r 2), .inl (D.1 21, 1500, .inl fl))] := hD
              have ef39 : upd (upd (kSeg w9 (fun t => kWd (kPad (kMb fl a b) (a + z - b)) (64 * b9 + 4 * t)) 0 i1) i1 (((((nI 0) <<< ((nI 8) &&& 31)) ||| (kPad (kMb fl a b) (a + z - b) (64 * b9 + (4 * i1) + 0))) <<< ((nI 8) &&& 31)) ||| (kPad (kMb fl a b) (a + z - b) (64 * b9 + (4 * i1) + 1)))) i1 (((((((nI 0) <<< ((nI 8) &&& 31)) ||| (kPad (kMb fl a b) (a + z - b) (64 * b9 + (4 * i1) + 0))) <<< ((nI 8) &&& 31)) ||| (kPad (kMb fl a b) (a + z - b) (64 * b9 + (4 * i1) + 1))) <<< ((nI 8) &&& 31)) ||| (kPad (kMb fl a b) (a + z - b) (64 * b9 + (4 * i1) + 2))) = upd (kSeg w9 (fun t => kWd (kPad (kMb fl a b) (a + z - b)) (64 * b9 + 4 * t)) 0 i1) i1 (((((((nI 0) <<< ((nI 8) &&& 31)) ||| (kPad (kMb fl a b) (a + z - b) (64 * b9 + (4 * i1) + 0))) <<< ((nI 8) &&& 31)) ||| (kPad (kMb fl a b) (a + z - b) (64 * b9 + (4 * i1) + 1))) <<< ((nI 8) &&& 31)) ||| (kPad (kMb fl a b) (a + z - b) (64 * b9 + (4 * i1) + 2))) := kU_uu
              rw [ef39] at hP hD
              refine lv_iinc (v := nI 3) (lv' := [(7, .int (nI 3)), (0, .ref h), (1, .int (nI a)), (2, .int (nI b)), (3, .int (nI z)), (4, .int (nI ((a + z - b + 72) / 64))), (5, .int (nI b9)), (6, .int (nI i1))]) hx hb dX6_reckon_154 hl (k := 0) rfl (nI_1 _) (by decide) rfl (fun ls hl => ?_)
              refine lv_goto (tgt := 110) hx hb dX6_reckon_157 (by decide) ?_
              refine lv_iload hx hb dX6_reckon_110 (lv_at hl 0 rfl) ?_
              refine lv_iconst (v := nI 4) hx hb dX6_reckon_112 (by decide) ?_
              refine kn_icmp_ge (tgt := 160) hx hb (by decide) (by decide) dX6_reckon_113 (by decide) (fun c_113 => absurd c_113 (by decide)) (fun c_113 => ?_)
              refine lv_aload_n hx hb dX6_reckon_116 rfl (lv_at hl 1 rfl) ?_
              refine va_get (D := D) (ci := 6) (v := .ref (r 31)) (C := RX6) (T := TX6) (N := 32) hx hb hts inX6 hown hK hP 4 rfl rfl 31 (by decide) hwd9 (fun _ h9 => h9) rfl dX6_reckon_117 ?_
              refine lv_iload hx hb dX6_reckon_120 (lv_at hl 7 rfl) ?_
              refine lv_aload_n hx hb dX6_reckon_122 rfl (lv_at hl 1 rfl) ?_
              refine va_get (D := D) (ci := 6) (v := .ref (r 31)) (C := RX6) (T := TX6) (N := 32) hx hb hts inX6 hown hK hP 4 rfl rfl 31 (by decide) hwd9 (fun _ h9 => h9) rfl dX6_reckon_123 ?_
              refine lv_iload hx hb dX6_reckon_126 (lv_at hl 7 rfl) ?_
              refine kn_iald hx hb hK hP 3 0 rfl rfl (i := i1) (by omega) (by decide) dX6_reckon_128 ?_
              refine kt_i (v' := ((((((nI 0) <<< ((nI 8) &&& 31)) ||| (kPad (kMb fl a b) (a + z - b) (64 * b9 + (4 * i1) + 0))) <<< ((nI 8) &&& 31)) ||| (kPad (kMb fl a b) (a + z - b) (64 * b9 + (4 * i1) + 1))) <<< ((nI 8) &&& 31)) ||| (kPad (kMb fl a b) (a + z - b) (64 * b9 + (4 * i1) + 2))) pk_us ?_
              refine lv_bipush (v := nI 8) hx hb dX6_reckon_129 (by decide) ?_
              refine lv_ishl hx hb dX6_reckon_131 ?_
              refine lv_aload_n hx hb dX6_reckon_132 rfl (lv_at hl 1 rfl) ?_
              refine lv_bipush (v := nI 64) hx hb dX6_reckon_133 (by decide) ?_
              refine lv_iload hx hb dX6_reckon_135 (lv_at hl 6 rfl) ?_
              refine kn_imul hx hb dX6_reckon_137 ?_
              refine lv_iconst (v := nI 4) hx hb dX6_reckon_138 (by decide) ?_
              refine lv_iload hx hb dX6_reckon_139 (lv_at hl 7 rfl) ?_
              refine kn_imul hx hb dX6_reckon_141 ?_
              refine kn_iadd hx hb dX6_reckon_142 ?_
              refine lv_iload hx hb dX6_reckon_143 (lv_at hl 0 rfl) ?_
              refine kn_iadd hx hb dX6_reckon_145 ?_
              refine lv_iload_n hx hb dX6_reckon_146 rfl (lv_at hl 2 rfl) ?_
              refine lv_iload_n hx hb dX6_reckon_147 rfl (lv_at hl 3 rfl) ?_
              refine lv_iload_n hx hb dX6_reckon_148 rfl (lv_at hl 4 rfl) ?_
              refine kcV (C := RX6) (As := [.int (nI (64 * b9 + (4 * i1) + 3)), .int (nI a), .int (nI b), .int (nI z)]) (rest := [.int ((((((((nI 0) <<< ((nI 8) &&& 31)) ||| (kPad (kMb fl a b) (a + z - b) (64 * b9 + (4 * i1) + 0))) <<< ((nI 8) &&& 31)) ||| (kPad (kMb fl a b) (a + z - b) (64 * b9 + (4 * i1) + 1))) <<< ((nI 8) &&& 31)) ||| (kPad (kMb fl a b) (a + z - b) (64 * b9 + (4 * i1) + 2))) <<< ((nI 8) &&& 31)), .int (nI i1), .ref (r 31)]) (ws := [(h, .inr (6, [.ref (r 0), .int z1, .ref (r 2), .int z3, .int z4, .ref (r 5), .ref (r 6), .ref (r 7), .int z8, .ref (r 9), .ref (r 10), .ref (r 11), .ref (r 12), .ref (r 13), .ref (r 14), .ref (r 15), .ref (r 16), .ref (r 17), .ref (r 18), .ref (r 19), .ref (r 20), .ref (r 21), .int z22, .ref (r 23), .ref (r 24), .int z25, .ref (r 26), .ref (r 27), .ref (r 28), .ref (r 29), .ref (r 30), .ref (r 31)])), ((r 2), .inl (D.1 21, 1500, .inl fl))]) (wr := [((r 0), .inl (D.1 20, 64, .inl kRd)), ((r 29), .inl (D.1 20, 8, .inl s9)), ((r 30), .inl (D.1 20, 8, .inl n9)), ((r 31), .inl (D.1 20, 64, .inl (upd (kSeg w9 (fun t => kWd (kPad (kMb fl a b) (a + z - b)) (64 * b9 + 4 * t)) 0 i1) i1 (((((((nI 0) <<< ((nI 8) &&& 31)) ||| (kPad (kMb fl a b) (a + z - b) (64 * b9 + (4 * i1) + 0))) <<< ((nI 8) &&& 31)) ||| (kPad (kMb fl a b) (a + z - b) (64 * b9 + (4 * i1) + 1))) <<< ((nI 8) &&& 31)) ||| (kPad (kMb fl a b) (a + z - b) (64 * b9 + (4 * i1) + 2))))))]) ⟨hx, hb, hml, hown, hts⟩ (c_X6_byteOf l D h r (64 * b9 + (4 * i1) + 3) a b z z1 z3 z4 z8 z22 z25 fl (by omega) (by omega) (by omega) (by omega)) (cwV 4 hts gX6_reckon_X6_byteOf rfl rfl rfl (by decide +kernel) ⟨Nat.le_of_ble_eq_true rfl, Nat.le_of_ble_eq_true rfl⟩) hK hE hP hD hS hA [4, 5] [0, 1, 2, 3] rfl rfl rfl rfl (by decide) 4 6 rfl rfl rfl rfl hl.1 rfl (Nat.le_of_ble_eq_true rfl) dX6_reckon_149 ⟨Nat.le_of_ble_eq_true rfl, Nat.le_of_ble_eq_true rfl⟩ (fun _ H locs hpo hP hD hS => ?_)
              have hP : va_P D kC [((r 0), .inl (D.1 20, 64, .inl kRd)), ((r 29), .inl (D.1 20, 8, .inl s9)), ((r 30), .inl (D.1 20, 8, .inl n9)), ((r 31), .inl (D.1 20, 64, .inl (upd (kSeg w9 (fun t => kWd (kPad (kMb fl a b) (a + z - b)) (64 * b9 + 4 * t)) 0 i1) i1 (((((((nI 0) <<< ((nI 8) &&& 31)) ||| (kPad (kMb fl a b) (a + z - b) (64 * b9 + (4 * i1) + 0))) <<< ((nI 8) &&& 31)) ||| (kPad (kMb fl a b) (a + z - b) (64 * b9 + (4 * i1) + 1))) <<< ((nI 8) &&& 31)) ||| (kPad (kMb fl a b) (a + z - b) (64 * b9 + (4 * i1) + 2)))))), (h, .inr (6, [.ref (r 0), .int z1, .ref (r 2), .int z3, .int z4, .ref (r 5), .ref (r 6), .ref (r 7), .int z8, .ref (r 9), .ref (r 10), .ref (r 11), .ref (r 12), .ref (r 13), .ref (r 14), .ref (r 15), .ref (r 16), .ref (r 17), .ref (r 18), .ref (r 19), .ref (r 20), .ref (r 21), .int z22, .ref (r 23), .ref (r 24), .int z25, .ref (r 26), .ref (r 27), .ref (r 28), .ref (r 29), .ref (r 30), .ref (r 31)])), ((r 2), .inl (D.1 21, 1500, .inl fl))] _ := hP
              have hD : va_D A [((r 0), .inl (D.1 20, 64, .inl kRd)), ((r 29), .inl (D.1 20, 8, .inl s9)), ((r 30), .inl (D.1 20, 8, .inl n9)), ((r 31), .inl (D.1 20, 64, .inl (upd (kSeg w9 (fun t => kWd (kPad (kMb fl a b) (a + z - b)) (64 * b9 + 4 * t)) 0 i1) i1 (((((((nI 0) <<< ((nI 8) &&& 31)) ||| (kPad (kMb fl a b) (a + z - b) (64 * b9 + (4 * i1) + 0))) <<< ((nI 8) &&& 31)) ||| (kPad (kMb fl a b) (a + z - b) (64 * b9 + (4 * i1) + 1))) <<< ((nI 8) &&& 31)) ||| (kPad (kMb fl a b) (a + z - b) (64 * b9 + (4 * i1) + 2)))))), (h, .inr (6, [.ref (r 0), .int z1, .ref (r 2), .int z3, .int z4, .ref (r 5), .ref (r 6), .ref (r 7), .int z8, .ref (r 9), .ref (r 10), .ref (r 11), .ref (r 12), .ref (r 13), .ref (r 14), .ref (r 15), .ref (r 16), .ref (r 17), .ref (r 18), .ref (r 19), .ref (r 20), .ref (r 21), .int z22, .ref (r 23), .ref (r 24), .int z25, .ref (r 26), .ref (r 27), .ref (r 28), .ref (r 29), .ref (r 30), .ref (r 31)])), ((r 2), .inl (D.1 21, 1500, .inl fl))] := hD
              refine W.eq (g2 := F0 m 152 ls [.int (kPad (kMb fl a b) (a + z - b) (64 * b9 + (4 * i1) + 3)), .int ((((((((nI 0) <<< ((nI 8) &&& 31)) ||| (kPad (kMb fl a b) (a + z - b) (64 * b9 + (4 * i1) + 0))) <<< ((nI 8) &&& 31)) ||| (kPad (kMb fl a b) (a + z - b) (64 * b9 + (4 * i1) + 1))) <<< ((nI 8) &&& 31)) ||| (kPad (kMb fl a b) (a + z - b) (64 * b9 + (4 * i1) + 2))) <<< ((nI 8) &&& 31)), .int (nI i1), .ref (r 31)]) rfl ?_
              refine W.widen (k := 0) (n := 0) (Nat.le_of_ble_eq_true rfl) (Nat.le_of_ble_eq_true rfl) ?_
              refine lv_ior hx hb dX6_reckon_152 ?_
              refine kn_iast hx hb hK hP hD hS 3 0 rfl rfl (i := i1) (by omega) (by decide) dX6_reckon_153 (fun H locs hP hD hS => ?_)
              have hP : va_P D kC [((r 0), .inl (D.1 20, 64, .inl kRd)), ((r 29), .inl (D.1 20, 8, .inl s9)), ((r 30), .inl (D.1 20, 8, .inl n9)), ((r 31), .inl (D.1 20, 64, .inl (upd (upd (kSeg w9 (fun t => kWd (kPad (kMb fl a b) (a + z - b)) (64 * b9 + 4 * t)) 0 i1) i1 (((((((nI 0) <<< ((nI 8) &&& 31)) ||| (kPad (kMb fl a b) (a + z - b) (64 * b9 + (4 * i1) + 0))) <<< ((nI 8) &&& 31)) ||| (kPad (kMb fl a b) (a + z - b) (64 * b9 + (4 * i1) + 1))) <<< ((nI 8) &&& 31)) ||| (kPad (kMb fl a b) (a + z - b) (64 * b9 + (4 * i1) + 2)))) i1 (((((((((nI 0) <<< ((nI 8) &&& 31)) ||| (kPad (kMb fl a b) (a + z - b) (64 * b9 + (4 * i1) + 0))) <<< ((nI 8) &&& 31)) ||| (kPad (kMb fl a b) (a + z - b) (64 * b9 + (4 * i1) + 1))) <<< ((nI 8) &&& 31)) ||| (kPad (kMb fl a b) (a + z - b) (64 * b9 + (4 * i1) + 2))) <<< ((nI 8) &&& 31)) ||| (kPad (kMb fl a b) (a + z - b) (64 * b9 + (4 * i1) + 3)))))), (h, .inr (6, [.ref (r 0), .int z1, .ref (r 2), .int z3, .int z4, .ref (r 5), .ref (r 6), .ref (r 7), .int z8, .ref (r 9), .ref (r 10), .ref (r 11), .ref (r 12), .ref (r 13), .ref (r 14), .ref (r 15), .ref (r 16), .ref (r 17), .ref (r 18), .ref (r 19), .ref (r 20), .ref (r 21), .int z22, .ref (r 23), .ref (r 24), .int z25, .ref (r 26), .ref (r 27), .ref (r 28), .ref (r 29), .ref (r 30), .ref (r 31)])), ((r 2), .inl (D.1 21, 1500, .inl fl))] _ := hP
              have hD : va_D A [((r 0), .inl (D.1 20, 64, .inl kRd)), ((r 29), .inl (D.1 20, 8, .inl s9)), ((r 30), .inl (D.1 20, 8, .inl n9)), ((r 31), .inl (D.1 20, 64, .inl (upd (upd (kSeg w9 (fun t => kWd (kPad (kMb fl a b) (a + z - b)) (64 * b9 + 4 * t)) 0 i1) i1 (((((((nI 0) <<< ((nI 8) &&& 31)) ||| (kPad (kMb fl a b) (a + z - b) (64 * b9 + (4 * i1) + 0))) <<< ((nI 8) &&& 31)) ||| (kPad (kMb fl a b) (a + z - b) (64 * b9 + (4 * i1) + 1))) <<< ((nI 8) &&& 31)) ||| (kPad (kMb fl a b) (a + z - b) (64 * b9 + (4 * i1) + 2)))) i1 (((((((((nI 0) <<< ((nI 8) &&& 31)) ||| (kPad (kMb fl a b) (a + z - b) (64 * b9 + (4 * i1) + 0))) <<< ((nI 8) &&& 31)) ||| (kPad (kMb fl a b) (a + z - b) (64 * b9 + (4 * i1) + 1))) <<< ((nI 8) &&& 31)) ||| (kPad (kMb fl a b) (a + z - b) (64 * b9 + (4 * i1) + 2))) <<< ((nI 8) &&& 31)) ||| (kPad (kMb fl a b) (a + z - b) (64 * b9 + (4 * i1) + 3)))))), (h, .inr (6, [.ref (r 0), .int z1, .ref (r 2), .int z3, .int z4, .ref (r 5), .ref (r 6), .ref (r 7), .int z8, .ref (r 9), .ref (r 10), .ref (r 11), .ref (r 12), .ref (r 13), .ref (r 14), .ref (r 15), .ref (r 16), .ref (r 17), .ref (r 18), .ref (r 19), .ref (r 20), .ref (r 21), .int z22, .ref (r 23), .ref (r 24), .int z25, .ref (r 26), .ref (r 27), .ref (r 28), .ref (r 29), .ref (r 30), .ref (r 31)])), ((r 2), .inl (D.1 21, 1500, .inl fl))] := hD
              have ef40 : upd (upd (kSeg w9 (fun t => kWd (kPad (kMb fl a b) (a + z - b)) (64 * b9 + 4 * t)) 0 i1) i1 (((((((nI 0) <<< ((nI 8) &&& 31)) ||| (kPad (kMb fl a b) (a + z - b) (64 * b9 + (4 * i1) + 0))) <<< ((nI 8) &&& 31)) ||| (kPad (kMb fl a b) (a + z - b) (64 * b9 + (4 * i1) + 1))) <<< ((nI 8) &&& 31)) ||| (kPad (kMb fl a b) (a + z - b) (64 * b9 + (4 * i1) + 2)))) i1 (((((((((nI 0) <<< ((nI 8) &&& 31)) ||| (kPad (kMb fl a b) (a + z - b) (64 * b9 + (4 * i1) + 0))) <<< ((nI 8) &&& 31)) ||| (kPad (kMb fl a b) (a + z - b) (64 * b9 + (4 * i1) + 1))) <<< ((nI 8) &&& 31)) ||| (kPad (kMb fl a b) (a + z - b) (64 * b9 + (4 * i1) + 2))) <<< ((nI 8) &&& 31)) ||| (kPad (kMb fl a b) (a + z - b) (64 * b9 + (4 * i1) + 3))) = upd (kSeg w9 (fun t => kWd (kPad (kMb fl a b) (a + z - b)) (64 * b9 + 4 * t)) 0 i1) i1 (((((((((nI 0) <<< ((nI 8) &&& 31)) ||| (kPad (kMb fl a b) (a + z - b) (64 * b9 + (4 * i1) + 0))) <<< ((nI 8) &&& 31)) ||| (kPad (kMb fl a b) (a + z - b) (64 * b9 + (4 * i1) + 1))) <<< ((nI 8) &&& 31)) ||| (kPad (kMb fl a b) (a + z - b) (64 * b9 + (4 * i1) + 2))) <<< ((nI 8) &&& 31)) ||| (kPad (kMb fl a b) (a + z - b) (64 * b9 + (4 * i1) + 3))) := kU_uu
              rw [ef40] at hP hD
              refine lv_iinc (v := nI 4) (lv' := [(7, .int (nI 4)), (0, .ref h), (1, .int (nI a)), (2, .int (nI b)), (3, .int (nI z)), (4, .int (nI ((a + z - b + 72) / 64))), (5, .int (nI b9)), (6, .int (nI i1))]) hx hb dX6_reckon_154 hl (k := 0) rfl (nI_1 _) (by decide) rfl (fun ls hl => ?_)
              refine lv_goto (tgt := 110) hx hb dX6_reckon_157 (by decide) ?_
              refine lv_iload hx hb dX6_reckon_110 (lv_at hl 0 rfl) ?_
              refine lv_iconst (v := nI 4) hx hb dX6_reckon_112 (by decide) ?_
              refine kn_icmp_ge (tgt := 160) hx hb (by decide) (by decide) dX6_reckon_113 (by decide) (fun c_113 => ?_) (fun c_113 => absurd c_113 (by decide))
              have ef41 : upd (kSeg w9 (fun t => kWd (kPad (kMb fl a b) (a + z - b)) (64 * b9 + 4 * t)) 0 i1) i1 (((((((((nI 0) <<< ((nI 8) &&& 31)) ||| (kPad (kMb fl a b) (a + z - b) (64 * b9 + (4 * i1) + 0))) <<< ((nI 8) &&& 31)) ||| (kPad (kMb fl a b) (a + z - b) (64 * b9 + (4 * i1) + 1))) <<< ((nI 8) &&& 31)) ||| (kPad (kMb fl a b) (a + z - b) (64 * b9 + (4 * i1) + 2))) <<< ((nI 8) &&& 31)) ||| (kPad (kMb fl a b) (a + z - b) (64 * b9 + (4 * i1) + 3))) = kSeg w9 (fun t => kWd (kPad (kMb fl a b) (a + z - b)) (64 * b9 + 4 * t)) 0 (i1 + 1) := kSeg_up (Nat.zero_le _) (k_word _ _ _ _)
              rw [ef41] at hP hD
              refine lv_iinc (v := nI (i1 + 1)) (lv' := [(6, .int (nI (i1 + 1))), (7, .int (nI 4)), (0, .ref h), (1, .int (nI a)), (2, .int (nI b)), (3, .int (nI z)), (4, .int (nI ((a + z - b + 72) / 64))), (5, .int (nI b9))]) hx hb dX6_reckon_160 hl (k := 7) rfl (nI_1 _) (by decide) rfl (fun ls hl => ?_)
              refine lv_goto (tgt := 92) hx hb dX6_reckon_163 (by decide) ?_
              exact ih_lt (i1 + 1) (by omega) (by omega) _ _ (hP.sub [4, 0, 5, 1, 2, 3] rfl) (hD.sub [4, 0, 5, 1, 2, 3] (by decide) rfl) hS ls (lv_sub hl [2, 3, 4, 5, 6, 7, 0] rfl)
        exact lt 17 0 (by omega) (by omega) _ _ (by rw [kSeg_0]; exact hP) (by rw [kSeg_0]; exact hD) hS ls (lv_sub hl [1, 2, 3, 4, 5, 6, 0] rfl)
  exact lb ((a + z - b + 72) / 64 + 1) 0 (kSeg sa kSt 0 8) nw wd (by omega) (fun j hj => kSeg_in (Nat.zero_le _) hj) (by omega) _ _ hP hD hS ls (lv_sub hl [2, 3, 4, 5, 1, 0] rfl)

theorem iX6_keepSum15_X6 : ∀ w ∈ wsX60, w ∈ wsX6_keepSum := by decide +kernel
theorem X6_keepSum15_hwd0 : (.fieldLink RX6 146 "SignatureSpansModel" "state" "[I" : Cond) ∈ wsX6_keepSum := by decide +kernel
set_option maxHeartbeats 4000000 in
set_option maxRecDepth 100000 in
/-- keepSum -/
theorem c_X6_keepSum_15 (l : Launch) (D : va_G) (h : Nat) (r : Nat → Nat) (at9 : Nat) (z1 z3 z4 z8 z22 z25 : Int32) (f sa : Nat → Int32) (hat : at9 + 8 ≤ 64) : kM (S := Unit) l yX6_keepSum wsX6_keepSum ({ frames := 7, cells := 0, slots := 0, locals := 100 }) 0 0 D [.ref h, .ref (r 15), .int (nI at9)] [(h, .inr (6, [.ref (r 0), .int z1, .ref (r 2), .int z3, .int z4, .ref (r 5), .ref (r 6), .ref (r 7), .int z8, .ref (r 9), .ref (r 10), .ref (r 11), .ref (r 12), .ref (r 13), .ref (r 14), .ref (r 15), .ref (r 16), .ref (r 17), .ref (r 18), .ref (r 19), .ref (r 20), .ref (r 21), .int z22, .ref (r 23), .ref (r 24), .int z25, .ref (r 26), .ref (r 27), .ref (r 28), .ref (r 29), .ref (r 30), .ref (r 31)])), ((r 15), .inl (D.1 20, 64, .inl f)), ((r 29), .inl (D.1 20, 8, .inl sa))] (fun _ => none) (fun _ => [(h, .inr (6, [.ref (r 0), .int z1, .ref (r 2), .int z3, .int z4, .ref (r 5), .ref (r 6), .ref (r 7), .int z8, .ref (r 9), .ref (r 10), .ref (r 11), .ref (r 12), .ref (r 13), .ref (r 14), .ref (r 15), .ref (r 16), .ref (r 17), .ref (r 18), .ref (r 19), .ref (r 20), .ref (r 21), .int z22, .ref (r 23), .ref (r 24), .int z25, .ref (r 26), .ref (r 27), .ref (r 28), .ref (r 29), .ref (r 30), .ref (r 31)])), ((r 15), .inl (D.1 20, 64, .inl (kSeg f (fun j => sa (j - at9)) at9 (at9 + 8)))), ((r 29), .inl (D.1 20, 8, .inl sa))]) (fun _ => True) := by
  intro sz
  refine Met.ofW (cc := cX6_keepSum) (maxL := 4) (ret := none) (by decide) rfl ?_
  intro p e s m args below meth c s₁ B hml hv
  obtain ⟨rfl, hsz, hP, hK, hD0, hE⟩ := hv
  have hx := B.exec
  have hb := B.bytes
  have hr := B.returns
  have hts := atoms_spec (ws := wsX6_keepSum) B.pre
  have hown : s.vm.findClass RX6 = some m.cls := findClass_of_methodNamed B.named
  have hlocks := B.notSynchronized
  subst hsz
  have hD := hD0.self (sz := s.heap.size)
  generalize hAe : va_A [(h, .inr (6, [.ref (r 0), .int z1, .ref (r 2), .int z3, .int z4, .ref (r 5), .ref (r 6), .ref (r 7), .int z8, .ref (r 9), .ref (r 10), .ref (r 11), .ref (r 12), .ref (r 13), .ref (r 14), .ref (r 15), .ref (r 16), .ref (r 17), .ref (r 18), .ref (r 19), .ref (r 20), .ref (r 21), .int z22, .ref (r 23), .ref (r 24), .int z25, .ref (r 26), .ref (r 27), .ref (r 28), .ref (r 29), .ref (r 30), .ref (r 31)])), ((r 15), .inl (D.1 20, 64, .inl f)), ((r 29), .inl (D.1 20, 8, .inl sa))] s.heap.size = A at hD hE ⊢
  have hA : ∀ q : Nat, s.heap.size ≤ q → A q := fun q h => by rw [← hAe]; exact Or.inr h
  have hS : va_S A s.heap s.heap [] := va_S.rf
  have hl := lv_entry ([.ref h, .ref (r 15), .int (nI at9)]) (n := 4) (Nat.le_of_ble_eq_true rfl)
  have inX6 : ∀ w ∈ wsX60, w ∈ wsX6_keepSum := iX6_keepSum15_X6
  have hwd0 := hts (.fieldLink RX6 146 "SignatureSpansModel" "state" "[I") X6_keepSum15_hwd0
  refine kgenQ (fun Q hQ => ?_)
  rw [lg_entry_eq]
  generalize (lg_sl ([.ref h, .ref (r 15), .int (nI at9)]) ++ List.replicate (4 - (lg_sl ([.ref h, .ref (r 15), .int (nI at9)])).length) Slot.unset).toArray = ls at hl ⊢
  have hl : lv_has ls 4 [(0, .ref h), (1, .ref (r 15)), (2, .int (nI at9))] := hl
  refine lv_iconst (v := nI 0) hx hb dX6_keepSum_0 (by decide) ?_
  refine lv_istore_n (lv' := [(3, .int (nI 0)), (0, .ref h), (1, .ref (r 15)), (2, .int (nI at9))]) hx hb dX6_keepSum_1 rfl hl (by decide) rfl (fun ls hl => ?_)
  have la : ∀ fu : Nat, ∀ (i1 : Nat), (i1 ≤ 8) → (9 ≤ i1 + fu) → ∀ (H : Heap) (locs : List Loc), va_P D kC [(h, .inr (6, [.ref (r 0), .int z1, .ref (r 2), .int z3, .int z4, .ref (r 5), .ref (r 6), .ref (r 7), .int z8, .ref (r 9), .ref (r 10), .ref (r 11), .ref (r 12), .ref (r 13), .ref (r 14), .ref (r 15), .ref (r 16), .ref (r 17), .ref (r 18), .ref (r 19), .ref (r 20), .ref (r 21), .int z22, .ref (r 23), .ref (r 24), .int z25, .ref (r 26), .ref (r 27), .ref (r 28), .ref (r 29), .ref (r 30), .ref (r 31)])), ((r 15), .inl (D.1 20, 64, .inl (kSeg f (fun j => sa (j - at9)) at9 (at9 + i1)))), ((r 29), .inl (D.1 20, 8, .inl sa))] H → va_D A [(h, .inr (6, [.ref (r 0), .int z1, .ref (r 2), .int z3, .int z4, .ref (r 5), .ref (r 6), .ref (r 7), .int z8, .ref (r 9), .ref (r 10), .ref (r 11), .ref (r 12), .ref (r 13), .ref (r 14), .ref (r 15), .ref (r 16), .ref (r 17), .ref (r 18), .ref (r 19), .ref (r 20), .ref (r 21), .int z22, .ref (r 23), .ref (r 24), .int z25, .ref (r 26), .ref (r 27), .ref (r 28), .ref (r 29), .ref (r 30), .ref (r 31)])), ((r 15), .inl (D.1 20, 64, .inl (kSeg f (fun j => sa (j - at9)) at9 (at9 + i1)))), ((r 29), .inl (D.1 20, 8, .inl sa))] → va_S A s.heap H locs → ∀ (ls : Array Slot), lv_has ls 4 [(0, .ref h), (1, .ref (r 15)), (2, .int (nI at9)), (3, .int (nI i1))] → W p l e (headSpec wsX6_keepSum ({ frames := 7, cells := 0, slots := 0, locals := 100 })).room s m #[Value.ref h, Value.ref (r 15), Value.int (nI at9)] below meth c H locs 0 0 Q (F0 m 2 ls []) := by
    intro fu
    induction fu with
    | zero =>
      intro i1 h1 hfu H locs hP hD hS ls hl
      exfalso; omega
    | succ fu ih_la =>
      intro i1 h1 hfu H locs hP hD hS ls hl
      refine lv_iload_n hx hb dX6_keepSum_2 rfl (lv_at hl 3 rfl) ?_
      refine lv_bipush (v := nI 8) hx hb dX6_keepSum_3 (by decide) ?_
      refine kn_icmp_ge (tgt := 25) hx hb (by omega) (by omega) dX6_keepSum_5 (by decide) (fun c_5 => ?_) (fun c_5 => ?_)
      · have ev : i1 = 8 := by omega
        subst ev
        rw [hQ]
        have hP9 : va_P D kC [(h, .inr (6, [.ref (r 0), .int z1, .ref (r 2), .int z3, .int z4, .ref (r 5), .ref (r 6), .ref (r 7), .int z8, .ref (r 9), .ref (r 10), .ref (r 11), .ref (r 12), .ref (r 13), .ref (r 14), .ref (r 15), .ref (r 16), .ref (r 17), .ref (r 18), .ref (r 19), .ref (r 20), .ref (r 21), .int z22, .ref (r 23), .ref (r 24), .int z25, .ref (r 26), .ref (r 27), .ref (r 28), .ref (r 29), .ref (r 30), .ref (r 31)])), ((r 15), .inl (D.1 20, 64, .inl (kSeg f (fun j => sa (j - at9)) at9 (at9 + 8)))), ((r 29), .inl (D.1 20, 8, .inl sa))] _ := hP
        have hD9 : va_D A [(h, .inr (6, [.ref (r 0), .int z1, .ref (r 2), .int z3, .int z4, .ref (r 5), .ref (r 6), .ref (r 7), .int z8, .ref (r 9), .ref (r 10), .ref (r 11), .ref (r 12), .ref (r 13), .ref (r 14), .ref (r 15), .ref (r 16), .ref (r 17), .ref (r 18), .ref (r 19), .ref (r 20), .ref (r 21), .int z22, .ref (r 23), .ref (r 24), .int z25, .ref (r 26), .ref (r 27), .ref (r 28), .ref (r 29), .ref (r 30), .ref (r 31)])), ((r 15), .inl (D.1 20, 64, .inl (kSeg f (fun j => sa (j - at9)) at9 (at9 + 8)))), ((r 29), .inl (D.1 20, 8, .inl sa))] := hD
        exact W.vret hx hb hr (fun tq ht hW => ⟨⟨(), rfl, trivial, by rw [ht]; exact hP9, va_K.moved hW.alike hK, hD9⟩, hS.F ht⟩) hS.2.2 dX6_keepSum_25
      · refine lv_aload_n hx hb dX6_keepSum_8 rfl (lv_at hl 1 rfl) ?_
        refine lv_iload_n hx hb dX6_keepSum_9 rfl (lv_at hl 2 rfl) ?_
        refine lv_iload_n hx hb dX6_keepSum_10 rfl (lv_at hl 3 rfl) ?_
        refine kn_iadd hx hb dX6_keepSum_11 ?_
        refine lv_aload_n hx hb dX6_keepSum_12 rfl (lv_at hl 0 rfl) ?_
        refine va_get (D := D) (ci := 6) (v := .ref (r 29)) (C := RX6) (T := TX6) (N := 32) hx hb hts inX6 hown hK hP 0 rfl rfl 29 (by decide) hwd0 (fun _ h9 => h9) rfl dX6_keepSum_13 ?_
        refine lv_iload_n hx hb dX6_keepSum_16 rfl (lv_at hl 3 rfl) ?_
        refine kn_iald hx hb hK hP 2 0 rfl rfl (i := i1) (by omega) (by decide) dX6_keepSum_17 ?_
        refine kn_iast hx hb hK hP hD hS 1 0 rfl rfl (i := at9 + i1) (by omega) (by decide) dX6_keepSum_18 (fun H locs hP hD hS => ?_)
        have hP : va_P D kC [(h, .inr (6, [.ref (r 0), .int z1, .ref (r 2), .int z3, .int z4, .ref (r 5), .ref (r 6), .ref (r 7), .int z8, .ref (r 9), .ref (r 10), .ref (r 11), .ref (r 12), .ref (r 13), .ref (r 14), .ref (r 15), .ref (r 16), .ref (r 17), .ref (r 18), .ref (r 19), .ref (r 20), .ref (r 21), .int z22, .ref (r 23), .ref (r 24), .int z25, .ref (r 26), .ref (r 27), .ref (r 28), .ref (r 29), .ref (r 30), .ref (r 31)])), ((r 15), .inl (D.1 20, 64, .inl (upd (kSeg f (fun j => sa (j - at9)) at9 (at9 + i1)) (at9 + i1) (sa i1)))), ((r 29), .inl (D.1 20, 8, .inl sa))] _ := hP
        have hD : va_D A [(h, .inr (6, [.ref (r 0), .int z1, .ref (r 2), .int z3, .int z4, .ref (r 5), .ref (r 6), .ref (r 7), .int z8, .ref (r 9), .ref (r 10), .ref (r 11), .ref (r 12), .ref (r 13), .ref (r 14), .ref (r 15), .ref (r 16), .ref (r 17), .ref (r 18), .ref (r 19), .ref (r 20), .ref (r 21), .int z22, .ref (r 23), .ref (r 24), .int z25, .ref (r 26), .ref (r 27), .ref (r 28), .ref (r 29), .ref (r 30), .ref (r 31)])), ((r 15), .inl (D.1 20, 64, .inl (upd (kSeg f (fun j => sa (j - at9)) at9 (at9 + i1)) (at9 + i1) (sa i1)))), ((r 29), .inl (D.1 20, 8, .inl sa))] := hD
        have ef42 : upd (kSeg f (fun j => sa (j - at9)) at9 (at9 + i1)) (at9 + i1) (sa i1) = kSeg f (fun j => sa (j - at9)) at9 (at9 + (i1 + 1)) := kSeg_up (by omega) (by show sa i1 = sa (at9 + i1 - at9); rw [Nat.add_sub_cancel_left])
        rw [ef42] at hP hD
        refine lv_iinc (v := nI (i1 + 1)) (lv' := [(3, .int (nI (i1 + 1))), (0, .ref h), (1, .ref (r 15)), (2, .int (nI at9))]) hx hb dX6_keepSum_19 hl (k := 3) rfl (nI_1 _) (by decide) rfl (fun ls hl => ?_)
        refine lv_goto (tgt := 2) hx hb dX6_keepSum_22 (by decide) ?_
        exact ih_la (i1 + 1) (by omega) (by omega) _ _ hP hD hS ls (lv_sub hl [1, 2, 3, 0] rfl)
  exact la 9 0 (by omega) (by omega) _ _ (by rw [Nat.add_zero, kSeg_0]; exact hP) (by rw [Nat.add_zero, kSeg_0]; exact hD) hS ls (lv_sub hl [1, 2, 3, 0] rfl)

theorem iX6_isSum15_X6 : ∀ w ∈ wsX60, w ∈ wsX6_isSum := by decide +kernel
theorem X6_isSum15_hwd0 : (.fieldLink RX6 146 "SignatureSpansModel" "state" "[I" : Cond) ∈ wsX6_isSum := by decide +kernel
set_option maxHeartbeats 4000000 in
set_option maxRecDepth 100000 in
/-- isSum -/
theorem c_X6_isSum_15 (l : Launch) (D : va_G) (h : Nat) (r : Nat → Nat) (at9 : Nat) (z1 z3 z4 z8 z22 z25 : Int32) (f sa : Nat → Int32) (hat : at9 + 8 ≤ 64) : kM (S := Unit) l yX6_isSum wsX6_isSum ({ frames := 7, cells := 0, slots := 0, locals := 100 }) 0 0 D [.ref h, .ref (r 15), .int (nI at9)] [(h, .inr (6, [.ref (r 0), .int z1, .ref (r 2), .int z3, .int z4, .ref (r 5), .ref (r 6), .ref (r 7), .int z8, .ref (r 9), .ref (r 10), .ref (r 11), .ref (r 12), .ref (r 13), .ref (r 14), .ref (r 15), .ref (r 16), .ref (r 17), .ref (r 18), .ref (r 19), .ref (r 20), .ref (r 21), .int z22, .ref (r 23), .ref (r 24), .int z25, .ref (r 26), .ref (r 27), .ref (r 28), .ref (r 29), .ref (r 30), .ref (r 31)])), ((r 15), .inl (D.1 20, 64, .inl f)), ((r 29), .inl (D.1 20, 8, .inl sa))] (fun _ => some (.int (kB (kEq8 (fun j => f (at9 + j)) sa)))) (fun _ => [(h, .inr (6, [.ref (r 0), .int z1, .ref (r 2), .int z3, .int z4, .ref (r 5), .ref (r 6), .ref (r 7), .int z8, .ref (r 9), .ref (r 10), .ref (r 11), .ref (r 12), .ref (r 13), .ref (r 14), .ref (r 15), .ref (r 16), .ref (r 17), .ref (r 18), .ref (r 19), .ref (r 20), .ref (r 21), .int z22, .ref (r 23), .ref (r 24), .int z25, .ref (r 26), .ref (r 27), .ref (r 28), .ref (r 29), .ref (r 30), .ref (r 31)])), ((r 15), .inl (D.1 20, 64, .inl f)), ((r 29), .inl (D.1 20, 8, .inl sa))]) (fun _ => True) := by
  intro sz
  refine Met.ofW (cc := cX6_isSum) (maxL := 5) (ret := (some .boolean)) (by decide) rfl ?_
  intro p e s m args below meth c s₁ B hml hv
  obtain ⟨rfl, hsz, hP, hK, hD0, hE⟩ := hv
  have hx := B.exec
  have hb := B.bytes
  have hr := B.returns
  have hts := atoms_spec (ws := wsX6_isSum) B.pre
  have hown : s.vm.findClass RX6 = some m.cls := findClass_of_methodNamed B.named
  have hlocks := B.notSynchronized
  subst hsz
  have hD := hD0.self (sz := s.heap.size)
  generalize hAe : va_A [(h, .inr (6, [.ref (r 0), .int z1, .ref (r 2), .int z3, .int z4, .ref (r 5), .ref (r 6), .ref (r 7), .int z8, .ref (r 9), .ref (r 10), .ref (r 11), .ref (r 12), .ref (r 13), .ref (r 14), .ref (r 15), .ref (r 16), .ref (r 17), .ref (r 18), .ref (r 19), .ref (r 20), .ref (r 21), .int z22, .ref (r 23), .ref (r 24), .int z25, .ref (r 26), .ref (r 27), .ref (r 28), .ref (r 29), .ref (r 30), .ref (r 31)])), ((r 15), .inl (D.1 20, 64, .inl f)), ((r 29), .inl (D.1 20, 8, .inl sa))] s.heap.size = A at hD hE ⊢
  have hA : ∀ q : Nat, s.heap.size ≤ q → A q := fun q h => by rw [← hAe]; exact Or.inr h
  have hS : va_S A s.heap s.heap [] := va_S.rf
  have hl := lv_entry ([.ref h, .ref (r 15), .int (nI at9)]) (n := 5) (Nat.le_of_ble_eq_true rfl)
  have inX6 : ∀ w ∈ wsX60, w ∈ wsX6_isSum := iX6_isSum15_X6
  have hwd0 := hts (.fieldLink RX6 146 "SignatureSpansModel" "state" "[I") X6_isSum15_hwd0
  refine kgenQ (fun Q hQ => ?_)
  rw [lg_entry_eq]
  generalize (lg_sl ([.ref h, .ref (r 15), .int (nI at9)]) ++ List.replicate (5 - (lg_sl ([.ref h, .ref (r 15), .int (nI at9)])).length) Slot.unset).toArray = ls at hl ⊢
  have hl : lv_has ls 5 [(0, .ref h), (1, .ref (r 15)), (2, .int (nI at9))] := hl
  refine lv_iconst (v := nI 1) hx hb dX6_isSum_0 (by decide) ?_
  refine lv_istore_n (lv' := [(3, .int (nI 1)), (0, .ref h), (1, .ref (r 15)), (2, .int (nI at9))]) hx hb dX6_isSum_1 rfl hl (by decide) rfl (fun ls hl => ?_)
  refine lv_iconst (v := nI 0) hx hb dX6_isSum_2 (by decide) ?_
  refine lv_istore (lv' := [(4, .int (nI 0)), (3, .int (nI 1)), (0, .ref h), (1, .ref (r 15)), (2, .int (nI at9))]) hx hb dX6_isSum_3 hl (by decide) rfl (fun ls hl => ?_)
  have la : ∀ fu : Nat, ∀ (i1 : Nat) (e9 : Nat), (i1 ≤ 8) → (e9 = 1 ∧ (∀ j, j < i1 → f (at9 + j) = sa j) ∨ e9 = 0 ∧ ∃ j, j < 8 ∧ ¬ f (at9 + j) = sa j) → (9 ≤ i1 + fu) → ∀ (H : Heap) (locs : List Loc), va_P D kC [(h, .inr (6, [.ref (r 0), .int z1, .ref (r 2), .int z3, .int z4, .ref (r 5), .ref (r 6), .ref (r 7), .int z8, .ref (r 9), .ref (r 10), .ref (r 11), .ref (r 12), .ref (r 13), .ref (r 14), .ref (r 15), .ref (r 16), .ref (r 17), .ref (r 18), .ref (r 19), .ref (r 20), .ref (r 21), .int z22, .ref (r 23), .ref (r 24), .int z25, .ref (r 26), .ref (r 27), .ref (r 28), .ref (r 29), .ref (r 30), .ref (r 31)])), ((r 15), .inl (D.1 20, 64, .inl f)), ((r 29), .inl (D.1 20, 8, .inl sa))] H → va_D A [(h, .inr (6, [.ref (r 0), .int z1, .ref (r 2), .int z3, .int z4, .ref (r 5), .ref (r 6), .ref (r 7), .int z8, .ref (r 9), .ref (r 10), .ref (r 11), .ref (r 12), .ref (r 13), .ref (r 14), .ref (r 15), .ref (r 16), .ref (r 17), .ref (r 18), .ref (r 19), .ref (r 20), .ref (r 21), .int z22, .ref (r 23), .ref (r 24), .int z25, .ref (r 26), .ref (r 27), .ref (r 28), .ref (r 29), .ref (r 30), .ref (r 31)])), ((r 15), .inl (D.1 20, 64, .inl f)), ((r 29), .inl (D.1 20, 8, .inl sa))] → va_S A s.heap H locs → ∀ (ls : Array Slot), lv_has ls 5 [(0, .ref h), (1, .ref (r 15)), (2, .int (nI at9)), (3, .int (nI e9)), (4, .int (nI i1))] → W p l e (headSpec wsX6_isSum ({ frames := 7, cells := 0, slots := 0, locals := 100 })).room s m #[Value.ref h, Value.ref (r 15), Value.int (nI at9)] below meth c H locs 0 0 Q (F0 m 5 ls []) := by
    intro fu
    induction fu with
    | zero =>
      intro i1 e9 h1 he hfu H locs hP hD hS ls hl
      exfalso; omega
    | succ fu ih_la =>
      intro i1 e9 h1 he hfu H locs hP hD hS ls hl
      refine lv_iload hx hb dX6_isSum_5 (lv_at hl 4 rfl) ?_
      refine lv_bipush (v := nI 8) hx hb dX6_isSum_7 (by decide) ?_
      refine kn_icmp_ge (tgt := 44) hx hb (by omega) (by omega) dX6_isSum_9 (by decide) (fun c_9 => ?_) (fun c_9 => ?_)
      · refine lv_iload_n hx hb dX6_isSum_44 rfl (lv_at hl 3 rfl) ?_
        have ei : i1 = 8 := by omega
        subst ei
        have e45 : nI e9 = kB (kEq8 (fun j => f (at9 + j)) sa) := he.elim (fun q => by rw [q.1]; exact kB_t (kEq8_t q.2)) (fun q => by rw [q.1]; obtain ⟨-, j, hj, hne⟩ := q; exact kB_f (kEq8_f j hj hne))
        rw [hQ]
        have hP9 : va_P D kC [(h, .inr (6, [.ref (r 0), .int z1, .ref (r 2), .int z3, .int z4, .ref (r 5), .ref (r 6), .ref (r 7), .int z8, .ref (r 9), .ref (r 10), .ref (r 11), .ref (r 12), .ref (r 13), .ref (r 14), .ref (r 15), .ref (r 16), .ref (r 17), .ref (r 18), .ref (r 19), .ref (r 20), .ref (r 21), .int z22, .ref (r 23), .ref (r 24), .int z25, .ref (r 26), .ref (r 27), .ref (r 28), .ref (r 29), .ref (r 30), .ref (r 31)])), ((r 15), .inl (D.1 20, 64, .inl f)), ((r 29), .inl (D.1 20, 8, .inl sa))] _ := hP
        have hD9 : va_D A [(h, .inr (6, [.ref (r 0), .int z1, .ref (r 2), .int z3, .int z4, .ref (r 5), .ref (r 6), .ref (r 7), .int z8, .ref (r 9), .ref (r 10), .ref (r 11), .ref (r 12), .ref (r 13), .ref (r 14), .ref (r 15), .ref (r 16), .ref (r 17), .ref (r 18), .ref (r 19), .ref (r 20), .ref (r 21), .int z22, .ref (r 23), .ref (r 24), .int z25, .ref (r 26), .ref (r 27), .ref (r 28), .ref (r 29), .ref (r 30), .ref (r 31)])), ((r 15), .inl (D.1 20, 64, .inl f)), ((r 29), .inl (D.1 20, 8, .inl sa))] := hD
        exact W.zret (v := nI e9) hx hb hr (by rw [e45]; exact kB_nar _) (fun tq ht hW => ⟨⟨(), congrArg (fun z => Outcome.returned (some (Value.int z))) e45, trivial, by rw [ht]; exact hP9, va_K.moved hW.alike hK, hD9⟩, hS.F ht⟩) hS.2.2 dX6_isSum_45
      · have he9 : e9 ≤ 1 := by rcases he with h | h <;> omega
        refine lv_iload_n hx hb dX6_isSum_12 rfl (lv_at hl 3 rfl) ?_
        refine kn_if_eq (tgt := 36) hx hb (by omega) dX6_isSum_13 (by decide) (fun c_13 => ?_) (fun c_13 => ?_)
        · refine lv_iconst (v := nI 0) hx hb dX6_isSum_36 (by decide) ?_
          refine lv_istore_n (lv' := [(3, .int (nI 0)), (0, .ref h), (1, .ref (r 15)), (2, .int (nI at9)), (4, .int (nI i1))]) hx hb dX6_isSum_37 rfl hl (by decide) rfl (fun ls hl => ?_)
          refine lv_iinc (v := nI (i1 + 1)) (lv' := [(4, .int (nI (i1 + 1))), (3, .int (nI 0)), (0, .ref h), (1, .ref (r 15)), (2, .int (nI at9))]) hx hb dX6_isSum_38 hl (k := 4) rfl (nI_1 _) (by decide) rfl (fun ls hl => ?_)
          refine lv_goto (tgt := 5) hx hb dX6_isSum_41 (by decide) ?_
          exact ih_la (i1 + 1) 0 (by omega) (he.elim (fun q => absurd q.1 (by omega)) (fun q => Or.inr ⟨rfl, q.2⟩)) (by omega) _ _ hP hD hS ls (lv_sub hl [2, 3, 4, 1, 0] rfl)
        · refine lv_aload_n hx hb dX6_isSum_16 rfl (lv_at hl 1 rfl) ?_
          refine lv_iload_n hx hb dX6_isSum_17 rfl (lv_at hl 2 rfl) ?_
          refine lv_iload hx hb dX6_isSum_18 (lv_at hl 4 rfl) ?_
          refine kn_iadd hx hb dX6_isSum_20 ?_
          refine kn_iald hx hb hK hP 1 0 rfl rfl (i := at9 + i1) (by omega) (by decide) dX6_isSum_21 ?_
          refine lv_aload_n hx hb dX6_isSum_22 rfl (lv_at hl 0 rfl) ?_
          refine va_get (D := D) (ci := 6) (v := .ref (r 29)) (C := RX6) (T := TX6) (N := 32) hx hb hts inX6 hown hK hP 0 rfl rfl 29 (by decide) hwd0 (fun _ h9 => h9) rfl dX6_isSum_23 ?_
          refine lv_iload hx hb dX6_isSum_26 (lv_at hl 4 rfl) ?_
          refine kn_iald hx hb hK hP 2 0 rfl rfl (i := i1) (by omega) (by decide) dX6_isSum_28 ?_
          refine lv_icmp_ne (tgt := 36) hx hb dX6_isSum_29 (by decide) (fun c_29 => ?_) (fun c_29 => ?_)
          · refine lv_iconst (v := nI 0) hx hb dX6_isSum_36 (by decide) ?_
            refine lv_istore_n (lv' := [(3, .int (nI 0)), (0, .ref h), (1, .ref (r 15)), (2, .int (nI at9)), (4, .int (nI i1))]) hx hb dX6_isSum_37 rfl hl (by decide) rfl (fun ls hl => ?_)
            refine lv_iinc (v := nI (i1 + 1)) (lv' := [(4, .int (nI (i1 + 1))), (3, .int (nI 0)), (0, .ref h), (1, .ref (r 15)), (2, .int (nI at9))]) hx hb dX6_isSum_38 hl (k := 4) rfl (nI_1 _) (by decide) rfl (fun ls hl => ?_)
            refine lv_goto (tgt := 5) hx hb dX6_isSum_41 (by decide) ?_
            exact ih_la (i1 + 1) 0 (by omega) (Or.inr ⟨rfl, i1, by omega, c_29⟩) (by omega) _ _ hP hD hS ls (lv_sub hl [2, 3, 4, 1, 0] rfl)
          · refine lv_iconst (v := nI 1) hx hb dX6_isSum_32 (by decide) ?_
            refine lv_goto (tgt := 37) hx hb dX6_isSum_33 (by decide) ?_
            refine lv_istore_n (lv' := [(3, .int (nI 1)), (0, .ref h), (1, .ref (r 15)), (2, .int (nI at9)), (4, .int (nI i1))]) hx hb dX6_isSum_37 rfl hl (by decide) rfl (fun ls hl => ?_)
            refine lv_iinc (v := nI (i1 + 1)) (lv' := [(4, .int (nI (i1 + 1))), (3, .int (nI 1)), (0, .ref h), (1, .ref (r 15)), (2, .int (nI at9))]) hx hb dX6_isSum_38 hl (k := 4) rfl (nI_1 _) (by decide) rfl (fun ls hl => ?_)
            refine lv_goto (tgt := 5) hx hb dX6_isSum_41 (by decide) ?_
            exact ih_la (i1 + 1) 1 (by omega) (Or.inl ⟨rfl, fun j hj => (Nat.lt_succ_iff_lt_or_eq.mp hj).elim (he.elim (fun q => q.2 j) (fun q => absurd q.1 (by omega))) (fun e => by rw [e]; exact c_29)⟩) (by omega) _ _ hP hD hS ls (lv_sub hl [2, 3, 4, 1, 0] rfl)
  exact la 9 0 1 (by omega) (Or.inl ⟨rfl, fun j hj => absurd hj (Nat.not_lt_zero j)⟩) (by omega) _ _ hP hD hS ls (lv_sub hl [2, 3, 4, 1, 0] rfl)

theorem iX6_keepSum28_X6 : ∀ w ∈ wsX60, w ∈ wsX6_keepSum := by decide +kernel
theorem X6_keepSum28_hwd0 : (.fieldLink RX6 146 "SignatureSpansModel" "state" "[I" : Cond) ∈ wsX6_keepSum := by decide +kernel
set_option maxHeartbeats 4000000 in
set_option maxRecDepth 100000 in
/-- keepSum -/
theorem c_X6_keepSum_28 (l : Launch) (D : va_G) (h : Nat) (r : Nat → Nat) (at9 : Nat) (z1 z3 z4 z8 z22 z25 : Int32) (f sa : Nat → Int32) (hat : at9 + 8 ≤ 80) : kM (S := Unit) l yX6_keepSum wsX6_keepSum ({ frames := 7, cells := 0, slots := 0, locals := 100 }) 0 0 D [.ref h, .ref (r 28), .int (nI at9)] [(h, .inr (6, [.ref (r 0), .int z1, .ref (r 2), .int z3, .int z4, .ref (r 5), .ref (r 6), .ref (r 7), .int z8, .ref (r 9), .ref (r 10), .ref (r 11), .ref (r 12), .ref (r 13), .ref (r 14), .ref (r 15), .ref (r 16), .ref (r 17), .ref (r 18), .ref (r 19), .ref (r 20), .ref (r 21), .int z22, .ref (r 23), .ref (r 24), .int z25, .ref (r 26), .ref (r 27), .ref (r 28), .ref (r 29), .ref (r 30), .ref (r 31)])), ((r 28), .inl (D.1 20, 80, .inl f)), ((r 29), .inl (D.1 20, 8, .inl sa))] (fun _ => none) (fun _ => [(h, .inr (6, [.ref (r 0), .int z1, .ref (r 2), .int z3, .int z4, .ref (r 5), .ref (r 6), .ref (r 7), .int z8, .ref (r 9), .ref (r 10), .ref (r 11), .ref (r 12), .ref (r 13), .ref (r 14), .ref (r 15), .ref (r 16), .ref (r 17), .ref (r 18), .ref (r 19), .ref (r 20), .ref (r 21), .int z22, .ref (r 23), .ref (r 24), .int z25, .ref (r 26), .ref (r 27), .ref (r 28), .ref (r 29), .ref (r 30), .ref (r 31)])), ((r 28), .inl (D.1 20, 80, .inl (kSeg f (fun j => sa (j - at9)) at9 (at9 + 8)))), ((r 29), .inl (D.1 20, 8, .inl sa))]) (fun _ => True) := by
  intro sz
  refine Met.ofW (cc := cX6_keepSum) (maxL := 4) (ret := none) (by decide) rfl ?_
  intro p e s m args below meth c s₁ B hml hv
  obtain ⟨rfl, hsz, hP, hK, hD0, hE⟩ := hv
  have hx := B.exec
  have hb := B.bytes
  have hr := B.returns
  have hts := atoms_spec (ws := wsX6_keepSum) B.pre
  have hown : s.vm.findClass RX6 = some m.cls := findClass_of_methodNamed B.named
  have hlocks := B.notSynchronized
  subst hsz
  have hD := hD0.self (sz := s.heap.size)
  generalize hAe : va_A [(h, .inr (6, [.ref (r 0), .int z1, .ref (r 2), .int z3, .int z4, .ref (r 5), .ref (r 6), .ref (r 7), .int z8, .ref (r 9), .ref (r 10), .ref (r 11), .ref (r 12), .ref (r 13), .ref (r 14), .ref (r 15), .ref (r 16), .ref (r 17), .ref (r 18), .ref (r 19), .ref (r 20), .ref (r 21), .int z22, .ref (r 23), .ref (r 24), .int z25, .ref (r 26), .ref (r 27), .ref (r 28), .ref (r 29), .ref (r 30), .ref (r 31)])), ((r 28), .inl (D.1 20, 80, .inl f)), ((r 29), .inl (D.1 20, 8, .inl sa))] s.heap.size = A at hD hE ⊢
  have hA : ∀ q : Nat, s.heap.size ≤ q → A q := fun q h => by rw [← hAe]; exact Or.inr h
  have hS : va_S A s.heap s.heap [] := va_S.rf
  have hl := lv_entry ([.ref h, .ref (r 28), .int (nI at9)]) (n := 4) (Nat.le_of_ble_eq_true rfl)
  have inX6 : ∀ w ∈ wsX60, w ∈ wsX6_keepSum := iX6_keepSum28_X6
  have hwd0 := hts (.fieldLink RX6 146 "SignatureSpansModel" "state" "[I") X6_keepSum28_hwd0
  refine kgenQ (fun Q hQ => ?_)
  rw [lg_entry_eq]
  generalize (lg_sl ([.ref h, .ref (r 28), .int (nI at9)]) ++ List.replicate (4 - (lg_sl ([.ref h, .ref (r 28), .int (nI at9)])).length) Slot.unset).toArray = ls at hl ⊢
  have hl : lv_has ls 4 [(0, .ref h), (1, .ref (r 28)), (2, .int (nI at9))] := hl
  refine lv_iconst (v := nI 0) hx hb dX6_keepSum_0 (by decide) ?_
  refine lv_istore_n (lv' := [(3, .int (nI 0)), (0, .ref h), (1, .ref (r 28)), (2, .int (nI at9))]) hx hb dX6_keepSum_1 rfl hl (by decide) rfl (fun ls hl => ?_)
  have la : ∀ fu : Nat, ∀ (i1 : Nat), (i1 ≤ 8) → (9 ≤ i1 + fu) → ∀ (H : Heap) (locs : List Loc), va_P D kC [(h, .inr (6, [.ref (r 0), .int z1, .ref (r 2), .int z3, .int z4, .ref (r 5), .ref (r 6), .ref (r 7), .int z8, .ref (r 9), .ref (r 10), .ref (r 11), .ref (r 12), .ref (r 13), .ref (r 14), .ref (r 15), .ref (r 16), .ref (r 17), .ref (r 18), .ref (r 19), .ref (r 20), .ref (r 21), .int z22, .ref (r 23), .ref (r 24), .int z25, .ref (r 26), .ref (r 27), .ref (r 28), .ref (r 29), .ref (r 30), .ref (r 31)])), ((r 28), .inl (D.1 20, 80, .inl (kSeg f (fun j => sa (j - at9)) at9 (at9 + i1)))), ((r 29), .inl (D.1 20, 8, .inl sa))] H → va_D A [(h, .inr (6, [.ref (r 0), .int z1, .ref (r 2), .int z3, .int z4, .ref (r 5), .ref (r 6), .ref (r 7), .int z8, .ref (r 9), .ref (r 10), .ref (r 11), .ref (r 12), .ref (r 13), .ref (r 14), .ref (r 15), .ref (r 16), .ref (r 17), .ref (r 18), .ref (r 19), .ref (r 20), .ref (r 21), .int z22, .ref (r 23), .ref (r 24), .int z25, .ref (r 26), .ref (r 27), .ref (r 28), .ref (r 29), .ref (r 30), .ref (r 31)])), ((r 28), .inl (D.1 20, 80, .inl (kSeg f (fun j => sa (j - at9)) at9 (at9 + i1)))), ((r 29), .inl (D.1 20, 8, .inl sa))] → va_S A s.heap H locs → ∀ (ls : Array Slot), lv_has ls 4 [(0, .ref h), (1, .ref (r 28)), (2, .int (nI at9)), (3, .int (nI i1))] → W p l e (headSpec wsX6_keepSum ({ frames := 7, cells := 0, slots := 0, locals := 100 })).room s m #[Value.ref h, Value.ref (r 28), Value.int (nI at9)] below meth c H locs 0 0 Q (F0 m 2 ls []) := by
    intro fu
    induction fu with
    | zero =>
      intro i1 h1 hfu H locs hP hD hS ls hl
      exfalso; omega
    | succ fu ih_la =>
      intro i1 h1 hfu H locs hP hD hS ls hl
      refine lv_iload_n hx hb dX6_keepSum_2 rfl (lv_at hl 3 rfl) ?_
      refine lv_bipush (v := nI 8) hx hb dX6_keepSum_3 (by decide) ?_
      refine kn_icmp_ge (tgt := 25) hx hb (by omega) (by omega) dX6_keepSum_5 (by decide) (fun c_5 => ?_) (fun c_5 => ?_)
      · have ev : i1 = 8 := by omega
        subst ev
        rw [hQ]
        have hP9 : va_P D kC [(h, .inr (6, [.ref (r 0), .int z1, .ref (r 2), .int z3, .int z4, .ref (r 5), .ref (r 6), .ref (r 7), .int z8, .ref (r 9), .ref (r 10), .ref (r 11), .ref (r 12), .ref (r 13), .ref (r 14), .ref (r 15), .ref (r 16), .ref (r 17), .ref (r 18), .ref (r 19), .ref (r 20), .ref (r 21), .int z22, .ref (r 23), .ref (r 24), .int z25, .ref (r 26), .ref (r 27), .ref (r 28), .ref (r 29), .ref (r 30), .ref (r 31)])), ((r 28), .inl (D.1 20, 80, .inl (kSeg f (fun j => sa (j - at9)) at9 (at9 + 8)))), ((r 29), .inl (D.1 20, 8, .inl sa))] _ := hP
        have hD9 : va_D A [(h, .inr (6, [.ref (r 0), .int z1, .ref (r 2), .int z3, .int z4, .ref (r 5), .ref (r 6), .ref (r 7), .int z8, .ref (r 9), .ref (r 10), .ref (r 11), .ref (r 12), .ref (r 13), .ref (r 14), .ref (r 15), .ref (r 16), .ref (r 17), .ref (r 18), .ref (r 19), .ref (r 20), .ref (r 21), .int z22, .ref (r 23), .ref (r 24), .int z25, .ref (r 26), .ref (r 27), .ref (r 28), .ref (r 29), .ref (r 30), .ref (r 31)])), ((r 28), .inl (D.1 20, 80, .inl (kSeg f (fun j => sa (j - at9)) at9 (at9 + 8)))), ((r 29), .inl (D.1 20, 8, .inl sa))] := hD
        exact W.vret hx hb hr (fun tq ht hW => ⟨⟨(), rfl, trivial, by rw [ht]; exact hP9, va_K.moved hW.alike hK, hD9⟩, hS.F ht⟩) hS.2.2 dX6_keepSum_25
      · refine lv_aload_n hx hb dX6_keepSum_8 rfl (lv_at hl 1 rfl) ?_
        refine lv_iload_n hx hb dX6_keepSum_9 rfl (lv_at hl 2 rfl) ?_
        refine lv_iload_n hx hb dX6_keepSum_10 rfl (lv_at hl 3 rfl) ?_
        refine kn_iadd hx hb dX6_keepSum_11 ?_
        refine lv_aload_n hx hb dX6_keepSum_12 rfl (lv_at hl 0 rfl) ?_
        refine va_get (D := D) (ci := 6) (v := .ref (r 29)) (C := RX6) (T := TX6) (N := 32) hx hb hts inX6 hown hK hP 0 rfl rfl 29 (by decide) hwd0 (fun _ h9 => h9) rfl dX6_keepSum_13 ?_
        refine lv_iload_n hx hb dX6_keepSum_16 rfl (lv_at hl 3 rfl) ?_
        refine kn_iald hx hb hK hP 2 0 rfl rfl (i := i1) (by omega) (by decide) dX6_keepSum_17 ?_
        refine kn_iast hx hb hK hP hD hS 1 0 rfl rfl (i := at9 + i1) (by omega) (by decide) dX6_keepSum_18 (fun H locs hP hD hS => ?_)
        have hP : va_P D kC [(h, .inr (6, [.ref (r 0), .int z1, .ref (r 2), .int z3, .int z4, .ref (r 5), .ref (r 6), .ref (r 7), .int z8, .ref (r 9), .ref (r 10), .ref (r 11), .ref (r 12), .ref (r 13), .ref (r 14), .ref (r 15), .ref (r 16), .ref (r 17), .ref (r 18), .ref (r 19), .ref (r 20), .ref (r 21), .int z22, .ref (r 23), .ref (r 24), .int z25, .ref (r 26), .ref (r 27), .ref (r 28), .ref (r 29), .ref (r 30), .ref (r 31)])), ((r 28), .inl (D.1 20, 80, .inl (upd (kSeg f (fun j => sa (j - at9)) at9 (at9 + i1)) (at9 + i1) (sa i1)))), ((r 29), .inl (D.1 20, 8, .inl sa))] _ := hP
        have hD : va_D A [(h, .inr (6, [.ref (r 0), .int z1, .ref (r 2), .int z3, .int z4, .ref (r 5), .ref (r 6), .ref (r 7), .int z8, .ref (r 9), .ref (r 10), .ref (r 11), .ref (r 12), .ref (r 13), .ref (r 14), .ref (r 15), .ref (r 16), .ref (r 17), .ref (r 18), .ref (r 19), .ref (r 20), .ref (r 21), .int z22, .ref (r 23), .ref (r 24), .int z25, .ref (r 26), .ref (r 27), .ref (r 28), .ref (r 29), .ref (r 30), .ref (r 31)])), ((r 28), .inl (D.1 20, 80, .inl (upd (kSeg f (fun j => sa (j - at9)) at9 (at9 + i1)) (at9 + i1) (sa i1)))), ((r 29), .inl (D.1 20, 8, .inl sa))] := hD
        have ef43 : upd (kSeg f (fun j => sa (j - at9)) at9 (at9 + i1)) (at9 + i1) (sa i1) = kSeg f (fun j => sa (j - at9)) at9 (at9 + (i1 + 1)) := kSeg_up (by omega) (by show sa i1 = sa (at9 + i1 - at9); rw [Nat.add_sub_cancel_left])
        rw [ef43] at hP hD
        refine lv_iinc (v := nI (i1 + 1)) (lv' := [(3, .int (nI (i1 + 1))), (0, .ref h), (1, .ref (r 28)), (2, .int (nI at9))]) hx hb dX6_keepSum_19 hl (k := 3) rfl (nI_1 _) (by decide) rfl (fun ls hl => ?_)
        refine lv_goto (tgt := 2) hx hb dX6_keepSum_22 (by decide) ?_
        exact ih_la (i1 + 1) (by omega) (by omega) _ _ hP hD hS ls (lv_sub hl [1, 2, 3, 0] rfl)
  exact la 9 0 (by omega) (by omega) _ _ (by rw [Nat.add_zero, kSeg_0]; exact hP) (by rw [Nat.add_zero, kSeg_0]; exact hD) hS ls (lv_sub hl [1, 2, 3, 0] rfl)

theorem iX6_isSum28_X6 : ∀ w ∈ wsX60, w ∈ wsX6_isSum := by decide +kernel
theorem X6_isSum28_hwd0 : (.fieldLink RX6 146 "SignatureSpansModel" "state" "[I" : Cond) ∈ wsX6_isSum := by decide +kernel
set_option maxHeartbeats 4000000 in
set_option maxRecDepth 100000 in
/-- isSum -/
theorem c_X6_isSum_28 (l : Launch) (D : va_G) (h : Nat) (r : Nat → Nat) (at9 : Nat) (z1 z3 z4 z8 z22 z25 : Int32) (f sa : Nat → Int32) (hat : at9 + 8 ≤ 80) : kM (S := Unit) l yX6_isSum wsX6_isSum ({ frames := 7, cells := 0, slots := 0, locals := 100 }) 0 0 D [.ref h, .ref (r 28), .int (nI at9)] [(h, .inr (6, [.ref (r 0), .int z1, .ref (r 2), .int z3, .int z4, .ref (r 5), .ref (r 6), .ref (r 7), .int z8, .ref (r 9), .ref (r 10), .ref (r 11), .ref (r 12), .ref (r 13), .ref (r 14), .ref (r 15), .ref (r 16), .ref (r 17), .ref (r 18), .ref (r 19), .ref (r 20), .ref (r 21), .int z22, .ref (r 23), .ref (r 24), .int z25, .ref (r 26), .ref (r 27), .ref (r 28), .ref (r 29), .ref (r 30), .ref (r 31)])), ((r 28), .inl (D.1 20, 80, .inl f)), ((r 29), .inl (D.1 20, 8, .inl sa))] (fun _ => some (.int (kB (kEq8 (fun j => f (at9 + j)) sa)))) (fun _ => [(h, .inr (6, [.ref (r 0), .int z1, .ref (r 2), .int z3, .int z4, .ref (r 5), .ref (r 6), .ref (r 7), .int z8, .ref (r 9), .ref (r 10), .ref (r 11), .ref (r 12), .ref (r 13), .ref (r 14), .ref (r 15), .ref (r 16), .ref (r 17), .ref (r 18), .ref (r 19), .ref (r 20), .ref (r 21), .int z22, .ref (r 23), .ref (r 24), .int z25, .ref (r 26), .ref (r 27), .ref (r 28), .ref (r 29), .ref (r 30), .ref (r 31)])), ((r 28), .inl (D.1 20, 80, .inl f)), ((r 29), .inl (D.1 20, 8, .inl sa))]) (fun _ => True) := by
  intro sz
  refine Met.ofW (cc := cX6_isSum) (maxL := 5) (ret := (some .boolean)) (by decide) rfl ?_
  intro p e s m args below meth c s₁ B hml hv
  obtain ⟨rfl, hsz, hP, hK, hD0, hE⟩ := hv
  have hx := B.exec
  have hb := B.bytes
  have hr := B.returns
  have hts := atoms_spec (ws := wsX6_isSum) B.pre
  have hown : s.vm.findClass RX6 = some m.cls := findClass_of_methodNamed B.named
  have hlocks := B.notSynchronized
  subst hsz
  have hD := hD0.self (sz := s.heap.size)
  generalize hAe : va_A [(h, .inr (6, [.ref (r 0), .int z1, .ref (r 2), .int z3, .int z4, .ref (r 5), .ref (r 6), .ref (r 7), .int z8, .ref (r 9), .ref (r 10), .ref (r 11), .ref (r 12), .ref (r 13), .ref (r 14), .ref (r 15), .ref (r 16), .ref (r 17), .ref (r 18), .ref (r 19), .ref (r 20), .ref (r 21), .int z22, .ref (r 23), .ref (r 24), .int z25, .ref (r 26), .ref (r 27), .ref (r 28), .ref (r 29), .ref (r 30), .ref (r 31)])), ((r 28), .inl (D.1 20, 80, .inl f)), ((r 29), .inl (D.1 20, 8, .inl sa))] s.heap.size = A at hD hE ⊢
  have hA : ∀ q : Nat, s.heap.size ≤ q → A q := fun q h => by rw [← hAe]; exact Or.inr h
  have hS : va_S A s.heap s.heap [] := va_S.rf
  have hl := lv_entry ([.ref h, .ref (r 28), .int (nI at9)]) (n := 5) (Nat.le_of_ble_eq_true rfl)
  have inX6 : ∀ w ∈ wsX60, w ∈ wsX6_isSum := iX6_isSum28_X6
  have hwd0 := hts (.fieldLink RX6 146 "SignatureSpansModel" "state" "[I") X6_isSum28_hwd0
  refine kgenQ (fun Q hQ => ?_)
  rw [lg_entry_eq]
  generalize (lg_sl ([.ref h, .ref (r 28), .int (nI at9)]) ++ List.replicate (5 - (lg_sl ([.ref h, .ref (r 28), .int (nI at9)])).length) Slot.unset).toArray = ls at hl ⊢
  have hl : lv_has ls 5 [(0, .ref h), (1, .ref (r 28)), (2, .int (nI at9))] := hl
  refine lv_iconst (v := nI 1) hx hb dX6_isSum_0 (by decide) ?_
  refine lv_istore_n (lv' := [(3, .int (nI 1)), (0, .ref h), (1, .ref (r 28)), (2, .int (nI at9))]) hx hb dX6_isSum_1 rfl hl (by decide) rfl (fun ls hl => ?_)
  refine lv_iconst (v := nI 0) hx hb dX6_isSum_2 (by decide) ?_
  refine lv_istore (lv' := [(4, .int (nI 0)), (3, .int (nI 1)), (0, .ref h), (1, .ref (r 28)), (2, .int (nI at9))]) hx hb dX6_isSum_3 hl (by decide) rfl (fun ls hl => ?_)
  have la : ∀ fu : Nat, ∀ (i1 : Nat) (e9 : Nat), (i1 ≤ 8) → (e9 = 1 ∧ (∀ j, j < i1 → f (at9 + j) = sa j) ∨ e9 = 0 ∧ ∃ j, j < 8 ∧ ¬ f (at9 + j) = sa j) → (9 ≤ i1 + fu) → ∀ (H : Heap) (locs : List Loc), va_P D kC [(h, .inr (6, [.ref (r 0), .int z1, .ref (r 2), .int z3, .int z4, .ref (r 5), .ref (r 6), .ref (r 7), .int z8, .ref (r 9), .ref (r 10), .ref (r 11), .ref (r 12), .ref (r 13), .ref (r 14), .ref (r 15), .ref (r 16), .ref (r 17), .ref (r 18), .ref (r 19), .ref (r 20), .ref (r 21), .int z22, .ref (r 23), .ref (r 24), .int z25, .ref (r 26), .ref (r 27), .ref (r 28), .ref (r 29), .ref (r 30), .ref (r 31)])), ((r 28), .inl (D.1 20, 80, .inl f)), ((r 29), .inl (D.1 20, 8, .inl sa))] H → va_D A [(h, .inr (6, [.ref (r 0), .int z1, .ref (r 2), .int z3, .int z4, .ref (r 5), .ref (r 6), .ref (r 7), .int z8, .ref (r 9), .ref (r 10), .ref (r 11), .ref (r 12), .ref (r 13), .ref (r 14), .ref (r 15), .ref (r 16), .ref (r 17), .ref (r 18), .ref (r 19), .ref (r 20), .ref (r 21), .int z22, .ref (r 23), .ref (r 24), .int z25, .ref (r 26), .ref (r 27), .ref (r 28), .ref (r 29), .ref (r 30), .ref (r 31)])), ((r 28), .inl (D.1 20, 80, .inl f)), ((r 29), .inl (D.1 20, 8, .inl sa))] → va_S A s.heap H locs → ∀ (ls : Array Slot), lv_has ls 5 [(0, .ref h), (1, .ref (r 28)), (2, .int (nI at9)), (3, .int (nI e9)), (4, .int (nI i1))] → W p l e (headSpec wsX6_isSum ({ frames := 7, cells := 0, slots := 0, locals := 100 })).room s m #[Value.ref h, Value.ref (r 28), Value.int (nI at9)] below meth c H locs 0 0 Q (F0 m 5 ls []) := by
    intro fu
    induction fu with
    | zero =>
      intro i1 e9 h1 he hfu H locs hP hD hS ls hl
      exfalso; omega
    | succ fu ih_la =>
      intro i1 e9 h1 he hfu H locs hP hD hS ls hl
      refine lv_iload hx hb dX6_isSum_5 (lv_at hl 4 rfl) ?_
      refine lv_bipush (v := nI 8) hx hb dX6_isSum_7 (by decide) ?_
      refine kn_icmp_ge (tgt := 44) hx hb (by omega) (by omega) dX6_isSum_9 (by decide) (fun c_9 => ?_) (fun c_9 => ?_)
      · refine lv_iload_n hx hb dX6_isSum_44 rfl (lv_at hl 3 rfl) ?_
        have ei : i1 = 8 := by omega
        subst ei
        have e45 : nI e9 = kB (kEq8 (fun j => f (at9 + j)) sa) := he.elim (fun q => by rw [q.1]; exact kB_t (kEq8_t q.2)) (fun q => by rw [q.1]; obtain ⟨-, j, hj, hne⟩ := q; exact kB_f (kEq8_f j hj hne))
        rw [hQ]
        have hP9 : va_P D kC [(h, .inr (6, [.ref (r 0), .int z1, .ref (r 2), .int z3, .int z4, .ref (r 5), .ref (r 6), .ref (r 7), .int z8, .ref (r 9), .ref (r 10), .ref (r 11), .ref (r 12), .ref (r 13), .ref (r 14), .ref (r 15), .ref (r 16), .ref (r 17), .ref (r 18), .ref (r 19), .ref (r 20), .ref (r 21), .int z22, .ref (r 23), .ref (r 24), .int z25, .ref (r 26), .ref (r 27), .ref (r 28), .ref (r 29), .ref (r 30), .ref (r 31)])), ((r 28), .inl (D.1 20, 80, .inl f)), ((r 29), .inl (D.1 20, 8, .inl sa))] _ := hP
        have hD9 : va_D A [(h, .inr (6, [.ref (r 0), .int z1, .ref (r 2), .int z3, .int z4, .ref (r 5), .ref (r 6), .ref (r 7), .int z8, .ref (r 9), .ref (r 10), .ref (r 11), .ref (r 12), .ref (r 13), .ref (r 14), .ref (r 15), .ref (r 16), .ref (r 17), .ref (r 18), .ref (r 19), .ref (r 20), .ref (r 21), .int z22, .ref (r 23), .ref (r 24), .int z25, .ref (r 26), .ref (r 27), .ref (r 28), .ref (r 29), .ref (r 30), .ref (r 31)])), ((r 28), .inl (D.1 20, 80, .inl f)), ((r 29), .inl (D.1 20, 8, .inl sa))] := hD
        exact W.zret (v := nI e9) hx hb hr (by rw [e45]; exact kB_nar _) (fun tq ht hW => ⟨⟨(), congrArg (fun z => Outcome.returned (some (Value.int z))) e45, trivial, by rw [ht]; exact hP9, va_K.moved hW.alike hK, hD9⟩, hS.F ht⟩) hS.2.2 dX6_isSum_45
      · have he9 : e9 ≤ 1 := by rcases he with h | h <;> omega
        refine lv_iload_n hx hb dX6_isSum_12 rfl (lv_at hl 3 rfl) ?_
        refine kn_if_eq (tgt := 36) hx hb (by omega) dX6_isSum_13 (by decide) (fun c_13 => ?_) (fun c_13 => ?_)
        · refine lv_iconst (v := nI 0) hx hb dX6_isSum_36 (by decide) ?_
          refine lv_istore_n (lv' := [(3, .int (nI 0)), (0, .ref h), (1, .ref (r 28)), (2, .int (nI at9)), (4, .int (nI i1))]) hx hb dX6_isSum_37 rfl hl (by decide) rfl (fun ls hl => ?_)
          refine lv_iinc (v := nI (i1 + 1)) (lv' := [(4, .int (nI (i1 + 1))), (3, .int (nI 0)), (0, .ref h), (1, .ref (r 28)), (2, .int (nI at9))]) hx hb dX6_isSum_38 hl (k := 4) rfl (nI_1 _) (by decide) rfl (fun ls hl => ?_)
          refine lv_goto (tgt := 5) hx hb dX6_isSum_41 (by decide) ?_
          exact ih_la (i1 + 1) 0 (by omega) (he.elim (fun q => absurd q.1 (by omega)) (fun q => Or.inr ⟨rfl, q.2⟩)) (by omega) _ _ hP hD hS ls (lv_sub hl [2, 3, 4, 1, 0] rfl)
        · refine lv_aload_n hx hb dX6_isSum_16 rfl (lv_at hl 1 rfl) ?_
          refine lv_iload_n hx hb dX6_isSum_17 rfl (lv_at hl 2 rfl) ?_
          refine lv_iload hx hb dX6_isSum_18 (lv_at hl 4 rfl) ?_
          refine kn_iadd hx hb dX6_isSum_20 ?_
          refine kn_iald hx hb hK hP 1 0 rfl rfl (i := at9 + i1) (by omega) (by decide) dX6_isSum_21 ?_
          refine lv_aload_n hx hb dX6_isSum_22 rfl (lv_at hl 0 rfl) ?_
          refine va_get (D := D) (ci := 6) (v := .ref (r 29)) (C := RX6) (T := TX6) (N := 32) hx hb hts inX6 hown hK hP 0 rfl rfl 29 (by decide) hwd0 (fun _ h9 => h9) rfl dX6_isSum_23 ?_
          refine lv_iload hx hb dX6_isSum_26 (lv_at hl 4 rfl) ?_
          refine kn_iald hx hb hK hP 2 0 rfl rfl (i := i1) (by omega) (by decide) dX6_isSum_28 ?_
          refine lv_icmp_ne (tgt := 36) hx hb dX6_isSum_29 (by decide) (fun c_29 => ?_) (fun c_29 => ?_)
          · refine lv_iconst (v := nI 0) hx hb dX6_isSum_36 (by decide) ?_
            refine lv_istore_n (lv' := [(3, .int (nI 0)), (0, .ref h), (1, .ref (r 28)), (2, .int (nI at9)), (4, .int (nI i1))]) hx hb dX6_isSum_37 rfl hl (by decide) rfl (fun ls hl => ?_)
            refine lv_iinc (v := nI (i1 + 1)) (lv' := [(4, .int (nI (i1 + 1))), (3, .int (nI 0)), (0, .ref h), (1, .ref (r 28)), (2, .int (nI at9))]) hx hb dX6_isSum_38 hl (k := 4) rfl (nI_1 _) (by decide) rfl (fun ls hl => ?_)
            refine lv_goto (tgt := 5) hx hb dX6_isSum_41 (by decide) ?_
            exact ih_la (i1 + 1) 0 (by omega) (Or.inr ⟨rfl, i1, by omega, c_29⟩) (by omega) _ _ hP hD hS ls (lv_sub hl [2, 3, 4, 1, 0] rfl)
          · refine lv_iconst (v := nI 1) hx hb dX6_isSum_32 (by decide) ?_
            refine lv_goto (tgt := 37) hx hb dX6_isSum_33 (by decide) ?_
            refine lv_istore_n (lv' := [(3, .int (nI 1)), (0, .ref h), (1, .ref (r 28)), (2, .int (nI at9)), (4, .int (nI i1))]) hx hb dX6_isSum_37 rfl hl (by decide) rfl (fun ls hl => ?_)
            refine lv_iinc (v := nI (i1 + 1)) (lv' := [(4, .int (nI (i1 + 1))), (3, .int (nI 1)), (0, .ref h), (1, .ref (r 28)), (2, .int (nI at9))]) hx hb dX6_isSum_38 hl (k := 4) rfl (nI_1 _) (by decide) rfl (fun ls hl => ?_)
            refine lv_goto (tgt := 5) hx hb dX6_isSum_41 (by decide) ?_
            exact ih_la (i1 + 1) 1 (by omega) (Or.inl ⟨rfl, fun j hj => (Nat.lt_succ_iff_lt_or_eq.mp hj).elim (he.elim (fun q => q.2 j) (fun q => absurd q.1 (by omega))) (fun e => by rw [e]; exact c_29)⟩) (by omega) _ _ hP hD hS ls (lv_sub hl [2, 3, 4, 1, 0] rfl)
  exact la 9 0 1 (by omega) (Or.inl ⟨rfl, fun j hj => absurd hj (Nat.not_lt_zero j)⟩) (by omega) _ _ hP hD hS ls (lv_sub hl [2, 3, 4, 1, 0] rfl)
