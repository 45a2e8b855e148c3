theorem iX5_add_X5 : ∀ w ∈ wsX50, w ∈ wsX5_add := by decide +kernel
theorem X5_add_hwd0 : (.fieldLink RX5 47 "SignatureSpans" "size" "I" : Cond) ∈ wsX5_add := by decide +kernel
theorem X5_add_hwd1 : (.fieldLink RX5 9 "SignatureSpans" "file" "[B" : Cond) ∈ wsX5_add := by decide +kernel
theorem X5_add_hwd2 : (.classLink RX5 51 "java/lang/UnsupportedOperationException" : Cond) ∈ wsX5_add := by decide +kernel
theorem X5_add_hwd3 : (.initialized "java/lang/UnsupportedOperationException" : Cond) ∈ wsX5_add := by decide +kernel
theorem xX5_add_55 : ∀ w ∈ (vx_atS RX5 55 "java/lang/UnsupportedOperationException" ["java/lang/RuntimeException", "java/lang/Exception"]).filter goodWord, w ∈ wsX5_add := by decide +kernel
set_option maxHeartbeats 4000000 in
set_option maxRecDepth 100000 in
/-- add -/
theorem c_X5_add (l : Launch) (hl0 : l.stackTraces = false) (D : va_G) (h fa ap aa ac at9 ah sz cn : Nat) (sf : Int32) (fl : Nat → Int32) (b : Int32) (hsz9 : sz ≤ 1500) : kX (S := Unit) l yX5_add wsX5_add ({ frames := 7, cells := 1, slots := 6, locals := 100 }) 1 6 D [.ref h, .int b] [(h, .inr (5, [.ref fa, .int (nI sz), .ref ap, .ref aa, .int (nI cn), .int sf, .ref ac, .ref at9, .ref ah])), (fa, .inl (D.1 21, 1500, .inl fl))] (kEx [kUoe] (kcAdd sz)) (fun _ => some (.int (nI (sz + 1)))) (fun _ => [(h, .inr (5, [.ref fa, .int (nI (sz + 1)), .ref ap, .ref aa, .int (nI cn), .int sf, .ref ac, .ref at9, .ref ah])), (fa, .inl (D.1 21, 1500, .inl (upd fl sz b.toInt8.toInt32)))]) (fun _ => True) := by
  intro sz
  refine vx_ofW (cc := cX5_add) (maxL := 2) (ret := (some .int)) (by decide) rfl ?_
  intro p e s m args below meth c s₁ B hml hnoh hv
  obtain ⟨rfl, hsz, hP, hK, hD0, hE⟩ := hv
  have hx := B.exec
  have hb := B.bytes
  have hr := B.returns
  have hts := atoms_spec (ws := wsX5_add) B.pre
  have hown : s.vm.findClass RX5 = some m.cls := findClass_of_methodNamed B.named
  have hlocks := B.notSynchronized
  subst hsz
  have hD := hD0.self (sz := s.heap.size)
  generalize hAe : va_A [(h, .inr (5, [.ref fa, .int (nI sz), .ref ap, .ref aa, .int (nI cn), .int sf, .ref ac, .ref at9, .ref ah])), (fa, .inl (D.1 21, 1500, .inl fl))] s.heap.size = A at hD hE ⊢
  have hA : ∀ q : Nat, s.heap.size ≤ q → A q := fun q h => by rw [← hAe]; exact Or.inr h
  have hS : va_S A s.heap s.heap [] := va_S.rf
  have hl := lv_entry ([.ref h, .int b]) (n := 2) (Nat.le_of_ble_eq_true rfl)
  have inX5 : ∀ w ∈ wsX50, w ∈ wsX5_add := iX5_add_X5
  have hwd0 := hts (.fieldLink RX5 47 "SignatureSpans" "size" "I") X5_add_hwd0
  have hwd1 := hts (.fieldLink RX5 9 "SignatureSpans" "file" "[B") X5_add_hwd1
  have hwd2 := hts (.classLink RX5 51 "java/lang/UnsupportedOperationException") X5_add_hwd2
  have hwd3 := hts (.initialized "java/lang/UnsupportedOperationException") X5_add_hwd3
  have xw_55 := xX5_add_55
  refine kgenQ (fun Q hQ => ?_)
  rw [lg_entry_eq]
  generalize (lg_sl ([.ref h, .int b]) ++ List.replicate (2 - (lg_sl ([.ref h, .int b])).length) Slot.unset).toArray = ls at hl ⊢
  have hl : lv_has ls 2 [(0, .ref h), (1, .int b)] := hl
  refine lv_aload_n hx hb dX5_add_0 rfl (lv_at hl 0 rfl) ?_
  refine va_get (D := D) (ci := 5) (v := .int (nI sz)) (C := RX5) (T := TX5) (N := 9) hx hb hts inX5 hown hK hP 0 rfl rfl 1 (by decide) hwd0 (fun _ h9 => h9) rfl dX5_add_1 ?_
  refine lv_sipush (v := nI 1500) hx hb dX5_add_4 (by decide) ?_
  refine kn_icmp_lt (tgt := 20) hx hb (by omega) (by omega) dX5_add_7 (by decide) (fun c_7 => ?_) (fun c_7 => ?_)
  · refine lv_aload_n hx hb dX5_add_20 rfl (lv_at hl 0 rfl) ?_
    refine va_get (D := D) (ci := 5) (v := .ref fa) (C := RX5) (T := TX5) (N := 9) hx hb hts inX5 hown hK hP 0 rfl rfl 0 (by decide) hwd1 (fun _ h9 => h9) rfl dX5_add_21 ?_
    refine lv_aload_n hx hb dX5_add_24 rfl (lv_at hl 0 rfl) ?_
    refine va_get (D := D) (ci := 5) (v := .int (nI sz)) (C := RX5) (T := TX5) (N := 9) hx hb hts inX5 hown hK hP 0 rfl rfl 1 (by decide) hwd0 (fun _ h9 => h9) rfl dX5_add_25 ?_
    refine lv_iload_n hx hb dX5_add_28 rfl (lv_at hl 1 rfl) ?_
    refine kn_bast hx hb hK hP hD hS 1 1 rfl rfl (i := sz) (by omega) (by decide) dX5_add_29 (fun H locs hP hD hS => ?_)
    have hP : va_P D kC [(h, .inr (5, [.ref fa, .int (nI sz), .ref ap, .ref aa, .int (nI cn), .int sf, .ref ac, .ref at9, .ref ah])), (fa, .inl (D.1 21, 1500, .inl (upd fl sz b.toInt8.toInt32)))] _ := hP
    have hD : va_D A [(h, .inr (5, [.ref fa, .int (nI sz), .ref ap, .ref aa, .int (nI cn), .int sf, .ref ac, .ref at9, .ref ah])), (fa, .inl (D.1 21, 1500, .inl (upd fl sz b.toInt8.toInt32)))] := hD
    refine lv_aload_n hx hb dX5_add_30 rfl (lv_at hl 0 rfl) ?_
    refine lv_dup hx hb dX5_add_31 rfl ?_
    refine va_get (D := D) (ci := 5) (v := .int (nI sz)) (C := RX5) (T := TX5) (N := 9) hx hb hts inX5 hown hK hP 0 rfl rfl 1 (by decide) hwd0 (fun _ h9 => h9) rfl dX5_add_32 ?_
    refine lv_iconst (v := nI 1) hx hb dX5_add_35 (by decide) ?_
    refine kn_iadd hx hb dX5_add_36 ?_
    refine va_put (D := D) (ci := 5) (v := .int (nI (sz + 1))) (ty := .int) (C := RX5) (T := TX5) (N := 9) hx hb hts inX5 tyX5 tyX5_ok nmX5 hown hK hP hD hS 0 rfl rfl 1 (by decide) hwd0 (fun _ h9 => h9) rfl (by decide +kernel) rfl rfl (Nat.le_of_ble_eq_true rfl) dX5_add_37 (fun H locs hP hD hS => ?_)
    have hP : va_P D kC [(h, .inr (5, [.ref fa, .int (nI (sz + 1)), .ref ap, .ref aa, .int (nI cn), .int sf, .ref ac, .ref at9, .ref ah])), (fa, .inl (D.1 21, 1500, .inl (upd fl sz b.toInt8.toInt32)))] _ := hP
    have hD : va_D A [(h, .inr (5, [.ref fa, .int (nI (sz + 1)), .ref ap, .ref aa, .int (nI cn), .int sf, .ref ac, .ref at9, .ref ah])), (fa, .inl (D.1 21, 1500, .inl (upd fl sz b.toInt8.toInt32)))] := hD
    refine lv_aload_n hx hb dX5_add_40 rfl (lv_at hl 0 rfl) ?_
    refine va_get (D := D) (ci := 5) (v := .int (nI (sz + 1))) (C := RX5) (T := TX5) (N := 9) hx hb hts inX5 hown hK hP 0 rfl rfl 1 (by decide) hwd0 (fun _ h9 => h9) rfl dX5_add_41 ?_
    rw [hQ]
    refine vx_ret ?_
    refine W.widen (k := 1) (n := 6) (Nat.le_of_ble_eq_true rfl) (Nat.le_of_ble_eq_true rfl) ?_
    have hP9 : va_P D kC [(h, .inr (5, [.ref fa, .int (nI (sz + 1)), .ref ap, .ref aa, .int (nI cn), .int sf, .ref ac, .ref at9, .ref ah])), (fa, .inl (D.1 21, 1500, .inl (upd fl sz b.toInt8.toInt32)))] _ := hP
    have hD9 : va_D A [(h, .inr (5, [.ref fa, .int (nI (sz + 1)), .ref ap, .ref aa, .int (nI cn), .int sf, .ref ac, .ref at9, .ref ah])), (fa, .inl (D.1 21, 1500, .inl (upd fl sz b.toInt8.toInt32)))] := hD
    exact W.iret (v := nI (sz + 1)) hx hb hr (fun t ht hW => ⟨by rw [show kcAdd sz = 0 from if_neg (by omega)]; rfl, ⟨⟨(), rfl, trivial, by rw [ht]; exact hP9, va_K.moved hW.alike hK, hD9⟩, hS.F ht⟩⟩) hS.2.2 dX5_add_44
  · rw [hQ]
    exact kx_throw (E := "java/lang/UnsupportedOperationException") (names := ["java/lang/RuntimeException", "java/lang/Exception"]) (ik := 51) (is := 53) (ic := 55) hx hb hl0 hnoh hown hts hK hE hP hD hS hwd2 hwd3 (hE.2.2.2.1 (53, "the file is full") (by decide +kernel)) xw_55 (by decide +kernel) (by decide +kernel) (by decide +kernel) (by decide +kernel) (by rw [hml]; exact hl.1) dX5_add_10 dX5_add_13 dX5_add_14 dX5_add_16 dX5_add_19 (Nat.le_of_ble_eq_true rfl) (Nat.le_of_ble_eq_true rfl) ⟨Nat.le_of_ble_eq_true rfl, Nat.le_of_ble_eq_true rfl⟩ ⟨Nat.le_of_ble_eq_true rfl, Nat.le_of_ble_eq_true rfl⟩ hlocks (by rw [show kcAdd sz = 1 from if_pos (by omega)]; rfl)

theorem iX5_poke_X5 : ∀ w ∈ wsX50, w ∈ wsX5_poke := by decide +kernel
theorem X5_poke_hwd0 : (.classLink RX5 58 "java/lang/IndexOutOfBoundsException" : Cond) ∈ wsX5_poke := by decide +kernel
theorem X5_poke_hwd1 : (.initialized "java/lang/IndexOutOfBoundsException" : Cond) ∈ wsX5_poke := by decide +kernel
theorem X5_poke_hwd2 : (.fieldLink RX5 47 "SignatureSpans" "size" "I" : Cond) ∈ wsX5_poke := by decide +kernel
theorem X5_poke_hwd3 : (.fieldLink RX5 9 "SignatureSpans" "file" "[B" : Cond) ∈ wsX5_poke := by decide +kernel
theorem xX5_poke_62 : ∀ w ∈ (vx_atS RX5 62 "java/lang/IndexOutOfBoundsException" ["java/lang/RuntimeException", "java/lang/Exception"]).filter goodWord, w ∈ wsX5_poke := by decide +kernel
set_option maxHeartbeats 4000000 in
set_option maxRecDepth 100000 in
/-- poke -/
theorem c_X5_poke (l : Launch) (hl0 : l.stackTraces = false) (D : va_G) (h fa ap aa ac at9 ah sz cn : Nat) (sf : Int32) (fl : Nat → Int32) (x : Int64) (mk : Int32) (hsz9 : sz ≤ 1500) : kX (S := Unit) l yX5_poke wsX5_poke ({ frames := 7, cells := 1, slots := 6, locals := 100 }) 1 6 D [.ref h, .long x, .int mk] [(h, .inr (5, [.ref fa, .int (nI sz), .ref ap, .ref aa, .int (nI cn), .int sf, .ref ac, .ref at9, .ref ah])), (fa, .inl (D.1 21, 1500, .inl fl))] (kEx [kIob] (kcPoke sz x)) (fun _ => some (.int (((fl (kL x) ^^^ mk).toInt8.toInt32).toInt8.toInt32 &&& nI 255))) (fun _ => [(h, .inr (5, [.ref fa, .int (nI sz), .ref ap, .ref aa, .int (nI cn), .int sf, .ref ac, .ref at9, .ref ah])), (fa, .inl (D.1 21, 1500, .inl (upd fl (kL x) (((fl (kL x) ^^^ mk).toInt8.toInt32).toInt8.toInt32))))]) (fun _ => True) := by
  intro sz
  refine vx_ofW (cc := cX5_poke) (maxL := 5) (ret := (some .int)) (by decide) rfl ?_
  intro p e s m args below meth c s₁ B hml hnoh hv
  obtain ⟨rfl, hsz, hP, hK, hD0, hE⟩ := hv
  have hx := B.exec
  have hb := B.bytes
  have hr := B.returns
  have hts := atoms_spec (ws := wsX5_poke) B.pre
  have hown : s.vm.findClass RX5 = some m.cls := findClass_of_methodNamed B.named
  have hlocks := B.notSynchronized
  subst hsz
  have hD := hD0.self (sz := s.heap.size)
  generalize hAe : va_A [(h, .inr (5, [.ref fa, .int (nI sz), .ref ap, .ref aa, .int (nI cn), .int sf, .ref ac, .ref at9, .ref ah])), (fa, .inl (D.1 21, 1500, .inl fl))] s.heap.size = A at hD hE ⊢
  have hA : ∀ q : Nat, s.heap.size ≤ q → A q := fun q h => by rw [← hAe]; exact Or.inr h
  have hS : va_S A s.heap s.heap [] := va_S.rf
  have hl := lv_entry ([.ref h, .long x, .int mk]) (n := 5) (Nat.le_of_ble_eq_true rfl)
  have inX5 : ∀ w ∈ wsX50, w ∈ wsX5_poke := iX5_poke_X5
  have hwd0 := hts (.classLink RX5 58 "java/lang/IndexOutOfBoundsException") X5_poke_hwd0
  have hwd1 := hts (.initialized "java/lang/IndexOutOfBoundsException") X5_poke_hwd1
  have hwd2 := hts (.fieldLink RX5 47 "SignatureSpans" "size" "I") X5_poke_hwd2
  have hwd3 := hts (.fieldLink RX5 9 "SignatureSpans" "file" "[B") X5_poke_hwd3
  have xw_62 := xX5_poke_62
  refine kgenQ (fun Q hQ => ?_)
  rw [lg_entry_eq]
  generalize (lg_sl ([.ref h, .long x, .int mk]) ++ List.replicate (5 - (lg_sl ([.ref h, .long x, .int mk])).length) Slot.unset).toArray = ls at hl ⊢
  have hl : lv_has ls 5 [(0, .ref h), (1, .long x), (3, .int mk)] := hl
  refine lv_lload_n hx hb dX5_poke_0 rfl (lv_at hl 1 rfl) ?_
  refine lv_lconst (v := lN 0) hx hb dX5_poke_1 (by decide) ?_
  refine W.lcmp hx hb dX5_poke_2 ?_
  refine lv_if_lt (tgt := 16) hx hb dX5_poke_3 (by decide) (fun c_3 => ?_) (fun c_3 => ?_)
  · have c_3 := (lg_cmp_lt _ _).mp c_3
    rw [hQ]
    exact kx_throw (E := "java/lang/IndexOutOfBoundsException") (names := ["java/lang/RuntimeException", "java/lang/Exception"]) (ik := 58) (is := 60) (ic := 62) hx hb hl0 hnoh hown hts hK hE hP hD hS hwd0 hwd1 (hE.2.2.2.1 (60, "no such byte") (by decide +kernel)) xw_62 (by decide +kernel) (by decide +kernel) (by decide +kernel) (by decide +kernel) (by rw [hml]; exact hl.1) dX5_poke_16 dX5_poke_19 dX5_poke_20 dX5_poke_22 dX5_poke_25 (Nat.le_of_ble_eq_true rfl) (Nat.le_of_ble_eq_true rfl) ⟨Nat.le_of_ble_eq_true rfl, Nat.le_of_ble_eq_true rfl⟩ ⟨Nat.le_of_ble_eq_true rfl, Nat.le_of_ble_eq_true rfl⟩ hlocks (by rw [show kcPoke sz x = 1 from if_pos (Or.inl c_3)]; rfl)
  · have c_3 := fun h9 => c_3 ((lg_cmp_lt _ _).mpr h9)
    refine lv_lload_n hx hb dX5_poke_6 rfl (lv_at hl 1 rfl) ?_
    refine lv_aload_n hx hb dX5_poke_7 rfl (lv_at hl 0 rfl) ?_
    refine va_get (D := D) (ci := 5) (v := .int (nI sz)) (C := RX5) (T := TX5) (N := 9) hx hb hts inX5 hown hK hP 0 rfl rfl 1 (by decide) hwd2 (fun _ h9 => h9) rfl dX5_poke_8 ?_
    refine lv_i2l (v := lN sz) hx hb dX5_poke_11 (nI_l (by omega)) ?_
    refine W.lcmp hx hb dX5_poke_12 ?_
    refine lv_if_lt (tgt := 26) hx hb dX5_poke_13 (by decide) (fun c_13 => ?_) (fun c_13 => ?_)
    · have c_13 := (lg_cmp_lt _ _).mp c_13
      obtain ⟨j, hj, hxj⟩ := kNatL (by omega) c_3 c_13
      have hjx : kL x = j := by rw [hxj]; exact kL_lN (by omega)
      refine lv_lload_n hx hb dX5_poke_26 rfl (lv_at hl 1 rfl) ?_
      refine kt_l (v' := lN j) hxj ?_
      refine lv_l2i (v := nI j) hx hb dX5_poke_27 (lN_i _) ?_
      refine lv_istore (lv' := [(4, .int (nI j)), (0, .ref h), (1, .long x), (3, .int mk)]) hx hb dX5_poke_28 hl (by decide) rfl (fun ls hl => ?_)
      refine lv_aload_n hx hb dX5_poke_30 rfl (lv_at hl 1 rfl) ?_
      refine va_get (D := D) (ci := 5) (v := .ref fa) (C := RX5) (T := TX5) (N := 9) hx hb hts inX5 hown hK hP 0 rfl rfl 0 (by decide) hwd3 (fun _ h9 => h9) rfl dX5_poke_31 ?_
      refine lv_iload hx hb dX5_poke_34 (lv_at hl 0 rfl) ?_
      refine lv_aload_n hx hb dX5_poke_36 rfl (lv_at hl 1 rfl) ?_
      refine va_get (D := D) (ci := 5) (v := .ref fa) (C := RX5) (T := TX5) (N := 9) hx hb hts inX5 hown hK hP 0 rfl rfl 0 (by decide) hwd3 (fun _ h9 => h9) rfl dX5_poke_37 ?_
      refine lv_iload hx hb dX5_poke_40 (lv_at hl 0 rfl) ?_
      refine kn_bald hx hb hK hP 1 1 rfl rfl (i := j) (by omega) (by decide) dX5_poke_42 ?_
      refine lv_iload_n hx hb dX5_poke_43 rfl (lv_at hl 3 rfl) ?_
      refine lv_ixor hx hb dX5_poke_44 ?_
      refine lv_i2b (v := ((fl j) ^^^ mk).toInt8.toInt32) hx hb dX5_poke_45 rfl ?_
      refine kn_bast hx hb hK hP hD hS 1 1 rfl rfl (i := j) (by omega) (by decide) dX5_poke_46 (fun H locs hP hD hS => ?_)
      have hP : va_P D kC [(h, .inr (5, [.ref fa, .int (nI sz), .ref ap, .ref aa, .int (nI cn), .int sf, .ref ac, .ref at9, .ref ah])), (fa, .inl (D.1 21, 1500, .inl (upd fl j ((((fl j) ^^^ mk).toInt8.toInt32).toInt8.toInt32))))] _ := hP
      have hD : va_D A [(h, .inr (5, [.ref fa, .int (nI sz), .ref ap, .ref aa, .int (nI cn), .int sf, .ref ac, .ref at9, .ref ah])), (fa, .inl (D.1 21, 1500, .inl (upd fl j ((((fl j) ^^^ mk).toInt8.toInt32).toInt8.toInt32))))] := hD
      refine lv_aload_n hx hb dX5_poke_47 rfl (lv_at hl 1 rfl) ?_
      refine va_get (D := D) (ci := 5) (v := .ref fa) (C := RX5) (T := TX5) (N := 9) hx hb hts inX5 hown hK hP 0 rfl rfl 0 (by decide) hwd3 (fun _ h9 => h9) rfl dX5_poke_48 ?_
      refine lv_iload hx hb dX5_poke_51 (lv_at hl 0 rfl) ?_
      refine kn_bald hx hb hK hP 1 1 rfl rfl (i := j) (by omega) (by decide) dX5_poke_53 ?_
      refine kt_i (v' := (((fl j) ^^^ mk).toInt8.toInt32).toInt8.toInt32) pk_us ?_
      refine lv_sipush (v := nI 255) hx hb dX5_poke_54 (by decide) ?_
      refine lv_iand hx hb dX5_poke_57 ?_
      rw [hQ]
      refine vx_ret ?_
      refine W.widen (k := 1) (n := 6) (Nat.le_of_ble_eq_true rfl) (Nat.le_of_ble_eq_true rfl) ?_
      have hP9 : va_P D kC [(h, .inr (5, [.ref fa, .int (nI sz), .ref ap, .ref aa, .int (nI cn), .int sf, .ref ac, .ref at9, .ref ah])), (fa, .inl (D.1 21, 1500, .inl (upd fl (kL x) (((fl (kL x) ^^^ mk).toInt8.toInt32).toInt8.toInt32))))] H := by rw [hjx]; exact hP
      have hD9 : va_D A [(h, .inr (5, [.ref fa, .int (nI sz), .ref ap, .ref aa, .int (nI cn), .int sf, .ref ac, .ref at9, .ref ah])), (fa, .inl (D.1 21, 1500, .inl (upd fl (kL x) (((fl (kL x) ^^^ mk).toInt8.toInt32).toInt8.toInt32))))] := by rw [hjx]; exact hD
      exact W.iret (v := ((((fl j) ^^^ mk).toInt8.toInt32).toInt8.toInt32) &&& (nI 255)) hx hb hr (fun t ht hW => ⟨by rw [show kcPoke sz x = 0 from if_neg (fun q => q.elim c_3 (fun z => z c_13))]; rfl, ⟨⟨(), congrArg (fun z => Outcome.returned (some (Value.int z))) (by rw [hjx]), trivial, by rw [ht]; exact hP9, va_K.moved hW.alike hK, hD9⟩, hS.F ht⟩⟩) hS.2.2 dX5_poke_58
    · have c_13 := fun h9 => c_13 ((lg_cmp_lt _ _).mpr h9)
      rw [hQ]
      exact kx_throw (E := "java/lang/IndexOutOfBoundsException") (names := ["java/lang/RuntimeException", "java/lang/Exception"]) (ik := 58) (is := 60) (ic := 62) hx hb hl0 hnoh hown hts hK hE hP hD hS hwd0 hwd1 (hE.2.2.2.1 (60, "no such byte") (by decide +kernel)) xw_62 (by decide +kernel) (by decide +kernel) (by decide +kernel) (by decide +kernel) (by rw [hml]; exact hl.1) dX5_poke_16 dX5_poke_19 dX5_poke_20 dX5_poke_22 dX5_poke_25 (Nat.le_of_ble_eq_true rfl) (Nat.le_of_ble_eq_true rfl) ⟨Nat.le_of_ble_eq_true rfl, Nat.le_of_ble_eq_true rfl⟩ ⟨Nat.le_of_ble_eq_true rfl, Nat.le_of_ble_eq_true rfl⟩ hlocks (by rw [show kcPoke sz x = 1 from if_pos (Or.inr c_13)]; rfl)

theorem iX5_place_X1 : ∀ w ∈ wsX10, w ∈ wsX5_place := by decide +kernel
theorem iX5_place_X5 : ∀ w ∈ wsX50, w ∈ wsX5_place := by decide +kernel
theorem X5_place_hwd0 : (.classLink RX5 63 "java/lang/IllegalArgumentException" : Cond) ∈ wsX5_place := by decide +kernel
theorem X5_place_hwd1 : (.initialized "java/lang/IllegalArgumentException" : Cond) ∈ wsX5_place := by decide +kernel
theorem X5_place_hwd2 : (.fieldLink RX5 47 "SignatureSpans" "size" "I" : Cond) ∈ wsX5_place := by decide +kernel
theorem X5_place_hwd3 : (.fieldLink RX5 16 "SignatureSpans" "places" "LSignatureSpans$Places;" : Cond) ∈ wsX5_place := by decide +kernel
theorem X5_place_hwd4 : (.fieldLink RX5 74 "SignatureSpans$Places" "count" "I" : Cond) ∈ wsX5_place := by decide +kernel
theorem X5_place_hwd5 : (.classLink RX5 51 "java/lang/UnsupportedOperationException" : Cond) ∈ wsX5_place := by decide +kernel
theorem X5_place_hwd6 : (.initialized "java/lang/UnsupportedOperationException" : Cond) ∈ wsX5_place := by decide +kernel
theorem xX5_place_67 : ∀ w ∈ (vx_atS RX5 67 "java/lang/IllegalArgumentException" ["java/lang/RuntimeException", "java/lang/Exception"]).filter goodWord, w ∈ wsX5_place := by decide +kernel
theorem xX5_place_55 : ∀ w ∈ (vx_atS RX5 55 "java/lang/UnsupportedOperationException" ["java/lang/RuntimeException", "java/lang/Exception"]).filter goodWord, w ∈ wsX5_place := by decide +kernel
set_option maxHeartbeats 4000000 in
set_option maxRecDepth 100000 in
/-- place -/
theorem c_X5_place (l : Launch) (hl0 : l.stackTraces = false) (D : va_G) (h fa ap aa ac at9 ah sz cn : Nat) (sf : Int32) (pf pt pk pn : Nat) (bg sp : Nat → Nat) (x y : Int64) (hsz9 : sz ≤ 1500) (hpn : pn ≤ 8) (hbg : ∀ k, k < pn → bg k ≤ 1500) (hsp : ∀ k, k < pn → sp k ≤ 1500) : kX (S := Unit) l yX5_place wsX5_place ({ frames := 8, cells := 1, slots := 6, locals := 160 }) 1 6 D [.ref h, .long x, .long y] [(h, .inr (5, [.ref fa, .int (nI sz), .ref ap, .ref aa, .int (nI cn), .int sf, .ref ac, .ref at9, .ref ah])), (ap, .inr (1, [.ref pf, .ref pt, .ref pk, .int (nI pn)])), (pf, .inl (D.1 20, 8, .inl (fun j => nI (bg j)))), (pt, .inl (D.1 20, 8, .inl (fun j => nI (sp j))))] (kEx [kIae, kUoe] (kcPlace sz pn bg sp x y)) (fun _ => some (.int (nI pn))) (fun _ => [(h, .inr (5, [.ref fa, .int (nI sz), .ref ap, .ref aa, .int (nI cn), .int sf, .ref ac, .ref at9, .ref ah])), (ap, .inr (1, [.ref pf, .ref pt, .ref pk, .int (nI (pn + 1))])), (pf, .inl (D.1 20, 8, .inl (fun j => nI ((va_up bg pn (kL x)) j)))), (pt, .inl (D.1 20, 8, .inl (fun j => nI ((va_up sp pn (kL y)) j))))]) (fun _ => True) := by
  intro sz
  refine vx_ofW (cc := cX5_place) (maxL := 7) (ret := (some .int)) (by decide) rfl ?_
  intro p e s m args below meth c s₁ B hml hnoh hv
  obtain ⟨rfl, hsz, hP, hK, hD0, hE⟩ := hv
  have hx := B.exec
  have hb := B.bytes
  have hr := B.returns
  have hts := atoms_spec (ws := wsX5_place) B.pre
  have hown : s.vm.findClass RX5 = some m.cls := findClass_of_methodNamed B.named
  have hlocks := B.notSynchronized
  subst hsz
  have hD := hD0.self (sz := s.heap.size)
  generalize hAe : va_A [(h, .inr (5, [.ref fa, .int (nI sz), .ref ap, .ref aa, .int (nI cn), .int sf, .ref ac, .ref at9, .ref ah])), (ap, .inr (1, [.ref pf, .ref pt, .ref pk, .int (nI pn)])), (pf, .inl (D.1 20, 8, .inl (fun j => nI (bg j)))), (pt, .inl (D.1 20, 8, .inl (fun j => nI (sp j))))] s.heap.size = A at hD hE ⊢
  have hA : ∀ q : Nat, s.heap.size ≤ q → A q := fun q h => by rw [← hAe]; exact Or.inr h
  have hS : va_S A s.heap s.heap [] := va_S.rf
  have hl := lv_entry ([.ref h, .long x, .long y]) (n := 7) (Nat.le_of_ble_eq_true rfl)
  have inX1 : ∀ w ∈ wsX10, w ∈ wsX5_place := iX5_place_X1
  have inX5 : ∀ w ∈ wsX50, w ∈ wsX5_place := iX5_place_X5
  have hwd0 := hts (.classLink RX5 63 "java/lang/IllegalArgumentException") X5_place_hwd0
  have hwd1 := hts (.initialized "java/lang/IllegalArgumentException") X5_place_hwd1
  have hwd2 := hts (.fieldLink RX5 47 "SignatureSpans" "size" "I") X5_place_hwd2
  have hwd3 := hts (.fieldLink RX5 16 "SignatureSpans" "places" "LSignatureSpans$Places;") X5_place_hwd3
  have hwd4 := hts (.fieldLink RX5 74 "SignatureSpans$Places" "count" "I") X5_place_hwd4
  have hwd5 := hts (.classLink RX5 51 "java/lang/UnsupportedOperationException") X5_place_hwd5
  have hwd6 := hts (.initialized "java/lang/UnsupportedOperationException") X5_place_hwd6
  have xw_67 := xX5_place_67
  have xw_55 := xX5_place_55
  refine kgenQ (fun Q hQ => ?_)
  rw [lg_entry_eq]
  generalize (lg_sl ([.ref h, .long x, .long y]) ++ List.replicate (7 - (lg_sl ([.ref h, .long x, .long y])).length) Slot.unset).toArray = ls at hl ⊢
  have hl : lv_has ls 7 [(0, .ref h), (1, .long x), (3, .long y)] := hl
  refine lv_lload_n hx hb dX5_place_0 rfl (lv_at hl 1 rfl) ?_
  refine lv_lconst (v := lN 0) hx hb dX5_place_1 (by decide) ?_
  refine W.lcmp hx hb dX5_place_2 ?_
  refine lv_if_lt (tgt := 22) hx hb dX5_place_3 (by decide) (fun c_3 => ?_) (fun c_3 => ?_)
  · have c_3 := (lg_cmp_lt _ _).mp c_3
    rw [hQ]
    exact kx_throw (E := "java/lang/IllegalArgumentException") (names := ["java/lang/RuntimeException", "java/lang/Exception"]) (ik := 63) (is := 65) (ic := 67) hx hb hl0 hnoh hown hts hK hE hP hD hS hwd0 hwd1 (hE.2.2.2.1 (65, "no row of bytes in the file") (by decide +kernel)) xw_67 (by decide +kernel) (by decide +kernel) (by decide +kernel) (by decide +kernel) (by rw [hml]; exact hl.1) dX5_place_22 dX5_place_25 dX5_place_26 dX5_place_28 dX5_place_31 (Nat.le_of_ble_eq_true rfl) (Nat.le_of_ble_eq_true rfl) ⟨Nat.le_of_ble_eq_true rfl, Nat.le_of_ble_eq_true rfl⟩ ⟨Nat.le_of_ble_eq_true rfl, Nat.le_of_ble_eq_true rfl⟩ hlocks (by rw [show kcPlace sz pn bg sp x y = 1 from if_pos (Or.inl (Or.inl c_3))]; rfl)
  · have c_3 := fun h9 => c_3 ((lg_cmp_lt _ _).mpr h9)
    refine lv_lload_n hx hb dX5_place_6 rfl (lv_at hl 2 rfl) ?_
    refine lv_aload_n hx hb dX5_place_7 rfl (lv_at hl 0 rfl) ?_
    refine va_get (D := D) (ci := 5) (v := .int (nI sz)) (C := RX5) (T := TX5) (N := 9) hx hb hts inX5 hown hK hP 0 rfl rfl 1 (by decide) hwd2 (fun _ h9 => h9) rfl dX5_place_8 ?_
    refine lv_i2l (v := lN sz) hx hb dX5_place_11 (nI_l (by omega)) ?_
    refine W.lcmp hx hb dX5_place_12 ?_
    refine lv_if_gt (tgt := 22) hx hb dX5_place_13 (by decide) (fun c_13 => ?_) (fun c_13 => ?_)
    · have c_13 := (lg_cmp_gt _ _).mp c_13
      rw [hQ]
      exact kx_throw (E := "java/lang/IllegalArgumentException") (names := ["java/lang/RuntimeException", "java/lang/Exception"]) (ik := 63) (is := 65) (ic := 67) hx hb hl0 hnoh hown hts hK hE hP hD hS hwd0 hwd1 (hE.2.2.2.1 (65, "no row of bytes in the file") (by decide +kernel)) xw_67 (by decide +kernel) (by decide +kernel) (by decide +kernel) (by decide +kernel) (by rw [hml]; exact hl.1) dX5_place_22 dX5_place_25 dX5_place_26 dX5_place_28 dX5_place_31 (Nat.le_of_ble_eq_true rfl) (Nat.le_of_ble_eq_true rfl) ⟨Nat.le_of_ble_eq_true rfl, Nat.le_of_ble_eq_true rfl⟩ ⟨Nat.le_of_ble_eq_true rfl, Nat.le_of_ble_eq_true rfl⟩ hlocks (by rw [show kcPlace sz pn bg sp x y = 1 from if_pos (Or.inl (Or.inr (Or.inl c_13)))]; rfl)
    · have c_13 := fun h9 => c_13 ((lg_cmp_gt _ _).mpr h9)
      refine lv_lload_n hx hb dX5_place_16 rfl (lv_at hl 1 rfl) ?_
      refine lv_lload_n hx hb dX5_place_17 rfl (lv_at hl 2 rfl) ?_
      refine W.lcmp hx hb dX5_place_18 ?_
      refine lv_if_lt (tgt := 32) hx hb dX5_place_19 (by decide) (fun c_19 => ?_) (fun c_19 => ?_)
      · have c_19 := (lg_cmp_lt _ _).mp c_19
        obtain ⟨b, hb9, hyb⟩ := kNatLe (x := y) (n := sz) (by omega) (fun q => c_3 (Int64.lt_trans c_19 q)) c_13
        obtain ⟨a, ha9, hxa⟩ := kNatL (x := x) (n := b) (by omega) c_3 (by rw [← hyb]; exact c_19)
        have hax : kL x = a := by rw [hxa]; exact kL_lN (by omega)
        have hby : kL y = b := by rw [hyb]; exact kL_lN (by omega)
        refine lv_lload_n hx hb dX5_place_32 rfl (lv_at hl 1 rfl) ?_
        refine kt_l (v' := lN a) hxa ?_
        refine lv_l2i (v := nI a) hx hb dX5_place_33 (lN_i _) ?_
        refine lv_istore (lv' := [(5, .int (nI a)), (0, .ref h), (1, .long x), (3, .long y)]) hx hb dX5_place_34 hl (by decide) rfl (fun ls hl => ?_)
        refine lv_lload_n hx hb dX5_place_36 rfl (lv_at hl 3 rfl) ?_
        refine kt_l (v' := lN b) hyb ?_
        refine lv_l2i (v := nI b) hx hb dX5_place_37 (lN_i _) ?_
        refine lv_istore (lv' := [(6, .int (nI b)), (5, .int (nI a)), (0, .ref h), (1, .long x), (3, .long y)]) hx hb dX5_place_38 hl (by decide) rfl (fun ls hl => ?_)
        refine lv_aload_n hx hb dX5_place_40 rfl (lv_at hl 2 rfl) ?_
        refine va_get (D := D) (ci := 5) (v := .ref ap) (C := RX5) (T := TX5) (N := 9) hx hb hts inX5 hown hK hP 0 rfl rfl 2 (by decide) hwd3 (fun _ h9 => h9) rfl dX5_place_41 ?_
        refine lv_iload hx hb dX5_place_44 (lv_at hl 1 rfl) ?_
        refine lv_iload hx hb dX5_place_46 (lv_at hl 0 rfl) ?_
        refine kcV (C := RX1) (As := [.int (nI a), .int (nI b)]) (rest := []) (ws := [(ap, .inr (1, [.ref pf, .ref pt, .ref pk, .int (nI pn)])), (pf, .inl (D.1 20, 8, .inl (fun j => nI (bg j)))), (pt, .inl (D.1 20, 8, .inl (fun j => nI (sp j))))]) (wr := [(h, .inr (5, [.ref fa, .int (nI sz), .ref ap, .ref aa, .int (nI cn), .int sf, .ref ac, .ref at9, .ref ah]))]) ⟨hx, hb, hml, hown, hts⟩ (c_X1_shareByte l D ap pf pt pk pn a b bg sp (by omega) (by omega) (by omega) hbg hsp) (cwV 2 hts gX5_place_X1_shareByte rfl rfl rfl (by decide +kernel) ⟨Nat.le_of_ble_eq_true rfl, Nat.le_of_ble_eq_true rfl⟩) hK hE hP hD hS hA [1, 2, 3] [0] rfl rfl rfl rfl (by decide) 1 1 rfl rfl rfl rfl hl.1 rfl (Nat.le_of_ble_eq_true rfl) dX5_place_48 ⟨Nat.le_of_ble_eq_true rfl, Nat.le_of_ble_eq_true rfl⟩ (fun _ H locs hpo hP hD hS => ?_)
        have hP : va_P D kC [(h, .inr (5, [.ref fa, .int (nI sz), .ref ap, .ref aa, .int (nI cn), .int sf, .ref ac, .ref at9, .ref ah])), (ap, .inr (1, [.ref pf, .ref pt, .ref pk, .int (nI pn)])), (pf, .inl (D.1 20, 8, .inl (fun j => nI (bg j)))), (pt, .inl (D.1 20, 8, .inl (fun j => nI (sp j))))] _ := hP
        have hD : va_D A [(h, .inr (5, [.ref fa, .int (nI sz), .ref ap, .ref aa, .int (nI cn), .int sf, .ref ac, .ref at9, .ref ah])), (ap, .inr (1, [.ref pf, .ref pt, .ref pk, .int (nI pn)])), (pf, .inl (D.1 20, 8, .inl (fun j => nI (bg j)))), (pt, .inl (D.1 20, 8, .inl (fun j => nI (sp j))))] := hD
        refine W.eq (g2 := F0 m 51 ls [.int (kB (kAny (kSh bg sp (lN a) (lN b)) pn))]) rfl ?_
        refine W.widen (k := 0) (n := 0) (Nat.le_of_ble_eq_true rfl) (Nat.le_of_ble_eq_true rfl) ?_
        refine lv_if_eq (tgt := 64) hx hb dX5_place_51 (by decide) (fun c_51 => ?_) (fun c_51 => ?_)
        · have c_51 := kB_e0.mp c_51
          refine lv_aload_n hx hb dX5_place_64 rfl (lv_at hl 2 rfl) ?_
          refine va_get (D := D) (ci := 5) (v := .ref ap) (C := RX5) (T := TX5) (N := 9) hx hb hts inX5 hown hK hP 0 rfl rfl 2 (by decide) hwd3 (fun _ h9 => h9) rfl dX5_place_65 ?_
          refine va_get (D := D) (ci := 1) (v := .int (nI pn)) (C := RX1) (T := TX1) (N := 4) hx hb hts inX1 hown hK hP 1 rfl rfl 3 (by decide) hwd4 (fun _ h9 => h9) rfl dX5_place_68 ?_
          refine lv_bipush (v := nI 8) hx hb dX5_place_71 (by decide) ?_
          refine kn_icmp_lt (tgt := 86) hx hb (by omega) (by omega) dX5_place_73 (by decide) (fun c_73 => ?_) (fun c_73 => ?_)
          · refine lv_aload_n hx hb dX5_place_86 rfl (lv_at hl 2 rfl) ?_
            refine va_get (D := D) (ci := 5) (v := .ref ap) (C := RX5) (T := TX5) (N := 9) hx hb hts inX5 hown hK hP 0 rfl rfl 2 (by decide) hwd3 (fun _ h9 => h9) rfl dX5_place_87 ?_
            refine lv_iload hx hb dX5_place_90 (lv_at hl 1 rfl) ?_
            refine lv_iload hx hb dX5_place_92 (lv_at hl 0 rfl) ?_
            refine kcV (C := RX1) (As := [.int (nI a), .int (nI b)]) (rest := []) (ws := [(ap, .inr (1, [.ref pf, .ref pt, .ref pk, .int (nI pn)])), (pf, .inl (D.1 20, 8, .inl (fun j => nI (bg j)))), (pt, .inl (D.1 20, 8, .inl (fun j => nI (sp j))))]) (wr := [(h, .inr (5, [.ref fa, .int (nI sz), .ref ap, .ref aa, .int (nI cn), .int sf, .ref ac, .ref at9, .ref ah]))]) ⟨hx, hb, hml, hown, hts⟩ (c_X1_put l D ap pf pt pk pn a b bg sp (by omega)) (cwV 2 hts gX5_place_X1_put rfl rfl rfl (by decide +kernel) ⟨Nat.le_of_ble_eq_true rfl, Nat.le_of_ble_eq_true rfl⟩) hK hE hP hD hS hA [1, 2, 3] [0] rfl rfl rfl rfl (by decide) 1 1 rfl rfl rfl rfl hl.1 rfl (Nat.le_of_ble_eq_true rfl) dX5_place_94 ⟨Nat.le_of_ble_eq_true rfl, Nat.le_of_ble_eq_true rfl⟩ (fun _ H locs hpo hP hD hS => ?_)
            have hP : va_P D kC [(h, .inr (5, [.ref fa, .int (nI sz), .ref ap, .ref aa, .int (nI cn), .int sf, .ref ac, .ref at9, .ref ah])), (ap, .inr (1, [.ref pf, .ref pt, .ref pk, .int (nI (pn + 1))])), (pf, .inl (D.1 20, 8, .inl (fun j => nI ((va_up bg pn a) j)))), (pt, .inl (D.1 20, 8, .inl (fun j => nI ((va_up sp pn b) j))))] _ := hP
            have hD : va_D A [(h, .inr (5, [.ref fa, .int (nI sz), .ref ap, .ref aa, .int (nI cn), .int sf, .ref ac, .ref at9, .ref ah])), (ap, .inr (1, [.ref pf, .ref pt, .ref pk, .int (nI (pn + 1))])), (pf, .inl (D.1 20, 8, .inl (fun j => nI ((va_up bg pn a) j)))), (pt, .inl (D.1 20, 8, .inl (fun j => nI ((va_up sp pn b) j))))] := hD
            refine W.eq (g2 := F0 m 97 ls [.int (nI pn)]) rfl ?_
            refine W.widen (k := 0) (n := 0) (Nat.le_of_ble_eq_true rfl) (Nat.le_of_ble_eq_true rfl) ?_
            rw [hQ]
            refine vx_ret ?_
            refine W.widen (k := 1) (n := 6) (Nat.le_of_ble_eq_true rfl) (Nat.le_of_ble_eq_true rfl) ?_
            have hP9 : va_P D kC [(h, .inr (5, [.ref fa, .int (nI sz), .ref ap, .ref aa, .int (nI cn), .int sf, .ref ac, .ref at9, .ref ah])), (ap, .inr (1, [.ref pf, .ref pt, .ref pk, .int (nI (pn + 1))])), (pf, .inl (D.1 20, 8, .inl (fun j => nI ((va_up bg pn (kL x)) j)))), (pt, .inl (D.1 20, 8, .inl (fun j => nI ((va_up sp pn (kL y)) j))))] H := by rw [hax, hby]; exact hP
            have hD9 : va_D A [(h, .inr (5, [.ref fa, .int (nI sz), .ref ap, .ref aa, .int (nI cn), .int sf, .ref ac, .ref at9, .ref ah])), (ap, .inr (1, [.ref pf, .ref pt, .ref pk, .int (nI (pn + 1))])), (pf, .inl (D.1 20, 8, .inl (fun j => nI ((va_up bg pn (kL x)) j)))), (pt, .inl (D.1 20, 8, .inl (fun j => nI ((va_up sp pn (kL y)) j))))] := by rw [hax, hby]; exact hD
            exact W.iret (v := nI pn) hx hb hr (fun t ht hW => ⟨by rw [show kcPlace sz pn bg sp x y = 0 from (if_neg (fun q => q.elim (fun z => z.elim c_3 (fun z => z.elim c_13 (fun z => z c_19))) (fun z => by rw [hxa, hyb, c_51] at z; cases z))).trans (if_neg (by omega))]; rfl, ⟨⟨(), rfl, trivial, by rw [ht]; exact hP9, va_K.moved hW.alike hK, hD9⟩, hS.F ht⟩⟩) hS.2.2 dX5_place_97
          · rw [hQ]
            exact kx_throw (E := "java/lang/UnsupportedOperationException") (names := ["java/lang/RuntimeException", "java/lang/Exception"]) (ik := 51) (is := 77) (ic := 55) hx hb hl0 hnoh hown hts hK hE hP hD hS hwd5 hwd6 (hE.2.2.2.1 (77, "no room for a place") (by decide +kernel)) xw_55 (by decide +kernel) (by decide +kernel) (by decide +kernel) (by decide +kernel) (by rw [hml]; exact hl.1) dX5_place_76 dX5_place_79 dX5_place_80 dX5_place_82 dX5_place_85 (Nat.le_of_ble_eq_true rfl) (Nat.le_of_ble_eq_true rfl) ⟨Nat.le_of_ble_eq_true rfl, Nat.le_of_ble_eq_true rfl⟩ ⟨Nat.le_of_ble_eq_true rfl, Nat.le_of_ble_eq_true rfl⟩ hlocks (by rw [show kcPlace sz pn bg sp x y = 2 from (if_neg (fun q => q.elim (fun z => z.elim c_3 (fun z => z.elim c_13 (fun z => z c_19))) (fun z => by rw [hxa, hyb, c_51] at z; cases z))).trans (if_pos (by omega))]; rfl)
        · have c_51 := kB_n0.mp c_51
          rw [hQ]
          exact kx_throw (E := "java/lang/IllegalArgumentException") (names := ["java/lang/RuntimeException", "java/lang/Exception"]) (ik := 63) (is := 72) (ic := 67) hx hb hl0 hnoh hown hts hK hE hP hD hS hwd0 hwd1 (hE.2.2.2.1 (72, "another place has one of the bytes") (by decide +kernel)) xw_67 (by decide +kernel) (by decide +kernel) (by decide +kernel) (by decide +kernel) (by rw [hml]; exact hl.1) dX5_place_54 dX5_place_57 dX5_place_58 dX5_place_60 dX5_place_63 (Nat.le_of_ble_eq_true rfl) (Nat.le_of_ble_eq_true rfl) ⟨Nat.le_of_ble_eq_true rfl, Nat.le_of_ble_eq_true rfl⟩ ⟨Nat.le_of_ble_eq_true rfl, Nat.le_of_ble_eq_true rfl⟩ hlocks (by rw [show kcPlace sz pn bg sp x y = 1 from if_pos (Or.inr (by rw [hxa, hyb]; exact c_51))]; rfl)
      · have c_19 := fun h9 => c_19 ((lg_cmp_lt _ _).mpr h9)
        rw [hQ]
        exact kx_throw (E := "java/lang/IllegalArgumentException") (names := ["java/lang/RuntimeException", "java/lang/Exception"]) (ik := 63) (is := 65) (ic := 67) hx hb hl0 hnoh hown hts hK hE hP hD hS hwd0 hwd1 (hE.2.2.2.1 (65, "no row of bytes in the file") (by decide +kernel)) xw_67 (by decide +kernel) (by decide +kernel) (by decide +kernel) (by decide +kernel) (by rw [hml]; exact hl.1) dX5_place_22 dX5_place_25 dX5_place_26 dX5_place_28 dX5_place_31 (Nat.le_of_ble_eq_true rfl) (Nat.le_of_ble_eq_true rfl) ⟨Nat.le_of_ble_eq_true rfl, Nat.le_of_ble_eq_true rfl⟩ ⟨Nat.le_of_ble_eq_true rfl, Nat.le_of_ble_eq_true rfl⟩ hlocks (by rw [show kcPlace sz pn bg sp x y = 1 from if_pos (Or.inl (Or.inr (Or.inr c_19)))]; rfl)

theorem iX5_change_X0 : ∀ w ∈ wsX00, w ∈ wsX5_change := by decide +kernel
theorem iX5_change_X5 : ∀ w ∈ wsX50, w ∈ wsX5_change := by decide +kernel
theorem X5_change_hwd0 : (.classLink RX5 63 "java/lang/IllegalArgumentException" : Cond) ∈ wsX5_change := by decide +kernel
theorem X5_change_hwd1 : (.initialized "java/lang/IllegalArgumentException" : Cond) ∈ wsX5_change := by decide +kernel
theorem X5_change_hwd2 : (.fieldLink RX5 29 "SignatureSpans" "changes" "LSignatureSpans$Changes;" : Cond) ∈ wsX5_change := by decide +kernel
theorem X5_change_hwd3 : (.fieldLink RX5 107 "SignatureSpans$Changes" "count" "I" : Cond) ∈ wsX5_change := by decide +kernel
theorem X5_change_hwd4 : (.classLink RX5 51 "java/lang/UnsupportedOperationException" : Cond) ∈ wsX5_change := by decide +kernel
theorem X5_change_hwd5 : (.initialized "java/lang/UnsupportedOperationException" : Cond) ∈ wsX5_change := by decide +kernel
theorem xX5_change_67 : ∀ w ∈ (vx_atS RX5 67 "java/lang/IllegalArgumentException" ["java/lang/RuntimeException", "java/lang/Exception"]).filter goodWord, w ∈ wsX5_change := by decide +kernel
theorem xX5_change_55 : ∀ w ∈ (vx_atS RX5 55 "java/lang/UnsupportedOperationException" ["java/lang/RuntimeException", "java/lang/Exception"]).filter goodWord, w ∈ wsX5_change := by decide +kernel
set_option maxHeartbeats 4000000 in
set_option maxRecDepth 100000 in
/-- change -/
theorem c_X5_change (l : Launch) (hl0 : l.stackTraces = false) (D : va_G) (h fa ap aa ac at9 ah sz cn : Nat) (sf : Int32) (ck cg ch : Nat) (kd fd : Nat → Nat) (k f : Int32) (hch : ch ≤ 40) : kX (S := Unit) l yX5_change wsX5_change ({ frames := 8, cells := 1, slots := 6, locals := 160 }) 1 6 D [.ref h, .int k, .int f] [(h, .inr (5, [.ref fa, .int (nI sz), .ref ap, .ref aa, .int (nI cn), .int sf, .ref ac, .ref at9, .ref ah])), (ac, .inr (0, [.ref ck, .ref cg, .int (nI ch)])), (ck, .inl (D.1 20, 40, .inl (fun j => nI (kd j)))), (cg, .inl (D.1 20, 40, .inl (fun j => nI (fd j))))] (kEx [kIae, kUoe] (kcChange k f ch)) (fun _ => some (.int (nI (ch + 1)))) (fun _ => [(h, .inr (5, [.ref fa, .int (nI sz), .ref ap, .ref aa, .int (nI cn), .int sf, .ref ac, .ref at9, .ref ah])), (ac, .inr (0, [.ref ck, .ref cg, .int (nI (ch + 1))])), (ck, .inl (D.1 20, 40, .inl (fun j => nI ((va_up kd ch (kN k)) j)))), (cg, .inl (D.1 20, 40, .inl (fun j => nI ((va_up fd ch (kN f)) j))))]) (fun _ => True) := by
  intro sz
  refine vx_ofW (cc := cX5_change) (maxL := 3) (ret := (some .int)) (by decide) rfl ?_
  intro p e s m args below meth c s₁ B hml hnoh hv
  obtain ⟨rfl, hsz, hP, hK, hD0, hE⟩ := hv
  have hx := B.exec
  have hb := B.bytes
  have hr := B.returns
  have hts := atoms_spec (ws := wsX5_change) B.pre
  have hown : s.vm.findClass RX5 = some m.cls := findClass_of_methodNamed B.named
  have hlocks := B.notSynchronized
  subst hsz
  have hD := hD0.self (sz := s.heap.size)
  generalize hAe : va_A [(h, .inr (5, [.ref fa, .int (nI sz), .ref ap, .ref aa, .int (nI cn), .int sf, .ref ac, .ref at9, .ref ah])), (ac, .inr (0, [.ref ck, .ref cg, .int (nI ch)])), (ck, .inl (D.1 20, 40, .inl (fun j => nI (kd j)))), (cg, .inl (D.1 20, 40, .inl (fun j => nI (fd j))))] s.heap.size = A at hD hE ⊢
  have hA : ∀ q : Nat, s.heap.size ≤ q → A q := fun q h => by rw [← hAe]; exact Or.inr h
  have hS : va_S A s.heap s.heap [] := va_S.rf
  have hl := lv_entry ([.ref h, .int k, .int f]) (n := 3) (Nat.le_of_ble_eq_true rfl)
  have inX0 : ∀ w ∈ wsX00, w ∈ wsX5_change := iX5_change_X0
  have inX5 : ∀ w ∈ wsX50, w ∈ wsX5_change := iX5_change_X5
  have hwd0 := hts (.classLink RX5 63 "java/lang/IllegalArgumentException") X5_change_hwd0
  have hwd1 := hts (.initialized "java/lang/IllegalArgumentException") X5_change_hwd1
  have hwd2 := hts (.fieldLink RX5 29 "SignatureSpans" "changes" "LSignatureSpans$Changes;") X5_change_hwd2
  have hwd3 := hts (.fieldLink RX5 107 "SignatureSpans$Changes" "count" "I") X5_change_hwd3
  have hwd4 := hts (.classLink RX5 51 "java/lang/UnsupportedOperationException") X5_change_hwd4
  have hwd5 := hts (.initialized "java/lang/UnsupportedOperationException") X5_change_hwd5
  have xw_67 := xX5_change_67
  have xw_55 := xX5_change_55
  refine kgenQ (fun Q hQ => ?_)
  rw [lg_entry_eq]
  generalize (lg_sl ([.ref h, .int k, .int f]) ++ List.replicate (3 - (lg_sl ([.ref h, .int k, .int f])).length) Slot.unset).toArray = ls at hl ⊢
  have hl : lv_has ls 3 [(0, .ref h), (1, .int k), (2, .int f)] := hl
  refine lv_iload_n hx hb dX5_change_0 rfl (lv_at hl 1 rfl) ?_
  refine lv_if_lt (tgt := 16) hx hb dX5_change_1 (by decide) (fun c_1 => ?_) (fun c_1 => ?_)
  · rw [hQ]
    exact kx_throw (E := "java/lang/IllegalArgumentException") (names := ["java/lang/RuntimeException", "java/lang/Exception"]) (ik := 63) (is := 178) (ic := 67) hx hb hl0 hnoh hown hts hK hE hP hD hS hwd0 hwd1 (hE.2.2.2.1 (178, "no such kind or field") (by decide +kernel)) xw_67 (by decide +kernel) (by decide +kernel) (by decide +kernel) (by decide +kernel) (by rw [hml]; exact hl.1) dX5_change_16 dX5_change_19 dX5_change_20 dX5_change_22 dX5_change_25 (Nat.le_of_ble_eq_true rfl) (Nat.le_of_ble_eq_true rfl) ⟨Nat.le_of_ble_eq_true rfl, Nat.le_of_ble_eq_true rfl⟩ ⟨Nat.le_of_ble_eq_true rfl, Nat.le_of_ble_eq_true rfl⟩ hlocks (by rw [show kcChange k f ch = 1 from if_neg (fun q => (of_decide_eq_true q.1).1 c_1)]; rfl)
  · refine lv_iload_n hx hb dX5_change_4 rfl (lv_at hl 1 rfl) ?_
    refine lv_iconst (v := nI 4) hx hb dX5_change_5 (by decide) ?_
    refine lv_icmp_ge (tgt := 16) hx hb dX5_change_6 (by decide) (fun c_6 => ?_) (fun c_6 => ?_)
    · rw [hQ]
      exact kx_throw (E := "java/lang/IllegalArgumentException") (names := ["java/lang/RuntimeException", "java/lang/Exception"]) (ik := 63) (is := 178) (ic := 67) hx hb hl0 hnoh hown hts hK hE hP hD hS hwd0 hwd1 (hE.2.2.2.1 (178, "no such kind or field") (by decide +kernel)) xw_67 (by decide +kernel) (by decide +kernel) (by decide +kernel) (by decide +kernel) (by rw [hml]; exact hl.1) dX5_change_16 dX5_change_19 dX5_change_20 dX5_change_22 dX5_change_25 (Nat.le_of_ble_eq_true rfl) (Nat.le_of_ble_eq_true rfl) ⟨Nat.le_of_ble_eq_true rfl, Nat.le_of_ble_eq_true rfl⟩ ⟨Nat.le_of_ble_eq_true rfl, Nat.le_of_ble_eq_true rfl⟩ hlocks (by rw [show kcChange k f ch = 1 from if_neg (fun q => (of_decide_eq_true q.1).2 c_6)]; rfl)
    · refine lv_iload_n hx hb dX5_change_9 rfl (lv_at hl 2 rfl) ?_
      refine kcS (As := [.int f]) (rest := []) (ws := []) (wr := [(h, .inr (5, [.ref fa, .int (nI sz), .ref ap, .ref aa, .int (nI cn), .int sf, .ref ac, .ref at9, .ref ah])), (ac, .inr (0, [.ref ck, .ref cg, .int (nI ch)])), (ck, .inl (D.1 20, 40, .inl (fun j => nI (kd j)))), (cg, .inl (D.1 20, 40, .inl (fun j => nI (fd j))))]) ⟨hx, hb, hml, hown, hts⟩ (c_X5_isField l D f) (va_cwS 1 hts gX5_change_X5_isField rfl rfl rfl (by decide +kernel) ⟨Nat.le_of_ble_eq_true rfl, Nat.le_of_ble_eq_true rfl⟩) hK hE hP hD hS hA [] [0, 1, 2, 3] rfl rfl rfl rfl (by decide) rfl hl.1 rfl (Nat.le_of_ble_eq_true rfl) dX5_change_10 ⟨Nat.le_of_ble_eq_true rfl, Nat.le_of_ble_eq_true rfl⟩ (fun _ H locs hpo hP hD hS => ?_)
      have hP : va_P D kC [(h, .inr (5, [.ref fa, .int (nI sz), .ref ap, .ref aa, .int (nI cn), .int sf, .ref ac, .ref at9, .ref ah])), (ac, .inr (0, [.ref ck, .ref cg, .int (nI ch)])), (ck, .inl (D.1 20, 40, .inl (fun j => nI (kd j)))), (cg, .inl (D.1 20, 40, .inl (fun j => nI (fd j))))] _ := hP
      have hD : va_D A [(h, .inr (5, [.ref fa, .int (nI sz), .ref ap, .ref aa, .int (nI cn), .int sf, .ref ac, .ref at9, .ref ah])), (ac, .inr (0, [.ref ck, .ref cg, .int (nI ch)])), (ck, .inl (D.1 20, 40, .inl (fun j => nI (kd j)))), (cg, .inl (D.1 20, 40, .inl (fun j => nI (fd j))))] := hD
      refine W.eq (g2 := F0 m 13 ls [.int (kB (kIsF f))]) rfl ?_
      refine W.widen (k := 0) (n := 0) (Nat.le_of_ble_eq_true rfl) (Nat.le_of_ble_eq_true rfl) ?_
      refine lv_if_ne (tgt := 26) hx hb dX5_change_13 (by decide) (fun c_13 => ?_) (fun c_13 => ?_)
      · have c_13 := kB_n0.mp c_13
        obtain ⟨a, ha9, hka⟩ := kNat_lt (x := k) (n := 4) (by omega) c_1 c_6
        obtain ⟨b, hb9, hfb⟩ := kNat_lt (x := f) (n := 20) (by omega) (of_decide_eq_true c_13).1 (of_decide_eq_true c_13).2
        have hak : kN k = a := by rw [hka]; exact kN_nI (by omega)
        have hbf : kN f = b := by rw [hfb]; exact kN_nI (by omega)
        refine lv_aload_n hx hb dX5_change_26 rfl (lv_at hl 0 rfl) ?_
        refine va_get (D := D) (ci := 5) (v := .ref ac) (C := RX5) (T := TX5) (N := 9) hx hb hts inX5 hown hK hP 0 rfl rfl 6 (by decide) hwd2 (fun _ h9 => h9) rfl dX5_change_27 ?_
        refine va_get (D := D) (ci := 0) (v := .int (nI ch)) (C := RX0) (T := TX0) (N := 3) hx hb hts inX0 hown hK hP 1 rfl rfl 2 (by decide) hwd3 (fun _ h9 => h9) rfl dX5_change_30 ?_
        refine lv_bipush (v := nI 40) hx hb dX5_change_33 (by decide) ?_
        refine kn_icmp_lt (tgt := 48) hx hb (by omega) (by omega) dX5_change_35 (by decide) (fun c_35 => ?_) (fun c_35 => ?_)
        · refine lv_aload_n hx hb dX5_change_48 rfl (lv_at hl 0 rfl) ?_
          refine va_get (D := D) (ci := 5) (v := .ref ac) (C := RX5) (T := TX5) (N := 9) hx hb hts inX5 hown hK hP 0 rfl rfl 6 (by decide) hwd2 (fun _ h9 => h9) rfl dX5_change_49 ?_
          refine lv_iload_n hx hb dX5_change_52 rfl (lv_at hl 1 rfl) ?_
          refine kt_i (v' := nI a) hka ?_
          refine lv_iload_n hx hb dX5_change_53 rfl (lv_at hl 2 rfl) ?_
          refine kt_i (v' := nI b) hfb ?_
          refine kcV (C := RX0) (As := [.int (nI a), .int (nI b)]) (rest := []) (ws := [(ac, .inr (0, [.ref ck, .ref cg, .int (nI ch)])), (ck, .inl (D.1 20, 40, .inl (fun j => nI (kd j)))), (cg, .inl (D.1 20, 40, .inl (fun j => nI (fd j))))]) (wr := [(h, .inr (5, [.ref fa, .int (nI sz), .ref ap, .ref aa, .int (nI cn), .int sf, .ref ac, .ref at9, .ref ah]))]) ⟨hx, hb, hml, hown, hts⟩ (c_X0_put l D ac ck cg ch a b kd fd (by omega)) (cwV 2 hts gX5_change_X0_put rfl rfl rfl (by decide +kernel) ⟨Nat.le_of_ble_eq_true rfl, Nat.le_of_ble_eq_true rfl⟩) hK hE hP hD hS hA [1, 2, 3] [0] rfl rfl rfl rfl (by decide) 1 0 rfl rfl rfl rfl hl.1 rfl (Nat.le_of_ble_eq_true rfl) dX5_change_54 ⟨Nat.le_of_ble_eq_true rfl, Nat.le_of_ble_eq_true rfl⟩ (fun _ H locs hpo hP hD hS => ?_)
          have hP : va_P D kC [(h, .inr (5, [.ref fa, .int (nI sz), .ref ap, .ref aa, .int (nI cn), .int sf, .ref ac, .ref at9, .ref ah])), (ac, .inr (0, [.ref ck, .ref cg, .int (nI (ch + 1))])), (ck, .inl (D.1 20, 40, .inl (fun j => nI ((va_up kd ch a) j)))), (cg, .inl (D.1 20, 40, .inl (fun j => nI ((va_up fd ch b) j))))] _ := hP
          have hD : va_D A [(h, .inr (5, [.ref fa, .int (nI sz), .ref ap, .ref aa, .int (nI cn), .int sf, .ref ac, .ref at9, .ref ah])), (ac, .inr (0, [.ref ck, .ref cg, .int (nI (ch + 1))])), (ck, .inl (D.1 20, 40, .inl (fun j => nI ((va_up kd ch a) j)))), (cg, .inl (D.1 20, 40, .inl (fun j => nI ((va_up fd ch b) j))))] := hD
          refine W.eq (g2 := F0 m 57 ls [.int (nI (ch + 1))]) rfl ?_
          refine W.widen (k := 0) (n := 0) (Nat.le_of_ble_eq_true rfl) (Nat.le_of_ble_eq_true rfl) ?_
          rw [hQ]
          refine vx_ret ?_
          refine W.widen (k := 1) (n := 6) (Nat.le_of_ble_eq_true rfl) (Nat.le_of_ble_eq_true rfl) ?_
          have hP9 : va_P D kC [(h, .inr (5, [.ref fa, .int (nI sz), .ref ap, .ref aa, .int (nI cn), .int sf, .ref ac, .ref at9, .ref ah])), (ac, .inr (0, [.ref ck, .ref cg, .int (nI (ch + 1))])), (ck, .inl (D.1 20, 40, .inl (fun j => nI ((va_up kd ch (kN k)) j)))), (cg, .inl (D.1 20, 40, .inl (fun j => nI ((va_up fd ch (kN f)) j))))] H := by rw [hak, hbf]; exact hP
          have hD9 : va_D A [(h, .inr (5, [.ref fa, .int (nI sz), .ref ap, .ref aa, .int (nI cn), .int sf, .ref ac, .ref at9, .ref ah])), (ac, .inr (0, [.ref ck, .ref cg, .int (nI (ch + 1))])), (ck, .inl (D.1 20, 40, .inl (fun j => nI ((va_up kd ch (kN k)) j)))), (cg, .inl (D.1 20, 40, .inl (fun j => nI ((va_up fd ch (kN f)) j))))] := by rw [hak, hbf]; exact hD
          exact W.iret (v := nI (ch + 1)) hx hb hr (fun t ht hW => ⟨by rw [show kcChange k f ch = 0 from (if_pos ⟨decide_eq_true ⟨c_1, c_6⟩, c_13⟩).trans (if_neg (by omega))]; rfl, ⟨⟨(), rfl, trivial, by rw [ht]; exact hP9, va_K.moved hW.alike hK, hD9⟩, hS.F ht⟩⟩) hS.2.2 dX5_change_57
        · rw [hQ]
          exact kx_throw (E := "java/lang/UnsupportedOperationException") (names := ["java/lang/RuntimeException", "java/lang/Exception"]) (ik := 51) (is := 180) (ic := 55) hx hb hl0 hnoh hown hts hK hE hP hD hS hwd4 hwd5 (hE.2.2.2.1 (180, "no room for a change") (by decide +kernel)) xw_55 (by decide +kernel) (by decide +kernel) (by decide +kernel) (by decide +kernel) (by rw [hml]; exact hl.1) dX5_change_38 dX5_change_41 dX5_change_42 dX5_change_44 dX5_change_47 (Nat.le_of_ble_eq_true rfl) (Nat.le_of_ble_eq_true rfl) ⟨Nat.le_of_ble_eq_true rfl, Nat.le_of_ble_eq_true rfl⟩ ⟨Nat.le_of_ble_eq_true rfl, Nat.le_of_ble_eq_true rfl⟩ hlocks (by rw [show kcChange k f ch = 2 from (if_pos ⟨decide_eq_true ⟨c_1, c_6⟩, c_13⟩).trans (if_pos (by omega))]; rfl)
      · have c_13 := kB_e0.mp c_13
        rw [hQ]
        exact kx_throw (E := "java/lang/IllegalArgumentException") (names := ["java/lang/RuntimeException", "java/lang/Exception"]) (ik := 63) (is := 178) (ic := 67) hx hb hl0 hnoh hown hts hK hE hP hD hS hwd0 hwd1 (hE.2.2.2.1 (178, "no such kind or field") (by decide +kernel)) xw_67 (by decide +kernel) (by decide +kernel) (by decide +kernel) (by decide +kernel) (by rw [hml]; exact hl.1) dX5_change_16 dX5_change_19 dX5_change_20 dX5_change_22 dX5_change_25 (Nat.le_of_ble_eq_true rfl) (Nat.le_of_ble_eq_true rfl) ⟨Nat.le_of_ble_eq_true rfl, Nat.le_of_ble_eq_true rfl⟩ ⟨Nat.le_of_ble_eq_true rfl, Nat.le_of_ble_eq_true rfl⟩ hlocks (by rw [show kcChange k f ch = 1 from if_neg (fun q => by rw [c_13] at q; cases q.2)]; rfl)

theorem iX5_signatureAt_X5 : ∀ w ∈ wsX50, w ∈ wsX5_signatureAt := by decide +kernel
theorem X5_signatureAt_hwd0 : (.fieldLink RX5 104 "SignatureSpans" "signatureCount" "I" : Cond) ∈ wsX5_signatureAt := by decide +kernel
theorem X5_signatureAt_hwd1 : (.fieldLink RX5 22 "SignatureSpans" "signatures" "[LSignatureSpans$Signature;" : Cond) ∈ wsX5_signatureAt := by decide +kernel
set_option maxHeartbeats 4000000 in
set_option maxRecDepth 100000 in
/-- signatureAt: there is one -/
theorem c_X5_signatureAt (l : Launch) (D : va_G) (h fa ap aa ac at9 ah sz cn : Nat) (sf : Int32) (i hs : Nat) (sg : Nat → Option Nat) (hi : i < cn) (hcn : cn ≤ 8) (hsg : sg i = some hs) : kM (S := Unit) l yX5_signatureAt wsX5_signatureAt ({ frames := 7, cells := 0, slots := 0, locals := 100 }) 0 0 D [.ref h, .int (nI i)] [(h, .inr (5, [.ref fa, .int (nI sz), .ref ap, .ref aa, .int (nI cn), .int sf, .ref ac, .ref at9, .ref ah])), (aa, .inl (D.1 24, 8, .inr (.inr (.inr (.inr sg)))))] (fun _ => some (.ref hs)) (fun _ => [(h, .inr (5, [.ref fa, .int (nI sz), .ref ap, .ref aa, .int (nI cn), .int sf, .ref ac, .ref at9, .ref ah])), (aa, .inl (D.1 24, 8, .inr (.inr (.inr (.inr sg)))))]) (fun _ => True) := by
  intro sz
  refine Met.ofW (cc := cX5_signatureAt) (maxL := 3) (ret := (some (.object "SignatureSpans$Signature"))) (by decide) rfl ?_
  intro p e s m args below meth c s₁ B hml hv
  obtain ⟨rfl, hsz, hP, hK, hD0, hE⟩ := hv
  have hx := B.exec
  have hb := B.bytes
  have hr := B.returns
  have hts := atoms_spec (ws := wsX5_signatureAt) B.pre
  have hown : s.vm.findClass RX5 = some m.cls := findClass_of_methodNamed B.named
  have hlocks := B.notSynchronized
  subst hsz
  have hD := hD0.self (sz := s.heap.size)
  generalize hAe : va_A [(h, .inr (5, [.ref fa, .int (nI sz), .ref ap, .ref aa, .int (nI cn), .int sf, .ref ac, .ref at9, .ref ah])), (aa, .inl (D.1 24, 8, .inr (.inr (.inr (.inr sg)))))] s.heap.size = A at hD hE ⊢
  have hA : ∀ q : Nat, s.heap.size ≤ q → A q := fun q h => by rw [← hAe]; exact Or.inr h
  have hS : va_S A s.heap s.heap [] := va_S.rf
  have hl := lv_entry ([.ref h, .int (nI i)]) (n := 3) (Nat.le_of_ble_eq_true rfl)
  have inX5 : ∀ w ∈ wsX50, w ∈ wsX5_signatureAt := iX5_signatureAt_X5
  have hwd0 := hts (.fieldLink RX5 104 "SignatureSpans" "signatureCount" "I") X5_signatureAt_hwd0
  have hwd1 := hts (.fieldLink RX5 22 "SignatureSpans" "signatures" "[LSignatureSpans$Signature;") X5_signatureAt_hwd1
  refine kgenQ (fun Q hQ => ?_)
  rw [lg_entry_eq]
  generalize (lg_sl ([.ref h, .int (nI i)]) ++ List.replicate (3 - (lg_sl ([.ref h, .int (nI i)])).length) Slot.unset).toArray = ls at hl ⊢
  have hl : lv_has ls 3 [(0, .ref h), (1, .int (nI i))] := hl
  refine lv_iload_n hx hb dX5_signatureAt_0 rfl (lv_at hl 1 rfl) ?_
  refine kn_if_lt (tgt := 21) hx hb (by omega) dX5_signatureAt_1 (by decide) ?_
  refine lv_iload_n hx hb dX5_signatureAt_4 rfl (lv_at hl 1 rfl) ?_
  refine lv_aload_n hx hb dX5_signatureAt_5 rfl (lv_at hl 0 rfl) ?_
  refine va_get (D := D) (ci := 5) (v := .int (nI cn)) (C := RX5) (T := TX5) (N := 9) hx hb hts inX5 hown hK hP 0 rfl rfl 4 (by decide) hwd0 (fun _ h9 => h9) rfl dX5_signatureAt_6 ?_
  refine kn_icmp_ge (tgt := 21) hx hb (by omega) (by omega) dX5_signatureAt_9 (by decide) (fun c_9 => absurd c_9 (by omega)) (fun c_9 => ?_)
  refine lv_aload_n hx hb dX5_signatureAt_12 rfl (lv_at hl 0 rfl) ?_
  refine va_get (D := D) (ci := 5) (v := .ref aa) (C := RX5) (T := TX5) (N := 9) hx hb hts inX5 hown hK hP 0 rfl rfl 3 (by decide) hwd1 (fun _ h9 => h9) rfl dX5_signatureAt_13 ?_
  refine lv_iload_n hx hb dX5_signatureAt_16 rfl (lv_at hl 1 rfl) ?_
  refine kn_aald hx hb hK hP 1 4 rfl rfl (i := i) (by omega) (by decide) dX5_signatureAt_17 ?_
  refine kt_v (v' := .ref hs) (by rw [hsg]; rfl) ?_
  refine lv_goto (tgt := 22) hx hb dX5_signatureAt_18 (by decide) ?_
  refine lv_astore_n (lv' := [(2, .ref hs), (0, .ref h), (1, .int (nI i))]) hx hb dX5_signatureAt_22 rfl hl (by decide) rfl (fun ls hl => ?_)
  refine lv_aload_n hx hb dX5_signatureAt_23 rfl (lv_at hl 0 rfl) ?_
  refine lv_ifnonnull (tgt := 37) hx hb dX5_signatureAt_24 (by decide) ?_
  refine lv_aload_n hx hb dX5_signatureAt_37 rfl (lv_at hl 0 rfl) ?_
  rw [hQ]
  have hP9 : va_P D kC [(h, .inr (5, [.ref fa, .int (nI sz), .ref ap, .ref aa, .int (nI cn), .int sf, .ref ac, .ref at9, .ref ah])), (aa, .inl (D.1 24, 8, .inr (.inr (.inr (.inr sg)))))] _ := hP
  have hD9 : va_D A [(h, .inr (5, [.ref fa, .int (nI sz), .ref ap, .ref aa, .int (nI cn), .int sf, .ref ac, .ref at9, .ref ah])), (aa, .inl (D.1 24, 8, .inr (.inr (.inr (.inr sg)))))] := hD
  exact W.aret (v := .ref hs) hx hb hr (Or.inl ⟨_, rfl⟩) (Or.inr ⟨_, rfl⟩) (fun t ht hW => ⟨⟨(), rfl, trivial, by rw [ht]; exact hP9, va_K.moved hW.alike hK, hD9⟩, hS.F ht⟩) hS.2.2 dX5_signatureAt_38

theorem iX5_signatureAtno_X5 : ∀ w ∈ wsX50, w ∈ wsX5_signatureAt := by decide +kernel
theorem X5_signatureAtno_hwd0 : (.classLink RX5 243 "java/util/NoSuchElementException" : Cond) ∈ wsX5_signatureAt := by decide +kernel
theorem X5_signatureAtno_hwd1 : (.initialized "java/util/NoSuchElementException" : Cond) ∈ wsX5_signatureAt := by decide +kernel
theorem X5_signatureAtno_hwd2 : (.fieldLink RX5 104 "SignatureSpans" "signatureCount" "I" : Cond) ∈ wsX5_signatureAt := by decide +kernel
theorem xX5_signatureAtno_247 : ∀ w ∈ (vx_atS RX5 247 "java/util/NoSuchElementException" ["java/lang/RuntimeException", "java/lang/Exception"]).filter goodWord, w ∈ wsX5_signatureAt := by decide +kernel
set_option maxHeartbeats 4000000 in
set_option maxRecDepth 100000 in
/-- signatureAt: there is none -/
theorem c_X5_signatureAt_no (l : Launch) (hl0 : l.stackTraces = false) (D : va_G) (h fa ap aa ac at9 ah sz cn : Nat) (sf : Int32) (x : Int32) (hno : x < 0 ∨ nI cn ≤ x) : kX (S := Unit) l yX5_signatureAt wsX5_signatureAt ({ frames := 7, cells := 1, slots := 6, locals := 100 }) 1 6 D [.ref h, .int x] [(h, .inr (5, [.ref fa, .int (nI sz), .ref ap, .ref aa, .int (nI cn), .int sf, .ref ac, .ref at9, .ref ah]))] (some kNse) (fun _ => none) (fun _ => [(h, .inr (5, [.ref fa, .int (nI sz), .ref ap, .ref aa, .int (nI cn), .int sf, .ref ac, .ref at9, .ref ah]))]) (fun _ => True) := by
  intro sz
  refine vx_ofW (cc := cX5_signatureAt) (maxL := 3) (ret := (some (.object "SignatureSpans$Signature"))) (by decide) rfl ?_
  intro p e s m args below meth c s₁ B hml hnoh hv
  obtain ⟨rfl, hsz, hP, hK, hD0, hE⟩ := hv
  have hx := B.exec
  have hb := B.bytes
  have hr := B.returns
  have hts := atoms_spec (ws := wsX5_signatureAt) B.pre
  have hown : s.vm.findClass RX5 = some m.cls := findClass_of_methodNamed B.named
  have hlocks := B.notSynchronized
  subst hsz
  have hD := hD0.self (sz := s.heap.size)
  generalize hAe : va_A [(h, .inr (5, [.ref fa, .int (nI sz), .ref ap, .ref aa, .int (nI cn), .int sf, .ref ac, .ref at9, .ref ah]))] s.heap.size = A at hD hE ⊢
  have hA : ∀ q : Nat, s.heap.size ≤ q → A q := fun q h => by rw [← hAe]; exact Or.inr h
  have hS : va_S A s.heap s.heap [] := va_S.rf
  have hl := lv_entry ([.ref h, .int x]) (n := 3) (Nat.le_of_ble_eq_true rfl)
  have inX5 : ∀ w ∈ wsX50, w ∈ wsX5_signatureAt := iX5_signatureAtno_X5
  have hwd0 := hts (.classLink RX5 243 "java/util/NoSuchElementException") X5_signatureAtno_hwd0
  have hwd1 := hts (.initialized "java/util/NoSuchElementException") X5_signatureAtno_hwd1
  have hwd2 := hts (.fieldLink RX5 104 "SignatureSpans" "signatureCount" "I") X5_signatureAtno_hwd2
  have xw_247 := xX5_signatureAtno_247
  refine kgenQ (fun Q hQ => ?_)
  rw [lg_entry_eq]
  generalize (lg_sl ([.ref h, .int x]) ++ List.replicate (3 - (lg_sl ([.ref h, .int x])).length) Slot.unset).toArray = ls at hl ⊢
  have hl : lv_has ls 3 [(0, .ref h), (1, .int x)] := hl
  refine lv_iload_n hx hb dX5_signatureAt_0 rfl (lv_at hl 1 rfl) ?_
  refine lv_if_lt (tgt := 21) hx hb dX5_signatureAt_1 (by decide) (fun c_1 => ?_) (fun c_1 => ?_)
  · refine lv_null hx hb dX5_signatureAt_21 ?_
    refine lv_astore_nN (lv' := [(2, .null), (0, .ref h), (1, .int x)]) hx hb dX5_signatureAt_22 rfl hl (by decide) rfl (fun ls hl => ?_)
    refine lv_aload_nN hx hb dX5_signatureAt_23 rfl (lv_at hl 0 rfl) ?_
    refine lv_ifnonnullN hx hb dX5_signatureAt_24 ?_
    rw [hQ]
    exact kx_throw (E := "java/util/NoSuchElementException") (names := ["java/lang/RuntimeException", "java/lang/Exception"]) (ik := 243) (is := 245) (ic := 247) hx hb hl0 hnoh hown hts hK hE hP hD hS hwd0 hwd1 (hE.2.2.2.1 (245, "no such signature") (by decide +kernel)) xw_247 (by decide +kernel) (by decide +kernel) (by decide +kernel) (by decide +kernel) (by rw [hml]; exact hl.1) dX5_signatureAt_27 dX5_signatureAt_30 dX5_signatureAt_31 dX5_signatureAt_33 dX5_signatureAt_36 (Nat.le_of_ble_eq_true rfl) (Nat.le_of_ble_eq_true rfl) ⟨Nat.le_of_ble_eq_true rfl, Nat.le_of_ble_eq_true rfl⟩ ⟨Nat.le_of_ble_eq_true rfl, Nat.le_of_ble_eq_true rfl⟩ hlocks (rfl)
  · refine lv_iload_n hx hb dX5_signatureAt_4 rfl (lv_at hl 1 rfl) ?_
    refine lv_aload_n hx hb dX5_signatureAt_5 rfl (lv_at hl 0 rfl) ?_
    refine va_get (D := D) (ci := 5) (v := .int (nI cn)) (C := RX5) (T := TX5) (N := 9) hx hb hts inX5 hown hK hP 0 rfl rfl 4 (by decide) hwd2 (fun _ h9 => h9) rfl dX5_signatureAt_6 ?_
    refine lv_icmp_ge (tgt := 21) hx hb dX5_signatureAt_9 (by decide) (fun c_9 => ?_) (fun c_9 => ?_)
    · refine lv_null hx hb dX5_signatureAt_21 ?_
      refine lv_astore_nN (lv' := [(2, .null), (0, .ref h), (1, .int x)]) hx hb dX5_signatureAt_22 rfl hl (by decide) rfl (fun ls hl => ?_)
      refine lv_aload_nN hx hb dX5_signatureAt_23 rfl (lv_at hl 0 rfl) ?_
      refine lv_ifnonnullN hx hb dX5_signatureAt_24 ?_
      rw [hQ]
      exact kx_throw (E := "java/util/NoSuchElementException") (names := ["java/lang/RuntimeException", "java/lang/Exception"]) (ik := 243) (is := 245) (ic := 247) hx hb hl0 hnoh hown hts hK hE hP hD hS hwd0 hwd1 (hE.2.2.2.1 (245, "no such signature") (by decide +kernel)) xw_247 (by decide +kernel) (by decide +kernel) (by decide +kernel) (by decide +kernel) (by rw [hml]; exact hl.1) dX5_signatureAt_27 dX5_signatureAt_30 dX5_signatureAt_31 dX5_signatureAt_33 dX5_signatureAt_36 (Nat.le_of_ble_eq_true rfl) (Nat.le_of_ble_eq_true rfl) ⟨Nat.le_of_ble_eq_true rfl, Nat.le_of_ble_eq_true rfl⟩ ⟨Nat.le_of_ble_eq_true rfl, Nat.le_of_ble_eq_true rfl⟩ hlocks (rfl)
    · exact absurd hno (fun q => q.elim c_1 c_9)
