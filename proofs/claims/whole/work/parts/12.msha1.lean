theorem iX6_byteOf_X6 : ∀ w ∈ wsX60, w ∈ wsX6_byteOf := by decide +kernel
theorem X6_byteOf_hwd0 : (.fieldLink RX6 77 "SignatureSpansModel" "file" "[B" : Cond) ∈ wsX6_byteOf := by decide +kernel
set_option maxHeartbeats 4000000 in
set_option maxRecDepth 100000 in
/-- byteOf -/
theorem c_X6_byteOf (l : Launch) (D : va_G) (h : Nat) (r : Nat → Nat) (i a b z : Nat) (z1 z3 z4 z8 z22 z25 : Int32) (fl : Nat → Int32) (hab : a ≤ b) (hbz : b ≤ z) (hz : z ≤ 1500) (hi : i < (a + z - b + 72) / 64 * 64) : kM (S := Unit) l yX6_byteOf wsX6_byteOf ({ frames := 7, cells := 0, slots := 0, locals := 100 }) 0 0 D [.ref h, .int (nI i), .int (nI a), .int (nI b), .int (nI z)] [(h, .inr (6, [.ref (r 0), .int z1, .ref (r 2), .int z3, .int z4, .ref (r 5), .ref (r 6), .ref (r 7), .int z8, .ref (r 9), .ref (r 10), .ref (r 11), .ref (r 12), .ref (r 13), .ref (r 14), .ref (r 15), .ref (r 16), .ref (r 17), .ref (r 18), .ref (r 19), .ref (r 20), .ref (r 21), .int z22, .ref (r 23), .ref (r 24), .int z25, .ref (r 26), .ref (r 27), .ref (r 28), .ref (r 29), .ref (r 30), .ref (r 31)])), ((r 2), .inl (D.1 21, 1500, .inl fl))] (fun _ => some (.int (kPad (kMb fl a b) (a + z - b) i))) (fun _ => [(h, .inr (6, [.ref (r 0), .int z1, .ref (r 2), .int z3, .int z4, .ref (r 5), .ref (r 6), .ref (r 7), .int z8, .ref (r 9), .ref (r 10), .ref (r 11), .ref (r 12), .ref (r 13), .ref (r 14), .ref (r 15), .ref (r 16), .ref (r 17), .ref (r 18), .ref (r 19), .ref (r 20), .ref (r 21), .int z22, .ref (r 23), .ref (r 24), .int z25, .ref (r 26), .ref (r 27), .ref (r 28), .ref (r 29), .ref (r 30), .ref (r 31)])), ((r 2), .inl (D.1 21, 1500, .inl fl))]) (fun _ => True) := by
  intro sz
  refine Met.ofW (cc := cX6_byteOf) (maxL := 8) (ret := (some .int)) (by decide) rfl ?_
  intro p e s m args below meth c s₁ B hml hv
  obtain ⟨rfl, hsz, hP, hK, hD0, hE⟩ := hv
  have hx := B.exec
  have hb := B.bytes
  have hr := B.returns
  have hts := atoms_spec (ws := wsX6_byteOf) B.pre
  have hown : s.vm.findClass RX6 = some m.cls := findClass_of_methodNamed B.named
  have hlocks := B.notSynchronized
  subst hsz
  have hD := hD0.self (sz := s.heap.size)
  generalize hAe : va_A [(h, .inr (6, [.ref (r 0), .int z1, .ref (r 2), .int z3, .int z4, .ref (r 5), .ref (r 6), .ref (r 7), .int z8, .ref (r 9), .ref (r 10), .ref (r 11), .ref (r 12), .ref (r 13), .ref (r 14), .ref (r 15), .ref (r 16), .ref (r 17), .ref (r 18), .ref (r 19), .ref (r 20), .ref (r 21), .int z22, .ref (r 23), .ref (r 24), .int z25, .ref (r 26), .ref (r 27), .ref (r 28), .ref (r 29), .ref (r 30), .ref (r 31)])), ((r 2), .inl (D.1 21, 1500, .inl fl))] s.heap.size = A at hD hE ⊢
  have hA : ∀ q : Nat, s.heap.size ≤ q → A q := fun q h => by rw [← hAe]; exact Or.inr h
  have hS : va_S A s.heap s.heap [] := va_S.rf
  have hl := lv_entry ([.ref h, .int (nI i), .int (nI a), .int (nI b), .int (nI z)]) (n := 8) (Nat.le_of_ble_eq_true rfl)
  have inX6 : ∀ w ∈ wsX60, w ∈ wsX6_byteOf := iX6_byteOf_X6
  have hwd0 := hts (.fieldLink RX6 77 "SignatureSpansModel" "file" "[B") X6_byteOf_hwd0
  refine kgenQ (fun Q hQ => ?_)
  rw [lg_entry_eq]
  generalize (lg_sl ([.ref h, .int (nI i), .int (nI a), .int (nI b), .int (nI z)]) ++ List.replicate (8 - (lg_sl ([.ref h, .int (nI i), .int (nI a), .int (nI b), .int (nI z)])).length) Slot.unset).toArray = ls at hl ⊢
  have hl : lv_has ls 8 [(0, .ref h), (1, .int (nI i)), (2, .int (nI a)), (3, .int (nI b)), (4, .int (nI z))] := hl
  refine lv_iload_n hx hb dX6_byteOf_0 rfl (lv_at hl 2 rfl) ?_
  refine lv_iload hx hb dX6_byteOf_1 (lv_at hl 4 rfl) ?_
  refine kn_iadd hx hb dX6_byteOf_3 ?_
  refine lv_iload_n hx hb dX6_byteOf_4 rfl (lv_at hl 3 rfl) ?_
  refine kn_isub hx hb (by omega) dX6_byteOf_5 ?_
  refine lv_istore (lv' := [(5, .int (nI (a + z - b))), (0, .ref h), (1, .int (nI i)), (2, .int (nI a)), (3, .int (nI b)), (4, .int (nI z))]) hx hb dX6_byteOf_6 hl (by decide) rfl (fun ls hl => ?_)
  refine lv_iload_n hx hb dX6_byteOf_8 rfl (lv_at hl 2 rfl) ?_
  refine lv_iload hx hb dX6_byteOf_9 (lv_at hl 0 rfl) ?_
  refine kn_icmp_ge (tgt := 38) hx hb (by omega) (by omega) dX6_byteOf_11 (by decide) (fun c_11 => ?_) (fun c_11 => ?_)
  · refine lv_iload hx hb dX6_byteOf_38 (lv_at hl 0 rfl) ?_
    refine lv_bipush (v := nI 72) hx hb dX6_byteOf_40 (by decide) ?_
    refine kn_iadd hx hb dX6_byteOf_42 ?_
    refine lv_bipush (v := nI 64) hx hb dX6_byteOf_43 (by decide) ?_
    refine kn_idiv hx hb (by omega) (by omega) (by omega) dX6_byteOf_45 ?_
    refine lv_istore (lv' := [(6, .int (nI ((a + z - b + 72) / 64))), (5, .int (nI (a + z - b))), (0, .ref h), (1, .int (nI i)), (2, .int (nI a)), (3, .int (nI b)), (4, .int (nI z))]) hx hb dX6_byteOf_46 hl (by decide) rfl (fun ls hl => ?_)
    refine lv_bipush (v := nI 64) hx hb dX6_byteOf_48 (by decide) ?_
    refine lv_iload hx hb dX6_byteOf_50 (lv_at hl 0 rfl) ?_
    refine kn_imul hx hb dX6_byteOf_52 ?_
    refine lv_iconst (v := nI 1) hx hb dX6_byteOf_53 (by decide) ?_
    refine kn_isub hx hb (by omega) dX6_byteOf_54 ?_
    refine lv_iload_n hx hb dX6_byteOf_55 rfl (lv_at hl 3 rfl) ?_
    refine kn_isub hx hb (by omega) dX6_byteOf_56 ?_
    refine lv_istore (lv' := [(7, .int (nI (64 * ((a + z - b + 72) / 64) - 1 - i))), (6, .int (nI ((a + z - b + 72) / 64))), (5, .int (nI (a + z - b))), (0, .ref h), (1, .int (nI i)), (2, .int (nI a)), (3, .int (nI b)), (4, .int (nI z))]) hx hb dX6_byteOf_57 hl (by decide) rfl (fun ls hl => ?_)
    refine lv_iload_n hx hb dX6_byteOf_59 rfl (lv_at hl 4 rfl) ?_
    refine lv_iload hx hb dX6_byteOf_60 (lv_at hl 2 rfl) ?_
    refine kn_icmp_ne (tgt := 71) hx hb (by omega) (by omega) dX6_byteOf_62 (by decide) (fun c_62 => ?_) (fun c_62 => ?_)
    · refine lv_iload hx hb dX6_byteOf_71 (lv_at hl 0 rfl) ?_
      refine lv_iconst (v := nI 4) hx hb dX6_byteOf_73 (by decide) ?_
      refine kn_icmp_ge (tgt := 95) hx hb (by omega) (by omega) dX6_byteOf_74 (by decide) (fun c_74 => ?_) (fun c_74 => ?_)
      · refine lv_iconst (v := nI 0) hx hb dX6_byteOf_95 (by decide) ?_
        have e96 : nI 0 = kPad (kMb fl a b) (a + z - b) i := by unfold kPad; rw [if_neg (by omega)]; rw [if_neg c_62, if_neg (by omega)]; rfl
        rw [hQ]
        have hP9 : va_P D kC [(h, .inr (6, [.ref (r 0), .int z1, .ref (r 2), .int z3, .int z4, .ref (r 5), .ref (r 6), .ref (r 7), .int z8, .ref (r 9), .ref (r 10), .ref (r 11), .ref (r 12), .ref (r 13), .ref (r 14), .ref (r 15), .ref (r 16), .ref (r 17), .ref (r 18), .ref (r 19), .ref (r 20), .ref (r 21), .int z22, .ref (r 23), .ref (r 24), .int z25, .ref (r 26), .ref (r 27), .ref (r 28), .ref (r 29), .ref (r 30), .ref (r 31)])), ((r 2), .inl (D.1 21, 1500, .inl fl))] _ := hP
        have hD9 : va_D A [(h, .inr (6, [.ref (r 0), .int z1, .ref (r 2), .int z3, .int z4, .ref (r 5), .ref (r 6), .ref (r 7), .int z8, .ref (r 9), .ref (r 10), .ref (r 11), .ref (r 12), .ref (r 13), .ref (r 14), .ref (r 15), .ref (r 16), .ref (r 17), .ref (r 18), .ref (r 19), .ref (r 20), .ref (r 21), .int z22, .ref (r 23), .ref (r 24), .int z25, .ref (r 26), .ref (r 27), .ref (r 28), .ref (r 29), .ref (r 30), .ref (r 31)])), ((r 2), .inl (D.1 21, 1500, .inl fl))] := hD
        exact W.iret (v := nI 0) hx hb hr (fun tq ht hW => ⟨⟨(), congrArg (fun z => Outcome.returned (some (Value.int z))) e96, trivial, by rw [ht]; exact hP9, va_K.moved hW.alike hK, hD9⟩, hS.F ht⟩) hS.2.2 dX6_byteOf_96
      · refine lv_bipush (v := nI 8) hx hb dX6_byteOf_77 (by decide) ?_
        refine lv_iload hx hb dX6_byteOf_79 (lv_at hl 2 rfl) ?_
        refine kn_imul hx hb dX6_byteOf_81 ?_
        refine lv_bipush (v := nI 8) hx hb dX6_byteOf_82 (by decide) ?_
        refine lv_iload hx hb dX6_byteOf_84 (lv_at hl 0 rfl) ?_
        refine kn_imul hx hb dX6_byteOf_86 ?_
        refine lv_ishr hx hb dX6_byteOf_87 ?_
        refine lv_sipush (v := nI 255) hx hb dX6_byteOf_88 (by decide) ?_
        refine lv_iand hx hb dX6_byteOf_91 ?_
        refine lv_goto (tgt := 96) hx hb dX6_byteOf_92 (by decide) ?_
        have e96 : ((nI (8 * (a + z - b))) >>> ((nI (8 * (64 * ((a + z - b + 72) / 64) - 1 - i))) &&& 31)) &&& (nI 255) = kPad (kMb fl a b) (a + z - b) i := by unfold kPad; rw [if_neg (by omega)]; rw [if_neg c_62, if_pos (by omega), k_shr8 (by omega) c_74, show 8 * (a + z - b) = (a + z - b) * 8 by omega, show 64 * ((a + z - b + 72) / 64) - 1 - i = (a + z - b + 72) / 64 * 64 - 1 - i by omega]
        rw [hQ]
        have hP9 : va_P D kC [(h, .inr (6, [.ref (r 0), .int z1, .ref (r 2), .int z3, .int z4, .ref (r 5), .ref (r 6), .ref (r 7), .int z8, .ref (r 9), .ref (r 10), .ref (r 11), .ref (r 12), .ref (r 13), .ref (r 14), .ref (r 15), .ref (r 16), .ref (r 17), .ref (r 18), .ref (r 19), .ref (r 20), .ref (r 21), .int z22, .ref (r 23), .ref (r 24), .int z25, .ref (r 26), .ref (r 27), .ref (r 28), .ref (r 29), .ref (r 30), .ref (r 31)])), ((r 2), .inl (D.1 21, 1500, .inl fl))] _ := hP
        have hD9 : va_D A [(h, .inr (6, [.ref (r 0), .int z1, .ref (r 2), .int z3, .int z4, .ref (r 5), .ref (r 6), .ref (r 7), .int z8, .ref (r 9), .ref (r 10), .ref (r 11), .ref (r 12), .ref (r 13), .ref (r 14), .ref (r 15), .ref (r 16), .ref (r 17), .ref (r 18), .ref (r 19), .ref (r 20), .ref (r 21), .int z22, .ref (r 23), .ref (r 24), .int z25, .ref (r 26), .ref (r 27), .ref (r 28), .ref (r 29), .ref (r 30), .ref (r 31)])), ((r 2), .inl (D.1 21, 1500, .inl fl))] := hD
        exact W.iret (v := ((nI (8 * (a + z - b))) >>> ((nI (8 * (64 * ((a + z - b + 72) / 64) - 1 - i))) &&& 31)) &&& (nI 255)) hx hb hr (fun tq ht hW => ⟨⟨(), congrArg (fun z => Outcome.returned (some (Value.int z))) e96, trivial, by rw [ht]; exact hP9, va_K.moved hW.alike hK, hD9⟩, hS.F ht⟩) hS.2.2 dX6_byteOf_96
    · refine lv_sipush (v := nI 128) hx hb dX6_byteOf_65 (by decide) ?_
      refine lv_goto (tgt := 96) hx hb dX6_byteOf_68 (by decide) ?_
      have e96 : nI 128 = kPad (kMb fl a b) (a + z - b) i := by unfold kPad; rw [if_neg (by omega)]; rw [if_pos c_62]; rfl
      rw [hQ]
      have hP9 : va_P D kC [(h, .inr (6, [.ref (r 0), .int z1, .ref (r 2), .int z3, .int z4, .ref (r 5), .ref (r 6), .ref (r 7), .int z8, .ref (r 9), .ref (r 10), .ref (r 11), .ref (r 12), .ref (r 13), .ref (r 14), .ref (r 15), .ref (r 16), .ref (r 17), .ref (r 18), .ref (r 19), .ref (r 20), .ref (r 21), .int z22, .ref (r 23), .ref (r 24), .int z25, .ref (r 26), .ref (r 27), .ref (r 28), .ref (r 29), .ref (r 30), .ref (r 31)])), ((r 2), .inl (D.1 21, 1500, .inl fl))] _ := hP
      have hD9 : va_D A [(h, .inr (6, [.ref (r 0), .int z1, .ref (r 2), .int z3, .int z4, .ref (r 5), .ref (r 6), .ref (r 7), .int z8, .ref (r 9), .ref (r 10), .ref (r 11), .ref (r 12), .ref (r 13), .ref (r 14), .ref (r 15), .ref (r 16), .ref (r 17), .ref (r 18), .ref (r 19), .ref (r 20), .ref (r 21), .int z22, .ref (r 23), .ref (r 24), .int z25, .ref (r 26), .ref (r 27), .ref (r 28), .ref (r 29), .ref (r 30), .ref (r 31)])), ((r 2), .inl (D.1 21, 1500, .inl fl))] := hD
      exact W.iret (v := nI 128) hx hb hr (fun tq ht hW => ⟨⟨(), congrArg (fun z => Outcome.returned (some (Value.int z))) e96, trivial, by rw [ht]; exact hP9, va_K.moved hW.alike hK, hD9⟩, hS.F ht⟩) hS.2.2 dX6_byteOf_96
  · refine lv_aload_n hx hb dX6_byteOf_14 rfl (lv_at hl 1 rfl) ?_
    refine va_get (D := D) (ci := 6) (v := .ref (r 2)) (C := RX6) (T := TX6) (N := 32) hx hb hts inX6 hown hK hP 0 rfl rfl 2 (by decide) hwd0 (fun _ h9 => h9) rfl dX6_byteOf_15 ?_
    refine lv_iload_n hx hb dX6_byteOf_18 rfl (lv_at hl 2 rfl) ?_
    refine lv_iload_n hx hb dX6_byteOf_19 rfl (lv_at hl 3 rfl) ?_
    refine kn_icmp_ge (tgt := 27) hx hb (by omega) (by omega) dX6_byteOf_20 (by decide) (fun c_20 => ?_) (fun c_20 => ?_)
    · refine lv_iload_n hx hb dX6_byteOf_27 rfl (lv_at hl 2 rfl) ?_
      refine lv_iload_n hx hb dX6_byteOf_28 rfl (lv_at hl 3 rfl) ?_
      refine kn_isub hx hb (by omega) dX6_byteOf_29 ?_
      refine lv_iload_n hx hb dX6_byteOf_30 rfl (lv_at hl 4 rfl) ?_
      refine kn_iadd hx hb dX6_byteOf_31 ?_
      refine kn_bald hx hb hK hP 1 1 rfl rfl (i := i - a + b) (by omega) (by decide) dX6_byteOf_32 ?_
      refine lv_sipush (v := nI 255) hx hb dX6_byteOf_33 (by decide) ?_
      refine lv_iand hx hb dX6_byteOf_36 ?_
      have e37 : (fl (i - a + b)) &&& (nI 255) = kPad (kMb fl a b) (a + z - b) i := by unfold kPad kMb; rw [if_pos c_11]; rw [if_neg (by omega)]
      rw [hQ]
      have hP9 : va_P D kC [(h, .inr (6, [.ref (r 0), .int z1, .ref (r 2), .int z3, .int z4, .ref (r 5), .ref (r 6), .ref (r 7), .int z8, .ref (r 9), .ref (r 10), .ref (r 11), .ref (r 12), .ref (r 13), .ref (r 14), .ref (r 15), .ref (r 16), .ref (r 17), .ref (r 18), .ref (r 19), .ref (r 20), .ref (r 21), .int z22, .ref (r 23), .ref (r 24), .int z25, .ref (r 26), .ref (r 27), .ref (r 28), .ref (r 29), .ref (r 30), .ref (r 31)])), ((r 2), .inl (D.1 21, 1500, .inl fl))] _ := hP
      have hD9 : va_D A [(h, .inr (6, [.ref (r 0), .int z1, .ref (r 2), .int z3, .int z4, .ref (r 5), .ref (r 6), .ref (r 7), .int z8, .ref (r 9), .ref (r 10), .ref (r 11), .ref (r 12), .ref (r 13), .ref (r 14), .ref (r 15), .ref (r 16), .ref (r 17), .ref (r 18), .ref (r 19), .ref (r 20), .ref (r 21), .int z22, .ref (r 23), .ref (r 24), .int z25, .ref (r 26), .ref (r 27), .ref (r 28), .ref (r 29), .ref (r 30), .ref (r 31)])), ((r 2), .inl (D.1 21, 1500, .inl fl))] := hD
      exact W.iret (v := (fl (i - a + b)) &&& (nI 255)) hx hb hr (fun tq ht hW => ⟨⟨(), congrArg (fun z => Outcome.returned (some (Value.int z))) e37, trivial, by rw [ht]; exact hP9, va_K.moved hW.alike hK, hD9⟩, hS.F ht⟩) hS.2.2 dX6_byteOf_37
    · refine lv_iload_n hx hb dX6_byteOf_23 rfl (lv_at hl 2 rfl) ?_
      refine lv_goto (tgt := 32) hx hb dX6_byteOf_24 (by decide) ?_
      refine kn_bald hx hb hK hP 1 1 rfl rfl (i := i) (by omega) (by decide) dX6_byteOf_32 ?_
      refine lv_sipush (v := nI 255) hx hb dX6_byteOf_33 (by decide) ?_
      refine lv_iand hx hb dX6_byteOf_36 ?_
      have e37 : (fl i) &&& (nI 255) = kPad (kMb fl a b) (a + z - b) i := by unfold kPad kMb; rw [if_pos c_11]; rw [if_pos c_20]
      rw [hQ]
      have hP9 : va_P D kC [(h, .inr (6, [.ref (r 0), .int z1, .ref (r 2), .int z3, .int z4, .ref (r 5), .ref (r 6), .ref (r 7), .int z8, .ref (r 9), .ref (r 10), .ref (r 11), .ref (r 12), .ref (r 13), .ref (r 14), .ref (r 15), .ref (r 16), .ref (r 17), .ref (r 18), .ref (r 19), .ref (r 20), .ref (r 21), .int z22, .ref (r 23), .ref (r 24), .int z25, .ref (r 26), .ref (r 27), .ref (r 28), .ref (r 29), .ref (r 30), .ref (r 31)])), ((r 2), .inl (D.1 21, 1500, .inl fl))] _ := hP
      have hD9 : va_D A [(h, .inr (6, [.ref (r 0), .int z1, .ref (r 2), .int z3, .int z4, .ref (r 5), .ref (r 6), .ref (r 7), .int z8, .ref (r 9), .ref (r 10), .ref (r 11), .ref (r 12), .ref (r 13), .ref (r 14), .ref (r 15), .ref (r 16), .ref (r 17), .ref (r 18), .ref (r 19), .ref (r 20), .ref (r 21), .int z22, .ref (r 23), .ref (r 24), .int z25, .ref (r 26), .ref (r 27), .ref (r 28), .ref (r 29), .ref (r 30), .ref (r 31)])), ((r 2), .inl (D.1 21, 1500, .inl fl))] := hD
      exact W.iret (v := (fl i) &&& (nI 255)) hx hb hr (fun tq ht hW => ⟨⟨(), congrArg (fun z => Outcome.returned (some (Value.int z))) e37, trivial, by rw [ht]; exact hP9, va_K.moved hW.alike hK, hD9⟩, hS.F ht⟩) hS.2.2 dX6_byteOf_37

theorem iX6_mix_X6 : ∀ w ∈ wsX60, w ∈ wsX6_mix := by decide +kernel
theorem X6_mix_hwd0 : (.fieldLink RX6 146 "SignatureSpansModel" "state" "[I" : Cond) ∈ wsX6_mix := by decide +kernel
theorem X6_mix_hwd1 : (.fieldLink RX6 149 "SignatureSpansModel" "now" "[I" : Cond) ∈ wsX6_mix := by decide +kernel
theorem X6_mix_hwd2 : (.fieldLink RX6 71 "SignatureSpansModel" "roots" "[I" : Cond) ∈ wsX6_mix := by decide +kernel
theorem X6_mix_hwd3 : (.fieldLink RX6 152 "SignatureSpansModel" "words" "[I" : Cond) ∈ wsX6_mix := by decide +kernel
set_option maxHeartbeats 4000000 in
set_option maxRecDepth 100000 in
/-- mix -/
theorem c_X6_mix (l : Launch) (D : va_G) (h : Nat) (r : Nat → Nat) (z1 z3 z4 z8 z22 z25 : Int32) (wd sa nw : Nat → Int32) : kM (S := Unit) l yX6_mix wsX6_mix ({ frames := 8, cells := 0, slots := 0, locals := 160 }) 0 0 D [.ref h] [(h, .inr (6, [.ref (r 0), .int z1, .ref (r 2), .int z3, .int z4, .ref (r 5), .ref (r 6), .ref (r 7), .int z8, .ref (r 9), .ref (r 10), .ref (r 11), .ref (r 12), .ref (r 13), .ref (r 14), .ref (r 15), .ref (r 16), .ref (r 17), .ref (r 18), .ref (r 19), .ref (r 20), .ref (r 21), .int z22, .ref (r 23), .ref (r 24), .int z25, .ref (r 26), .ref (r 27), .ref (r 28), .ref (r 29), .ref (r 30), .ref (r 31)])), ((r 0), .inl (D.1 20, 64, .inl kRd)), ((r 29), .inl (D.1 20, 8, .inl sa)), ((r 30), .inl (D.1 20, 8, .inl nw)), ((r 31), .inl (D.1 20, 64, .inl wd))] (fun _ => none) (fun _ => [(h, .inr (6, [.ref (r 0), .int z1, .ref (r 2), .int z3, .int z4, .ref (r 5), .ref (r 6), .ref (r 7), .int z8, .ref (r 9), .ref (r 10), .ref (r 11), .ref (r 12), .ref (r 13), .ref (r 14), .ref (r 15), .ref (r 16), .ref (r 17), .ref (r 18), .ref (r 19), .ref (r 20), .ref (r 21), .int z22, .ref (r 23), .ref (r 24), .int z25, .ref (r 26), .ref (r 27), .ref (r 28), .ref (r 29), .ref (r 30), .ref (r 31)])), ((r 0), .inl (D.1 20, 64, .inl kRd)), ((r 29), .inl (D.1 20, 8, .inl (kSeg sa (fun j => sa j + kRN (kSchN wd 48) sa 64 j) 0 8))), ((r 30), .inl (D.1 20, 8, .inl (kSeg nw (kRN (kSchN wd 48) sa 64) 0 8))), ((r 31), .inl (D.1 20, 64, .inl (kSchN wd 48)))]) (fun _ => True) := by
  intro sz
  refine Met.ofW (cc := cX6_mix) (maxL := 7) (ret := none) (by decide) rfl ?_
  intro p e s m args below meth c s₁ B hml hv
  obtain ⟨rfl, hsz, hP, hK, hD0, hE⟩ := hv
  have hx := B.exec
  have hb := B.bytes
  have hr := B.returns
  have hts := atoms_spec (ws := wsX6_mix) B.pre
  have hown : s.vm.findClass RX6 = some m.cls := findClass_of_methodNamed B.named
  have hlocks := B.notSynchronized
  subst hsz
  have hD := hD0.self (sz := s.heap.size)
  generalize hAe : va_A [(h, .inr (6, [.ref (r 0), .int z1, .ref (r 2), .int z3, .int z4, .ref (r 5), .ref (r 6), .ref (r 7), .int z8, .ref (r 9), .ref (r 10), .ref (r 11), .ref (r 12), .ref (r 13), .ref (r 14), .ref (r 15), .ref (r 16), .ref (r 17), .ref (r 18), .ref (r 19), .ref (r 20), .ref (r 21), .int z22, .ref (r 23), .ref (r 24), .int z25, .ref (r 26), .ref (r 27), .ref (r 28), .ref (r 29), .ref (r 30), .ref (r 31)])), ((r 0), .inl (D.1 20, 64, .inl kRd)), ((r 29), .inl (D.1 20, 8, .inl sa)), ((r 30), .inl (D.1 20, 8, .inl nw)), ((r 31), .inl (D.1 20, 64, .inl wd))] s.heap.size = A at hD hE ⊢
  have hA : ∀ q : Nat, s.heap.size ≤ q → A q := fun q h => by rw [← hAe]; exact Or.inr h
  have hS : va_S A s.heap s.heap [] := va_S.rf
  have hl := lv_entry ([.ref h]) (n := 7) (Nat.le_of_ble_eq_true rfl)
  have inX6 : ∀ w ∈ wsX60, w ∈ wsX6_mix := iX6_mix_X6
  have hwd0 := hts (.fieldLink RX6 146 "SignatureSpansModel" "state" "[I") X6_mix_hwd0
  have hwd1 := hts (.fieldLink RX6 149 "SignatureSpansModel" "now" "[I") X6_mix_hwd1
  have hwd2 := hts (.fieldLink RX6 71 "SignatureSpansModel" "roots" "[I") X6_mix_hwd2
  have hwd3 := hts (.fieldLink RX6 152 "SignatureSpansModel" "words" "[I") X6_mix_hwd3
  refine kgenQ (fun Q hQ => ?_)
  rw [lg_entry_eq]
  generalize (lg_sl ([.ref h]) ++ List.replicate (7 - (lg_sl ([.ref h])).length) Slot.unset).toArray = ls at hl ⊢
  have hl : lv_has ls 7 [(0, .ref h)] := hl
  refine lv_bipush (v := nI 16) hx hb dX6_mix_0 (by decide) ?_
  refine lv_istore_n (lv' := [(1, .int (nI 16)), (0, .ref h)]) hx hb dX6_mix_2 rfl hl (by decide) rfl (fun ls hl => ?_)
  have la : ∀ fu : Nat, ∀ (i1 : Nat), (i1 ≤ 48) → (49 ≤ i1 + fu) → ∀ (H : Heap) (locs : List Loc), va_P D kC [(h, .inr (6, [.ref (r 0), .int z1, .ref (r 2), .int z3, .int z4, .ref (r 5), .ref (r 6), .ref (r 7), .int z8, .ref (r 9), .ref (r 10), .ref (r 11), .ref (r 12), .ref (r 13), .ref (r 14), .ref (r 15), .ref (r 16), .ref (r 17), .ref (r 18), .ref (r 19), .ref (r 20), .ref (r 21), .int z22, .ref (r 23), .ref (r 24), .int z25, .ref (r 26), .ref (r 27), .ref (r 28), .ref (r 29), .ref (r 30), .ref (r 31)])), ((r 0), .inl (D.1 20, 64, .inl kRd)), ((r 29), .inl (D.1 20, 8, .inl sa)), ((r 30), .inl (D.1 20, 8, .inl nw)), ((r 31), .inl (D.1 20, 64, .inl (kSchN wd i1)))] H → va_D A [(h, .inr (6, [.ref (r 0), .int z1, .ref (r 2), .int z3, .int z4, .ref (r 5), .ref (r 6), .ref (r 7), .int z8, .ref (r 9), .ref (r 10), .ref (r 11), .ref (r 12), .ref (r 13), .ref (r 14), .ref (r 15), .ref (r 16), .ref (r 17), .ref (r 18), .ref (r 19), .ref (r 20), .ref (r 21), .int z22, .ref (r 23), .ref (r 24), .int z25, .ref (r 26), .ref (r 27), .ref (r 28), .ref (r 29), .ref (r 30), .ref (r 31)])), ((r 0), .inl (D.1 20, 64, .inl kRd)), ((r 29), .inl (D.1 20, 8, .inl sa)), ((r 30), .inl (D.1 20, 8, .inl nw)), ((r 31), .inl (D.1 20, 64, .inl (kSchN wd i1)))] → va_S A s.heap H locs → ∀ (ls : Array Slot), lv_has ls 7 [(0, .ref h), (1, .int (nI (16 + i1)))] → W p l e (headSpec wsX6_mix ({ frames := 8, cells := 0, slots := 0, locals := 160 })).room s m #[Value.ref h] below meth c H locs 0 0 Q (F0 m 3 ls []) := by
    intro fu
    induction fu with
    | zero =>
      intro i1 h1 hfu H locs hP hD hS ls hl
      exfalso; omega
    | succ fu ih_la =>
      intro i1 h1 hfu H locs hP hD hS ls hl
      refine lv_iload_n hx hb dX6_mix_3 rfl (lv_at hl 1 rfl) ?_
      refine lv_bipush (v := nI 64) hx hb dX6_mix_4 (by decide) ?_
      refine kn_icmp_ge (tgt := 96) hx hb (by omega) (by omega) dX6_mix_6 (by decide) (fun c_6 => ?_) (fun c_6 => ?_)
      · have ev : i1 = 48 := by omega
        subst ev
        refine lv_iconst (v := nI 0) hx hb dX6_mix_96 (by decide) ?_
        refine lv_istore_n (lv' := [(1, .int (nI 0)), (0, .ref h)]) hx hb dX6_mix_97 rfl hl (by decide) rfl (fun ls hl => ?_)
        have lb : ∀ fu : Nat, ∀ (i2 : Nat), (i2 ≤ 8) → (9 ≤ i2 + fu) → ∀ (H : Heap) (locs : List Loc), va_P D kC [(h, .inr (6, [.ref (r 0), .int z1, .ref (r 2), .int z3, .int z4, .ref (r 5), .ref (r 6), .ref (r 7), .int z8, .ref (r 9), .ref (r 10), .ref (r 11), .ref (r 12), .ref (r 13), .ref (r 14), .ref (r 15), .ref (r 16), .ref (r 17), .ref (r 18), .ref (r 19), .ref (r 20), .ref (r 21), .int z22, .ref (r 23), .ref (r 24), .int z25, .ref (r 26), .ref (r 27), .ref (r 28), .ref (r 29), .ref (r 30), .ref (r 31)])), ((r 0), .inl (D.1 20, 64, .inl kRd)), ((r 29), .inl (D.1 20, 8, .inl sa)), ((r 30), .inl (D.1 20, 8, .inl (kSeg nw sa 0 i2))), ((r 31), .inl (D.1 20, 64, .inl (kSchN wd 48)))] H → va_D A [(h, .inr (6, [.ref (r 0), .int z1, .ref (r 2), .int z3, .int z4, .ref (r 5), .ref (r 6), .ref (r 7), .int z8, .ref (r 9), .ref (r 10), .ref (r 11), .ref (r 12), .ref (r 13), .ref (r 14), .ref (r 15), .ref (r 16), .ref (r 17), .ref (r 18), .ref (r 19), .ref (r 20), .ref (r 21), .int z22, .ref (r 23), .ref (r 24), .int z25, .ref (r 26), .ref (r 27), .ref (r 28), .ref (r 29), .ref (r 30), .ref (r 31)])), ((r 0), .inl (D.1 20, 64, .inl kRd)), ((r 29), .inl (D.1 20, 8, .inl sa)), ((r 30), .inl (D.1 20, 8, .inl (kSeg nw sa 0 i2))), ((r 31), .inl (D.1 20, 64, .inl (kSchN wd 48)))] → va_S A s.heap H locs → ∀ (ls : Array Slot), lv_has ls 7 [(0, .ref h), (1, .int (nI i2))] → W p l e (headSpec wsX6_mix ({ frames := 8, cells := 0, slots := 0, locals := 160 })).room s m #[Value.ref h] below meth c H locs 0 0 Q (F0 m 98 ls []) := by
          intro fu
          induction fu with
          | zero =>
            intro i2 h2 hfu H locs hP hD hS ls hl
            exfalso; omega
          | succ fu ih_lb =>
            intro i2 h2 hfu H locs hP hD hS ls hl
            refine lv_iload_n hx hb dX6_mix_98 rfl (lv_at hl 1 rfl) ?_
            refine lv_bipush (v := nI 8) hx hb dX6_mix_99 (by decide) ?_
            refine kn_icmp_ge (tgt := 122) hx hb (by omega) (by omega) dX6_mix_101 (by decide) (fun c_101 => ?_) (fun c_101 => ?_)
            · have ev : i2 = 8 := by omega
              subst ev
              refine lv_iconst (v := nI 0) hx hb dX6_mix_122 (by decide) ?_
              refine lv_istore_n (lv' := [(1, .int (nI 0)), (0, .ref h)]) hx hb dX6_mix_123 rfl hl (by decide) rfl (fun ls hl => ?_)
              have lr : ∀ fu : Nat, ∀ (i3 : Nat), (i3 ≤ 64) → (65 ≤ i3 + fu) → ∀ (H : Heap) (locs : List Loc), va_P D kC [(h, .inr (6, [.ref (r 0), .int z1, .ref (r 2), .int z3, .int z4, .ref (r 5), .ref (r 6), .ref (r 7), .int z8, .ref (r 9), .ref (r 10), .ref (r 11), .ref (r 12), .ref (r 13), .ref (r 14), .ref (r 15), .ref (r 16), .ref (r 17), .ref (r 18), .ref (r 19), .ref (r 20), .ref (r 21), .int z22, .ref (r 23), .ref (r 24), .int z25, .ref (r 26), .ref (r 27), .ref (r 28), .ref (r 29), .ref (r 30), .ref (r 31)])), ((r 0), .inl (D.1 20, 64, .inl kRd)), ((r 29), .inl (D.1 20, 8, .inl sa)), ((r 30), .inl (D.1 20, 8, .inl (kSeg nw (kRN (kSchN wd 48) sa i3) 0 8))), ((r 31), .inl (D.1 20, 64, .inl (kSchN wd 48)))] H → va_D A [(h, .inr (6, [.ref (r 0), .int z1, .ref (r 2), .int z3, .int z4, .ref (r 5), .ref (r 6), .ref (r 7), .int z8, .ref (r 9), .ref (r 10), .ref (r 11), .ref (r 12), .ref (r 13), .ref (r 14), .ref (r 15), .ref (r 16), .ref (r 17), .ref (r 18), .ref (r 19), .ref (r 20), .ref (r 21), .int z22, .ref (r 23), .ref (r 24), .int z25, .ref (r 26), .ref (r 27), .ref (r 28), .ref (r 29), .ref (r 30), .ref (r 31)])), ((r 0), .inl (D.1 20, 64, .inl kRd)), ((r 29), .inl (D.1 20, 8, .inl sa)), ((r 30), .inl (D.1 20, 8, .inl (kSeg nw (kRN (kSchN wd 48) sa i3) 0 8))), ((r 31), .inl (D.1 20, 64, .inl (kSchN wd 48)))] → va_S A s.heap H locs → ∀ (ls : Array Slot), lv_has ls 7 [(0, .ref h), (1, .int (nI i3))] → W p l e (headSpec wsX6_mix ({ frames := 8, cells := 0, slots := 0, locals := 160 })).room s m #[Value.ref h] below meth c H locs 0 0 Q (F0 m 124 ls []) := by
                intro fu
                induction fu with
                | zero =>
                  intro i3 h3 hfu H locs hP hD hS ls hl
                  exfalso; omega
                | succ fu ih_lr =>
                  intro i3 h3 hfu H locs hP hD hS ls hl
                  refine lv_iload_n hx hb dX6_mix_124 rfl (lv_at hl 1 rfl) ?_
                  refine lv_bipush (v := nI 64) hx hb dX6_mix_125 (by decide) ?_
                  refine kn_icmp_ge (tgt := 325) hx hb (by omega) (by omega) dX6_mix_127 (by decide) (fun c_127 => ?_) (fun c_127 => ?_)
                  · have ev : i3 = 64 := by omega
                    subst ev
                    refine lv_iconst (v := nI 0) hx hb dX6_mix_325 (by decide) ?_
                    refine lv_istore_n (lv' := [(1, .int (nI 0)), (0, .ref h)]) hx hb dX6_mix_326 rfl hl (by decide) rfl (fun ls hl => ?_)
                    have ld : ∀ fu : Nat, ∀ (i5 : Nat), (i5 ≤ 8) → (9 ≤ i5 + fu) → ∀ (H : Heap) (locs : List Loc), va_P D kC [(h, .inr (6, [.ref (r 0), .int z1, .ref (r 2), .int z3, .int z4, .ref (r 5), .ref (r 6), .ref (r 7), .int z8, .ref (r 9), .ref (r 10), .ref (r 11), .ref (r 12), .ref (r 13), .ref (r 14), .ref (r 15), .ref (r 16), .ref (r 17), .ref (r 18), .ref (r 19), .ref (r 20), .ref (r 21), .int z22, .ref (r 23), .ref (r 24), .int z25, .ref (r 26), .ref (r 27), .ref (r 28), .ref (r 29), .ref (r 30), .ref (r 31)])), ((r 0), .inl (D.1 20, 64, .inl kRd)), ((r 29), .inl (D.1 20, 8, .inl (kSeg sa (fun j => sa j + kRN (kSchN wd 48) sa 64 j) 0 i5))), ((r 30), .inl (D.1 20, 8, .inl (kSeg nw (kRN (kSchN wd 48) sa 64) 0 8))), ((r 31), .inl (D.1 20, 64, .inl (kSchN wd 48)))] H → va_D A [(h, .inr (6, [.ref (r 0), .int z1, .ref (r 2), .int z3, .int z4, .ref (r 5), .ref (r 6), .ref (r 7), .int z8, .ref (r 9), .ref (r 10), .ref (r 11), .ref (r 12), .ref (r 13), .ref (r 14), .ref (r 15), .ref (r 16), .ref (r 17), .ref (r 18), .ref (r 19), .ref (r 20), .ref (r 21), .int z22, .ref (r 23), .ref (r 24), .int z25, .ref (r 26), .ref (r 27), .ref (r 28), .ref (r 29), .ref (r 30), .ref (r 31)])), ((r 0), .inl (D.1 20, 64, .inl kRd)), ((r 29), .inl (D.1 20, 8, .inl (kSeg sa (fun j => sa j + kRN (kSchN wd 48) sa 64 j) 0 i5))), ((r 30), .inl (D.1 20, 8, .inl (kSeg nw (kRN (kSchN wd 48) sa 64) 0 8))), ((r 31), .inl (D.1 20, 64, .inl (kSchN wd 48)))] → va_S A s.heap H locs → ∀ (ls : Array Slot), lv_has ls 7 [(0, .ref h), (1, .int (nI i5))] → W p l e (headSpec wsX6_mix ({ frames := 8, cells := 0, slots := 0, locals := 160 })).room s m #[Value.ref h] below meth c H locs 0 0 Q (F0 m 327 ls []) := by
                      intro fu
                      induction fu with
                      | zero =>
                        intro i5 h5 hfu H locs hP hD hS ls hl
                        exfalso; omega
                      | succ fu ih_ld =>
                        intro i5 h5 hfu H locs hP hD hS ls hl
                        refine lv_iload_n hx hb dX6_mix_327 rfl (lv_at hl 1 rfl) ?_
                        refine lv_bipush (v := nI 8) hx hb dX6_mix_328 (by decide) ?_
                        refine kn_icmp_ge (tgt := 358) hx hb (by omega) (by omega) dX6_mix_330 (by decide) (fun c_330 => ?_) (fun c_330 => ?_)
                        · have ev : i5 = 8 := by omega
                          subst ev
                          rw [hQ]
                          have hP9 : va_P D kC [(h, .inr (6, [.ref (r 0), .int z1, .ref (r 2), .int z3, .int z4, .ref (r 5), .ref (r 6), .ref (r 7), .int z8, .ref (r 9), .ref (r 10), .ref (r 11), .ref (r 12), .ref (r 13), .ref (r 14), .ref (r 15), .ref (r 16), .ref (r 17), .ref (r 18), .ref (r 19), .ref (r 20), .ref (r 21), .int z22, .ref (r 23), .ref (r 24), .int z25, .ref (r 26), .ref (r 27), .ref (r 28), .ref (r 29), .ref (r 30), .ref (r 31)])), ((r 0), .inl (D.1 20, 64, .inl kRd)), ((r 29), .inl (D.1 20, 8, .inl (kSeg sa (fun j => sa j + kRN (kSchN wd 48) sa 64 j) 0 8))), ((r 30), .inl (D.1 20, 8, .inl (kSeg nw (kRN (kSchN wd 48) sa 64) 0 8))), ((r 31), .inl (D.1 20, 64, .inl (kSchN wd 48)))] _ := hP
                          have hD9 : va_D A [(h, .inr (6, [.ref (r 0), .int z1, .ref (r 2), .int z3, .int z4, .ref (r 5), .ref (r 6), .ref (r 7), .int z8, .ref (r 9), .ref (r 10), .ref (r 11), .ref (r 12), .ref (r 13), .ref (r 14), .ref (r 15), .ref (r 16), .ref (r 17), .ref (r 18), .ref (r 19), .ref (r 20), .ref (r 21), .int z22, .ref (r 23), .ref (r 24), .int z25, .ref (r 26), .ref (r 27), .ref (r 28), .ref (r 29), .ref (r 30), .ref (r 31)])), ((r 0), .inl (D.1 20, 64, .inl kRd)), ((r 29), .inl (D.1 20, 8, .inl (kSeg sa (fun j => sa j + kRN (kSchN wd 48) sa 64 j) 0 8))), ((r 30), .inl (D.1 20, 8, .inl (kSeg nw (kRN (kSchN wd 48) sa 64) 0 8))), ((r 31), .inl (D.1 20, 64, .inl (kSchN wd 48)))] := hD
                          exact W.vret hx hb hr (fun tq ht hW => ⟨⟨(), rfl, trivial, by rw [ht]; exact hP9, va_K.moved hW.alike hK, hD9⟩, hS.F ht⟩) hS.2.2 dX6_mix_358
                        · refine lv_aload_n hx hb dX6_mix_333 rfl (lv_at hl 0 rfl) ?_
                          refine va_get (D := D) (ci := 6) (v := .ref (r 29)) (C := RX6) (T := TX6) (N := 32) hx hb hts inX6 hown hK hP 0 rfl rfl 29 (by decide) hwd0 (fun _ h9 => h9) rfl dX6_mix_334 ?_
                          refine lv_iload_n hx hb dX6_mix_337 rfl (lv_at hl 1 rfl) ?_
                          refine lv_aload_n hx hb dX6_mix_338 rfl (lv_at hl 0 rfl) ?_
                          refine va_get (D := D) (ci := 6) (v := .ref (r 29)) (C := RX6) (T := TX6) (N := 32) hx hb hts inX6 hown hK hP 0 rfl rfl 29 (by decide) hwd0 (fun _ h9 => h9) rfl dX6_mix_339 ?_
                          refine lv_iload_n hx hb dX6_mix_342 rfl (lv_at hl 1 rfl) ?_
                          refine kn_iald hx hb hK hP 2 0 rfl rfl (i := i5) (by omega) (by decide) dX6_mix_343 ?_
                          refine lv_aload_n hx hb dX6_mix_344 rfl (lv_at hl 0 rfl) ?_
                          refine va_get (D := D) (ci := 6) (v := .ref (r 30)) (C := RX6) (T := TX6) (N := 32) hx hb hts inX6 hown hK hP 0 rfl rfl 30 (by decide) hwd1 (fun _ h9 => h9) rfl dX6_mix_345 ?_
                          refine lv_iload_n hx hb dX6_mix_348 rfl (lv_at hl 1 rfl) ?_
                          refine kn_iald hx hb hK hP 3 0 rfl rfl (i := i5) (by omega) (by decide) dX6_mix_349 ?_
                          refine lv_iadd hx hb dX6_mix_350 ?_
                          refine kn_iast hx hb hK hP hD hS 2 0 rfl rfl (i := i5) (by omega) (by decide) dX6_mix_351 (fun H locs hP hD hS => ?_)
                          have hP : va_P D kC [(h, .inr (6, [.ref (r 0), .int z1, .ref (r 2), .int z3, .int z4, .ref (r 5), .ref (r 6), .ref (r 7), .int z8, .ref (r 9), .ref (r 10), .ref (r 11), .ref (r 12), .ref (r 13), .ref (r 14), .ref (r 15), .ref (r 16), .ref (r 17), .ref (r 18), .ref (r 19), .ref (r 20), .ref (r 21), .int z22, .ref (r 23), .ref (r 24), .int z25, .ref (r 26), .ref (r 27), .ref (r 28), .ref (r 29), .ref (r 30), .ref (r 31)])), ((r 0), .inl (D.1 20, 64, .inl kRd)), ((r 29), .inl (D.1 20, 8, .inl (upd (kSeg sa (fun j => sa j + kRN (kSchN wd 48) sa 64 j) 0 i5) i5 (((kSeg sa (fun j => sa j + kRN (kSchN wd 48) sa 64 j) 0 i5) i5) + ((kSeg nw (kRN (kSchN wd 48) sa 64) 0 8) i5))))), ((r 30), .inl (D.1 20, 8, .inl (kSeg nw (kRN (kSchN wd 48) sa 64) 0 8))), ((r 31), .inl (D.1 20, 64, .inl (kSchN wd 48)))] _ := hP
                          have hD : va_D A [(h, .inr (6, [.ref (r 0), .int z1, .ref (r 2), .int z3, .int z4, .ref (r 5), .ref (r 6), .ref (r 7), .int z8, .ref (r 9), .ref (r 10), .ref (r 11), .ref (r 12), .ref (r 13), .ref (r 14), .ref (r 15), .ref (r 16), .ref (r 17), .ref (r 18), .ref (r 19), .ref (r 20), .ref (r 21), .int z22, .ref (r 23), .ref (r 24), .int z25, .ref (r 26), .ref (r 27), .ref (r 28), .ref (r 29), .ref (r 30), .ref (r 31)])), ((r 0), .inl (D.1 20, 64, .inl kRd)), ((r 29), .inl (D.1 20, 8, .inl (upd (kSeg sa (fun j => sa j + kRN (kSchN wd 48) sa 64 j) 0 i5) i5 (((kSeg sa (fun j => sa j + kRN (kSchN wd 48) sa 64 j) 0 i5) i5) + ((kSeg nw (kRN (kSchN wd 48) sa 64) 0 8) i5))))), ((r 30), .inl (D.1 20, 8, .inl (kSeg nw (kRN (kSchN wd 48) sa 64) 0 8))), ((r 31), .inl (D.1 20, 64, .inl (kSchN wd 48)))] := hD
                          have ef22 : upd (kSeg sa (fun j => sa j + kRN (kSchN wd 48) sa 64 j) 0 i5) i5 (((kSeg sa (fun j => sa j + kRN (kSchN wd 48) sa 64 j) 0 i5) i5) + ((kSeg nw (kRN (kSchN wd 48) sa 64) 0 8) i5)) = kSeg sa (fun j => sa j + kRN (kSchN wd 48) sa 64 j) 0 (i5 + 1) := kSeg_up (Nat.zero_le _) (by rw [kSeg_out (by omega), kSeg_in (Nat.zero_le _) (by omega)])
                          rw [ef22] at hP hD
                          refine lv_iinc (v := nI (i5 + 1)) (lv' := [(1, .int (nI (i5 + 1))), (0, .ref h)]) hx hb dX6_mix_352 hl (k := 1) rfl (nI_1 _) (by decide) rfl (fun ls hl => ?_)
                          refine lv_goto (tgt := 327) hx hb dX6_mix_355 (by decide) ?_
                          exact ih_ld (i5 + 1) (by omega) (by omega) _ _ hP hD hS ls (lv_sub hl [1, 0] rfl)
                    exact ld 9 0 (by omega) (by omega) _ _ (by rw [kSeg_0]; exact hP) (by rw [kSeg_0]; exact hD) hS ls (lv_sub hl [1, 0] rfl)
                  · refine lv_aload_n hx hb dX6_mix_130 rfl (lv_at hl 0 rfl) ?_
                    refine va_get (D := D) (ci := 6) (v := .ref (r 30)) (C := RX6) (T := TX6) (N := 32) hx hb hts inX6 hown hK hP 0 rfl rfl 30 (by decide) hwd1 (fun _ h9 => h9) rfl dX6_mix_131 ?_
                    refine lv_iconst (v := nI 4) hx hb dX6_mix_134 (by decide) ?_
                    refine kn_iald hx hb hK hP 3 0 rfl rfl (i := 4) (by omega) (by decide) dX6_mix_135 ?_
                    refine kt_i (v' := (kRN (kSchN wd 48) sa i3) 4) (rfl) ?_
                    refine lv_istore_n (lv' := [(2, .int ((kRN (kSchN wd 48) sa i3) 4)), (0, .ref h), (1, .int (nI i3))]) hx hb dX6_mix_136 rfl hl (by decide) rfl (fun ls hl => ?_)
                    refine lv_aload_n hx hb dX6_mix_137 rfl (lv_at hl 1 rfl) ?_
                    refine va_get (D := D) (ci := 6) (v := .ref (r 30)) (C := RX6) (T := TX6) (N := 32) hx hb hts inX6 hown hK hP 0 rfl rfl 30 (by decide) hwd1 (fun _ h9 => h9) rfl dX6_mix_138 ?_
                    refine lv_iconst (v := nI 0) hx hb dX6_mix_141 (by decide) ?_
                    refine kn_iald hx hb hK hP 3 0 rfl rfl (i := 0) (by omega) (by decide) dX6_mix_142 ?_
                    refine kt_i (v' := (kRN (kSchN wd 48) sa i3) 0) (rfl) ?_
                    refine lv_istore_n (lv' := [(3, .int ((kRN (kSchN wd 48) sa i3) 0)), (2, .int ((kRN (kSchN wd 48) sa i3) 4)), (0, .ref h), (1, .int (nI i3))]) hx hb dX6_mix_143 rfl hl (by decide) rfl (fun ls hl => ?_)
                    refine lv_aload_n hx hb dX6_mix_144 rfl (lv_at hl 2 rfl) ?_
                    refine va_get (D := D) (ci := 6) (v := .ref (r 30)) (C := RX6) (T := TX6) (N := 32) hx hb hts inX6 hown hK hP 0 rfl rfl 30 (by decide) hwd1 (fun _ h9 => h9) rfl dX6_mix_145 ?_
                    refine lv_bipush (v := nI 7) hx hb dX6_mix_148 (by decide) ?_
                    refine kn_iald hx hb hK hP 3 0 rfl rfl (i := 7) (by omega) (by decide) dX6_mix_150 ?_
                    refine kt_i (v' := (kRN (kSchN wd 48) sa i3) 7) (rfl) ?_
                    refine lv_iload_n hx hb dX6_mix_151 rfl (lv_at hl 1 rfl) ?_
                    refine lv_bipush (v := nI 6) hx hb dX6_mix_152 (by decide) ?_
                    refine kcS (As := [.int ((kRN (kSchN wd 48) sa i3) 4), .int (nI 6)]) (rest := [.int ((kRN (kSchN wd 48) sa i3) 7)]) (ws := []) (wr := [(h, .inr (6, [.ref (r 0), .int z1, .ref (r 2), .int z3, .int z4, .ref (r 5), .ref (r 6), .ref (r 7), .int z8, .ref (r 9), .ref (r 10), .ref (r 11), .ref (r 12), .ref (r 13), .ref (r 14), .ref (r 15), .ref (r 16), .ref (r 17), .ref (r 18), .ref (r 19), .ref (r 20), .ref (r 21), .int z22, .ref (r 23), .ref (r 24), .int z25, .ref (r 26), .ref (r 27), .ref (r 28), .ref (r 29), .ref (r 30), .ref (r 31)])), ((r 0), .inl (D.1 20, 64, .inl kRd)), ((r 29), .inl (D.1 20, 8, .inl sa)), ((r 30), .inl (D.1 20, 8, .inl (kSeg nw (kRN (kSchN wd 48) sa i3) 0 8))), ((r 31), .inl (D.1 20, 64, .inl (kSchN wd 48)))]) ⟨hx, hb, hml, hown, hts⟩ (c_X6_turn l D ((kRN (kSchN wd 48) sa i3) 4) (nI 6)) (va_cwS 2 hts gX6_mix_X6_turn rfl rfl rfl (by decide +kernel) ⟨Nat.le_of_ble_eq_true rfl, Nat.le_of_ble_eq_true rfl⟩) hK hE hP hD hS hA [] [0, 1, 2, 3, 4] rfl rfl rfl rfl (by decide) rfl hl.1 rfl (Nat.le_of_ble_eq_true rfl) dX6_mix_154 ⟨Nat.le_of_ble_eq_true rfl, Nat.le_of_ble_eq_true rfl⟩ (fun _ H locs hpo hP hD hS => ?_)
                    have hP : va_P D kC [(h, .inr (6, [.ref (r 0), .int z1, .ref (r 2), .int z3, .int z4, .ref (r 5), .ref (r 6), .ref (r 7), .int z8, .ref (r 9), .ref (r 10), .ref (r 11), .ref (r 12), .ref (r 13), .ref (r 14), .ref (r 15), .ref (r 16), .ref (r 17), .ref (r 18), .ref (r 19), .ref (r 20), .ref (r 21), .int z22, .ref (r 23), .ref (r 24), .int z25, .ref (r 26), .ref (r 27), .ref (r 28), .ref (r 29), .ref (r 30), .ref (r 31)])), ((r 0), .inl (D.1 20, 64, .inl kRd)), ((r 29), .inl (D.1 20, 8, .inl sa)), ((r 30), .inl (D.1 20, 8, .inl (kSeg nw (kRN (kSchN wd 48) sa i3) 0 8))), ((r 31), .inl (D.1 20, 64, .inl (kSchN wd 48)))] _ := hP
                    have hD : va_D A [(h, .inr (6, [.ref (r 0), .int z1, .ref (r 2), .int z3, .int z4, .ref (r 5), .ref (r 6), .ref (r 7), .int z8, .ref (r 9), .ref (r 10), .ref (r 11), .ref (r 12), .ref (r 13), .ref (r 14), .ref (r 15), .ref (r 16), .ref (r 17), .ref (r 18), .ref (r 19), .ref (r 20), .ref (r 21), .int z22, .ref (r 23), .ref (r 24), .int z25, .ref (r 26), .ref (r 27), .ref (r 28), .ref (r 29), .ref (r 30), .ref (r 31)])), ((r 0), .inl (D.1 20, 64, .inl kRd)), ((r 29), .inl (D.1 20, 8, .inl sa)), ((r 30), .inl (D.1 20, 8, .inl (kSeg nw (kRN (kSchN wd 48) sa i3) 0 8))), ((r 31), .inl (D.1 20, 64, .inl (kSchN wd 48)))] := hD
                    refine W.eq (g2 := F0 m 157 ls [.int (kRot ((kRN (kSchN wd 48) sa i3) 4) (nI 6)), .int ((kRN (kSchN wd 48) sa i3) 7)]) rfl ?_
                    refine W.widen (k := 0) (n := 0) (Nat.le_of_ble_eq_true rfl) (Nat.le_of_ble_eq_true rfl) ?_
                    refine lv_iload_n hx hb dX6_mix_157 rfl (lv_at hl 1 rfl) ?_
                    refine lv_bipush (v := nI 11) hx hb dX6_mix_158 (by decide) ?_
                    refine kcS (As := [.int ((kRN (kSchN wd 48) sa i3) 4), .int (nI 11)]) (rest := [.int (kRot ((kRN (kSchN wd 48) sa i3) 4) (nI 6)), .int ((kRN (kSchN wd 48) sa i3) 7)]) (ws := []) (wr := [(h, .inr (6, [.ref (r 0), .int z1, .ref (r 2), .int z3, .int z4, .ref (r 5), .ref (r 6), .ref (r 7), .int z8, .ref (r 9), .ref (r 10), .ref (r 11), .ref (r 12), .ref (r 13), .ref (r 14), .ref (r 15), .ref (r 16), .ref (r 17), .ref (r 18), .ref (r 19), .ref (r 20), .ref (r 21), .int z22, .ref (r 23), .ref (r 24), .int z25, .ref (r 26), .ref (r 27), .ref (r 28), .ref (r 29), .ref (r 30), .ref (r 31)])), ((r 0), .inl (D.1 20, 64, .inl kRd)), ((r 29), .inl (D.1 20, 8, .inl sa)), ((r 30), .inl (D.1 20, 8, .inl (kSeg nw (kRN (kSchN wd 48) sa i3) 0 8))), ((r 31), .inl (D.1 20, 64, .inl (kSchN wd 48)))]) ⟨hx, hb, hml, hown, hts⟩ (c_X6_turn l D ((kRN (kSchN wd 48) sa i3) 4) (nI 11)) (va_cwS 2 hts gX6_mix_X6_turn rfl rfl rfl (by decide +kernel) ⟨Nat.le_of_ble_eq_true rfl, Nat.le_of_ble_eq_true rfl⟩) hK hE hP hD hS hA [] [0, 1, 2, 3, 4] rfl rfl rfl rfl (by decide) rfl hl.1 rfl (Nat.le_of_ble_eq_true rfl) dX6_mix_160 ⟨Nat.le_of_ble_eq_true rfl, Nat.le_of_ble_eq_true rfl⟩ (fun _ H locs hpo hP hD hS => ?_)
                    have hP : va_P D kC [(h, .inr (6, [.ref (r 0), .int z1, .ref (r 2), .int z3, .int z4, .ref (r 5), .ref (r 6), .ref (r 7), .int z8, .ref (r 9), .ref (r 10), .ref (r 11), .ref (r 12), .ref (r 13), .ref (r 14), .ref (r 15), .ref (r 16), .ref (r 17), .ref (r 18), .ref (r 19), .ref (r 20), .ref (r 21), .int z22, .ref (r 23), .ref (r 24), .int z25, .ref (r 26), .ref (r 27), .ref (r 28), .ref (r 29), .ref (r 30), .ref (r 31)])), ((r 0), .inl (D.1 20, 64, .inl kRd)), ((r 29), .inl (D.1 20, 8, .inl sa)), ((r 30), .inl (D.1 20, 8, .inl (kSeg nw (kRN (kSchN wd 48) sa i3) 0 8))), ((r 31), .inl (D.1 20, 64, .inl (kSchN wd 48)))] _ := hP
                    have hD : va_D A [(h, .inr (6, [.ref (r 0), .int z1, .ref (r 2), .int z3, .int z4, .ref (r 5), .ref (r 6), .ref (r 7), .int z8, .ref (r 9), .ref (r 10), .ref (r 11), .ref (r 12), .ref (r 13), .ref (r 14), .ref (r 15), .ref (r 16), .ref (r 17), .ref (r 18), .ref (r 19), .ref (r 20), .ref (r 21), .int z22, .ref (r 23), .ref (r 24), .int z25, .ref (r 26), .ref (r 27), .ref (r 28), .ref (r 29), .ref (r 30), .ref (r 31)])), ((r 0), .inl (D.1 20, 64, .inl kRd)), ((r 29), .inl (D.1 20, 8, .inl sa)), ((r 30), .inl (D.1 20, 8, .inl (kSeg nw (kRN (kSchN wd 48) sa i3) 0 8))), ((r 31), .inl (D.1 20, 64, .inl (kSchN wd 48)))] := hD
                    refine W.eq (g2 := F0 m 163 ls [.int (kRot ((kRN (kSchN wd 48) sa i3) 4) (nI 11)), .int (kRot ((kRN (kSchN wd 48) sa i3) 4) (nI 6)), .int ((kRN (kSchN wd 48) sa i3) 7)]) rfl ?_
                    refine W.widen (k := 0) (n := 0) (Nat.le_of_ble_eq_true rfl) (Nat.le_of_ble_eq_true rfl) ?_
                    refine lv_ixor hx hb dX6_mix_163 ?_
                    refine lv_iload_n hx hb dX6_mix_164 rfl (lv_at hl 1 rfl) ?_
                    refine lv_bipush (v := nI 25) hx hb dX6_mix_165 (by decide) ?_
                    refine kcS (As := [.int ((kRN (kSchN wd 48) sa i3) 4), .int (nI 25)]) (rest := [.int ((kRot ((kRN (kSchN wd 48) sa i3) 4) (nI 6)) ^^^ (kRot ((kRN (kSchN wd 48) sa i3) 4) (nI 11))), .int ((kRN (kSchN wd 48) sa i3) 7)]) (ws := []) (wr := [(h, .inr (6, [.ref (r 0), .int z1, .ref (r 2), .int z3, .int z4, .ref (r 5), .ref (r 6), .ref (r 7), .int z8, .ref (r 9), .ref (r 10), .ref (r 11), .ref (r 12), .ref (r 13), .ref (r 14), .ref (r 15), .ref (r 16), .ref (r 17), .ref (r 18), .ref (r 19), .ref (r 20), .ref (r 21), .int z22, .ref (r 23), .ref (r 24), .int z25, .ref (r 26), .ref (r 27), .ref (r 28), .ref (r 29), .ref (r 30), .ref (r 31)])), ((r 0), .inl (D.1 20, 64, .inl kRd)), ((r 29), .inl (D.1 20, 8, .inl sa)), ((r 30), .inl (D.1 20, 8, .inl (kSeg nw (kRN (kSchN wd 48) sa i3) 0 8))), ((r 31), .inl (D.1 20, 64, .inl (kSchN wd 48)))]) ⟨hx, hb, hml, hown, hts⟩ (c_X6_turn l D ((kRN (kSchN wd 48) sa i3) 4) (nI 25)) (va_cwS 2 hts gX6_mix_X6_turn rfl rfl rfl (by decide +kernel) ⟨Nat.le_of_ble_eq_true rfl, Nat.le_of_ble_eq_true rfl⟩) hK hE hP hD hS hA [] [0, 1, 2, 3, 4] rfl rfl rfl rfl (by decide) rfl hl.1 rfl (Nat.le_of_ble_eq_true rfl) dX6_mix_167 ⟨Nat.le_of_ble_eq_true rfl, Nat.le_of_ble_eq_true rfl⟩ (fun _ H locs hpo hP hD hS => ?_)
                    have hP : va_P D kC [(h, .inr (6, [.ref (r 0), .int z1, .ref (r 2), .int z3, .int z4, .ref (r 5), .ref (r 6), .ref (r 7), .int z8, .ref (r 9), .ref (r 10), .ref (r 11), .ref (r 12), .ref (r 13), .ref (r 14), .ref (r 15), .ref (r 16), .ref (r 17), .ref (r 18), .ref (r 19), .ref (r 20), .ref (r 21), .int z22, .ref (r 23), .ref (r 24), .int z25, .ref (r 26), .ref (r 27), .ref (r 28), .ref (r 29), .ref (r 30), .ref (r 31)])), ((r 0), .inl (D.1 20, 64, .inl kRd)), ((r 29), .inl (D.1 20, 8, .inl sa)), ((r 30), .inl (D.1 20, 8, .inl (kSeg nw (kRN (kSchN wd 48) sa i3) 0 8))), ((r 31), .inl (D.1 20, 64, .inl (kSchN wd 48)))] _ := hP
                    have hD : va_D A [(h, .inr (6, [.ref (r 0), .int z1, .ref (r 2), .int z3, .int z4, .ref (r 5), .ref (r 6), .ref (r 7), .int z8, .ref (r 9), .ref (r 10), .ref (r 11), .ref (r 12), .ref (r 13), .ref (r 14), .ref (r 15), .ref (r 16), .ref (r 17), .ref (r 18), .ref (r 19), .ref (r 20), .ref (r 21), .int z22, .ref (r 23), .ref (r 24), .int z25, .ref (r 26), .ref (r 27), .ref (r 28), .ref (r 29), .ref (r 30), .ref (r 31)])), ((r 0), .inl (D.1 20, 64, .inl kRd)), ((r 29), .inl (D.1 20, 8, .inl sa)), ((r 30), .inl (D.1 20, 8, .inl (kSeg nw (kRN (kSchN wd 48) sa i3) 0 8))), ((r 31), .inl (D.1 20, 64, .inl (kSchN wd 48)))] := hD
                    refine W.eq (g2 := F0 m 170 ls [.int (kRot ((kRN (kSchN wd 48) sa i3) 4) (nI 25)), .int ((kRot ((kRN (kSchN wd 48) sa i3) 4) (nI 6)) ^^^ (kRot ((kRN (kSchN wd 48) sa i3) 4) (nI 11))), .int ((kRN (kSchN wd 48) sa i3) 7)]) rfl ?_
                    refine W.widen (k := 0) (n := 0) (Nat.le_of_ble_eq_true rfl) (Nat.le_of_ble_eq_true rfl) ?_
                    refine lv_ixor hx hb dX6_mix_170 ?_
                    refine lv_iadd hx hb dX6_mix_171 ?_
                    refine lv_iload_n hx hb dX6_mix_172 rfl (lv_at hl 1 rfl) ?_
                    refine lv_aload_n hx hb dX6_mix_173 rfl (lv_at hl 2 rfl) ?_
                    refine va_get (D := D) (ci := 6) (v := .ref (r 30)) (C := RX6) (T := TX6) (N := 32) hx hb hts inX6 hown hK hP 0 rfl rfl 30 (by decide) hwd1 (fun _ h9 => h9) rfl dX6_mix_174 ?_
                    refine lv_iconst (v := nI 5) hx hb dX6_mix_177 (by decide) ?_
                    refine kn_iald hx hb hK hP 3 0 rfl rfl (i := 5) (by omega) (by decide) dX6_mix_178 ?_
                    refine kt_i (v' := (kRN (kSchN wd 48) sa i3) 5) (rfl) ?_
                    refine lv_iand hx hb dX6_mix_179 ?_
                    refine lv_iload_n hx hb dX6_mix_180 rfl (lv_at hl 1 rfl) ?_
                    refine lv_iconst (v := (-1 : Int32)) hx hb dX6_mix_181 (by decide) ?_
                    refine lv_ixor hx hb dX6_mix_182 ?_
                    refine lv_aload_n hx hb dX6_mix_183 rfl (lv_at hl 2 rfl) ?_
                    refine va_get (D := D) (ci := 6) (v := .ref (r 30)) (C := RX6) (T := TX6) (N := 32) hx hb hts inX6 hown hK hP 0 rfl rfl 30 (by decide) hwd1 (fun _ h9 => h9) rfl dX6_mix_184 ?_
                    refine lv_bipush (v := nI 6) hx hb dX6_mix_187 (by decide) ?_
                    refine kn_iald hx hb hK hP 3 0 rfl rfl (i := 6) (by omega) (by decide) dX6_mix_189 ?_
                    refine kt_i (v' := (kRN (kSchN wd 48) sa i3) 6) (rfl) ?_
                    refine lv_iand hx hb dX6_mix_190 ?_
                    refine lv_ixor hx hb dX6_mix_191 ?_
                    refine lv_iadd hx hb dX6_mix_192 ?_
                    refine lv_aload_n hx hb dX6_mix_193 rfl (lv_at hl 2 rfl) ?_
                    refine va_get (D := D) (ci := 6) (v := .ref (r 0)) (C := RX6) (T := TX6) (N := 32) hx hb hts inX6 hown hK hP 0 rfl rfl 0 (by decide) hwd2 (fun _ h9 => h9) rfl dX6_mix_194 ?_
                    refine lv_iload_n hx hb dX6_mix_197 rfl (lv_at hl 3 rfl) ?_
                    refine kn_iald hx hb hK hP 1 0 rfl rfl (i := i3) (by omega) (by decide) dX6_mix_198 ?_
                    refine lv_iadd hx hb dX6_mix_199 ?_
                    refine lv_aload_n hx hb dX6_mix_200 rfl (lv_at hl 2 rfl) ?_
                    refine va_get (D := D) (ci := 6) (v := .ref (r 31)) (C := RX6) (T := TX6) (N := 32) hx hb hts inX6 hown hK hP 0 rfl rfl 31 (by decide) hwd3 (fun _ h9 => h9) rfl dX6_mix_201 ?_
                    refine lv_iload_n hx hb dX6_mix_204 rfl (lv_at hl 3 rfl) ?_
                    refine kn_iald hx hb hK hP 4 0 rfl rfl (i := i3) (by omega) (by decide) dX6_mix_205 ?_
                    refine lv_iadd hx hb dX6_mix_206 ?_
                    refine kt_i (v' := kT1 (kSchN wd 48) (kRN (kSchN wd 48) sa i3) i3) (rfl) ?_
                    refine lv_istore (lv' := [(4, .int (kT1 (kSchN wd 48) (kRN (kSchN wd 48) sa i3) i3)), (3, .int ((kRN (kSchN wd 48) sa i3) 0)), (2, .int ((kRN (kSchN wd 48) sa i3) 4)), (0, .ref h), (1, .int (nI i3))]) hx hb dX6_mix_207 hl (by decide) rfl (fun ls hl => ?_)
                    refine lv_iload_n hx hb dX6_mix_209 rfl (lv_at hl 1 rfl) ?_
                    refine lv_iconst (v := nI 2) hx hb dX6_mix_210 (by decide) ?_
                    refine kcS (As := [.int ((kRN (kSchN wd 48) sa i3) 0), .int (nI 2)]) (rest := []) (ws := []) (wr := [(h, .inr (6, [.ref (r 0), .int z1, .ref (r 2), .int z3, .int z4, .ref (r 5), .ref (r 6), .ref (r 7), .int z8, .ref (r 9), .ref (r 10), .ref (r 11), .ref (r 12), .ref (r 13), .ref (r 14), .ref (r 15), .ref (r 16), .ref (r 17), .ref (r 18), .ref (r 19), .ref (r 20), .ref (r 21), .int z22, .ref (r 23), .ref (r 24), .int z25, .ref (r 26), .ref (r 27), .ref (r 28), .ref (r 29), .ref (r 30), .ref (r 31)])), ((r 0), .inl (D.1 20, 64, .inl kRd)), ((r 29), .inl (D.1 20, 8, .inl sa)), ((r 30), .inl (D.1 20, 8, .inl (kSeg nw (kRN (kSchN wd 48) sa i3) 0 8))), ((r 31), .inl (D.1 20, 64, .inl (kSchN wd 48)))]) ⟨hx, hb, hml, hown, hts⟩ (c_X6_turn l D ((kRN (kSchN wd 48) sa i3) 0) (nI 2)) (va_cwS 2 hts gX6_mix_X6_turn rfl rfl rfl (by decide +kernel) ⟨Nat.le_of_ble_eq_true rfl, Nat.le_of_ble_eq_true rfl⟩) hK hE hP hD hS hA [] [0, 1, 2, 3, 4] rfl rfl rfl rfl (by decide) rfl hl.1 rfl (Nat.le_of_ble_eq_true rfl) dX6_mix_211 ⟨Nat.le_of_ble_eq_true rfl, Nat.le_of_ble_eq_true rfl⟩ (fun _ H locs hpo hP hD hS => ?_)
                    have hP : va_P D kC [(h, .inr (6, [.ref (r 0), .int z1, .ref (r 2), .int z3, .int z4, .ref (r 5), .ref (r 6), .ref (r 7), .int z8, .ref (r 9), .ref (r 10), .ref (r 11), .ref (r 12), .ref (r 13), .ref (r 14), .ref (r 15), .ref (r 16), .ref (r 17), .ref (r 18), .ref (r 19), .ref (r 20), .ref (r 21), .int z22, .ref (r 23), .ref (r 24), .int z25, .ref (r 26), .ref (r 27), .ref (r 28), .ref (r 29), .ref (r 30), .ref (r 31)])), ((r 0), .inl (D.1 20, 64, .inl kRd)), ((r 29), .inl (D.1 20, 8, .inl sa)), ((r 30), .inl (D.1 20, 8, .inl (kSeg nw (kRN (kSchN wd 48) sa i3) 0 8))), ((r 31), .inl (D.1 20, 64, .inl (kSchN wd 48)))] _ := hP
                    have hD : va_D A [(h, .inr (6, [.ref (r 0), .int z1, .ref (r 2), .int z3, .int z4, .ref (r 5), .ref (r 6), .ref (r 7), .int z8, .ref (r 9), .ref (r 10), .ref (r 11), .ref (r 12), .ref (r 13), .ref (r 14), .ref (r 15), .ref (r 16), .ref (r 17), .ref (r 18), .ref (r 19), .ref (r 20), .ref (r 21), .int z22, .ref (r 23), .ref (r 24), .int z25, .ref (r 26), .ref (r 27), .ref (r 28), .ref (r 29), .ref (r 30), .ref (r 31)])), ((r 0), .inl (D.1 20, 64, .inl kRd)), ((r 29), .inl (D.1 20, 8, .inl sa)), ((r 30), .inl (D.1 20, 8, .inl (kSeg nw (kRN (kSchN wd 48) sa i3) 0 8))), ((r 31), .inl (D.1 20, 64, .inl (kSchN wd 48)))] := hD
                    refine W.eq (g2 := F0 m 214 ls [.int (kRot ((kRN (kSchN wd 48) sa i3) 0) (nI 2))]) rfl ?_
                    refine W.widen (k := 0) (n := 0) (Nat.le_of_ble_eq_true rfl) (Nat.le_of_ble_eq_true rfl) ?_
                    refine lv_iload_n hx hb dX6_mix_214 rfl (lv_at hl 1 rfl) ?_
                    refine lv_bipush (v := nI 13) hx hb dX6_mix_215 (by decide) ?_
                    refine kcS (As := [.int ((kRN (kSchN wd 48) sa i3) 0), .int (nI 13)]) (rest := [.int (kRot ((kRN (kSchN wd 48) sa i3) 0) (nI 2))]) (ws := []) (wr := [(h, .inr (6, [.ref (r 0), .int z1, .ref (r 2), .int z3, .int z4, .ref (r 5), .ref (r 6), .ref (r 7), .int z8, .ref (r 9), .ref (r 10), .ref (r 11), .ref (r 12), .ref (r 13), .ref (r 14), .ref (r 15), .ref (r 16), .ref (r 17), .ref (r 18), .ref (r 19), .ref (r 20), .ref (r 21), .int z22, .ref (r 23), .ref (r 24), .int z25, .ref (r 26), .ref (r 27), .ref (r 28), .ref (r 29), .ref (r 30), .ref (r 31)])), ((r 0), .inl (D.1 20, 64, .inl kRd)), ((r 29), .inl (D.1 20, 8, .inl sa)), ((r 30), .inl (D.1 20, 8, .inl (kSeg nw (kRN (kSchN wd 48) sa i3) 0 8))), ((r 31), .inl (D.1 20, 64, .inl (kSchN wd 48)))]) ⟨hx, hb, hml, hown, hts⟩ (c_X6_turn l D ((kRN (kSchN wd 48) sa i3) 0) (nI 13)) (va_cwS 2 hts gX6_mix_X6_turn rfl rfl rfl (by decide +kernel) ⟨Nat.le_of_ble_eq_true rfl, Nat.le_of_ble_eq_true rfl⟩) hK hE hP hD hS hA [] [0, 1, 2, 3, 4] rfl rfl rfl rfl (by decide) rfl hl.1 rfl (Nat.le_of_ble_eq_true rfl) dX6_mix_217 ⟨Nat.le_of_ble_eq_true rfl, Nat.le_of_ble_eq_true rfl⟩ (fun _ H locs hpo hP hD hS => ?_)
                    have hP : va_P D kC [(h, .inr (6, [.ref (r 0), .int z1, .ref (r 2), .int z3, .int z4, .ref (r 5), .ref (r 6), .ref (r 7), .int z8, .ref (r 9), .ref (r 10), .ref (r 11), .ref (r 12), .ref (r 13), .ref (r 14), .ref (r 15), .ref (r 16), .ref (r 17), .ref (r 18), .ref (r 19), .ref (r 20), .ref (r 21), .int z22, .ref (r 23), .ref (r 24), .int z25, .ref (r 26), .ref (r 27), .ref (r 28), .ref (r 29), .ref (r 30), .ref (r 31)])), ((r 0), .inl (D.1 20, 64, .inl kRd)), ((r 29), .inl (D.1 20, 8, .inl sa)), ((r 30), .inl (D.1 20, 8, .inl (kSeg nw (kRN (kSchN wd 48) sa i3) 0 8))), ((r 31), .inl (D.1 20, 64, .inl (kSchN wd 48)))] _ := hP
                    have hD : va_D A [(h, .inr (6, [.ref (r 0), .int z1, .ref (r 2), .int z3, .int z4, .ref (r 5), .ref (r 6), .ref (r 7), .int z8, .ref (r 9), .ref (r 10), .ref (r 11), .ref (r 12), .ref (r 13), .ref (r 14), .ref (r 15), .ref (r 16), .ref (r 17), .ref (r 18), .ref (r 19), .ref (r 20), .ref (r 21), .int z22, .ref (r 23), .ref (r 24), .int z25, .ref (r 26), .ref (r 27), .ref (r 28), .ref (r 29), .ref (r 30), .ref (r 31)])), ((r 0), .inl (D.1 20, 64, .inl kRd)), ((r 29), .inl (D.1 20, 8, .inl sa)), ((r 30), .inl (D.1 20, 8, .inl (kSeg nw (kRN (kSchN wd 48) sa i3) 0 8))), ((r 31), .inl (D.1 20, 64, .inl (kSchN wd 48)))] := hD
                    refine W.eq (g2 := F0 m 220 ls [.int (kRot ((kRN (kSchN wd 48) sa i3) 0) (nI 13)), .int (kRot ((kRN (kSchN wd 48) sa i3) 0) (nI 2))]) rfl ?_
                    refine W.widen (k := 0) (n := 0) (Nat.le_of_ble_eq_true rfl) (Nat.le_of_ble_eq_true rfl) ?_
                    refine lv_ixor hx hb dX6_mix_220 ?_
                    refine lv_iload_n hx hb dX6_mix_221 rfl (lv_at hl 1 rfl) ?_
                    refine lv_bipush (v := nI 22) hx hb dX6_mix_222 (by decide) ?_
                    refine kcS (As := [.int ((kRN (kSchN wd 48) sa i3) 0), .int (nI 22)]) (rest := [.int ((kRot ((kRN (kSchN wd 48) sa i3) 0) (nI 2)) ^^^ (kRot ((kRN (kSchN wd 48) sa i3) 0) (nI 13)))]) (ws := []) (wr := [(h, .inr (6, [.ref (r 0), .int z1, .ref (r 2), .int z3, .int z4, .ref (r 5), .ref (r 6), .ref (r 7), .int z8, .ref (r 9), .ref (r 10), .ref (r 11), .ref (r 12), .ref (r 13), .ref (r 14), .ref (r 15), .ref (r 16), .ref (r 17), .ref (r 18), .ref (r 19), .ref (r 20), .ref (r 21), .int z22, .ref (r 23), .ref (r 24), .int z25, .ref (r 26), .ref (r 27), .ref (r 28), .ref (r 29), .ref (r 30), .ref (r 31)])), ((r 0), .inl (D.1 20, 64, .inl kRd)), ((r 29), .inl (D.1 20, 8, .inl sa)), ((r 30), .inl (D.1 20, 8, .inl (kSeg nw (kRN (kSchN wd 48) sa i3) 0 8))), ((r 31), .inl (D.1 20, 64, .inl (kSchN wd 48)))]) ⟨hx, hb, hml, hown, hts⟩ (c_X6_turn l D ((kRN (kSchN wd 48) sa i3) 0) (nI 22)) (va_cwS 2 hts gX6_mix_X6_turn rfl rfl rfl (by decide +kernel) ⟨Nat.le_of_ble_eq_true rfl, Nat.le_of_ble_eq_true rfl⟩) hK hE hP hD hS hA [] [0, 1, 2, 3, 4] rfl rfl rfl rfl (by decide) rfl hl.1 rfl (Nat.le_of_ble_eq_true rfl) dX6_mix_224 ⟨Nat.le_of_ble_eq_true rfl, Nat.le_of_ble_eq_true rfl⟩ (fun _ H locs hpo hP hD hS => ?_)
                    have hP : va_P D kC [(h, .inr (6, [.ref (r 0), .int z1, .ref (r 2), .int z3, .int z4, .ref (r 5), .ref (r 6), .ref (r 7), .int z8, .ref (r 9), .ref (r 10), .ref (r 11), .ref (r 12), .ref (r 13), .ref (r 14), .ref (r 15), .ref (r 16), .ref (r 17), .ref (r 18), .ref (r 19), .ref (r 20), .ref (r 21), .int z22, .ref (r 23), .ref (r 24), .int z25, .ref (r 26), .ref (r 27), .ref (r 28), .ref (r 29), .ref (r 30), .ref (r 31)])), ((r 0), .inl (D.1 20, 64, .inl kRd)), ((r 29), .inl (D.1 20, 8, .inl sa)), ((r 30), .inl (D.1 20, 8, .inl (kSeg nw (kRN (kSchN wd 48) sa i3) 0 8))), ((r 31), .inl (D.1 20, 64, .inl (kSchN wd 48)))] _ := hP
                    have hD : va_D A [(h, .inr (6, [.ref (r 0), .int z1, .ref (r 2), .int z3, .int z4, .ref (r 5), .ref (r 6), .ref (r 7), .int z8, .ref (r 9), .ref (r 10), .ref (r 11), .ref (r 12), .ref (r 13), .ref (r 14), .ref (r 15), .ref (r 16), .ref (r 17), .ref (r 18), .ref (r 19), .ref (r 20), .ref (r 21), .int z22, .ref (r 23), .ref (r 24), .int z25, .ref (r 26), .ref (r 27), .ref (r 28), .ref (r 29), .ref (r 30), .ref (r 31)])), ((r 0), .inl (D.1 20, 64, .inl kRd)), ((r 29), .inl (D.1 20, 8, .inl sa)), ((r 30), .inl (D.1 20, 8, .inl (kSeg nw (kRN (kSchN wd 48) sa i3) 0 8))), ((r 31), .inl (D.1 20, 64, .inl (kSchN wd 48)))] := hD
                    refine W.eq (g2 := F0 m 227 ls [.int (kRot ((kRN (kSchN wd 48) sa i3) 0) (nI 22)), .int ((kRot ((kRN (kSchN wd 48) sa i3) 0) (nI 2)) ^^^ (kRot ((kRN (kSchN wd 48) sa i3) 0) (nI 13)))]) rfl ?_
                    refine W.widen (k := 0) (n := 0) (Nat.le_of_ble_eq_true rfl) (Nat.le_of_ble_eq_true rfl) ?_
                    refine lv_ixor hx hb dX6_mix_227 ?_
                    refine lv_iload_n hx hb dX6_mix_228 rfl (lv_at hl 1 rfl) ?_
                    refine lv_aload_n hx hb dX6_mix_229 rfl (lv_at hl 3 rfl) ?_
                    refine va_get (D := D) (ci := 6) (v := .ref (r 30)) (C := RX6) (T := TX6) (N := 32) hx hb hts inX6 hown hK hP 0 rfl rfl 30 (by decide) hwd1 (fun _ h9 => h9) rfl dX6_mix_230 ?_
                    refine lv_iconst (v := nI 1) hx hb dX6_mix_233 (by decide) ?_
                    refine kn_iald hx hb hK hP 3 0 rfl rfl (i := 1) (by omega) (by decide) dX6_mix_234 ?_
                    refine kt_i (v' := (kRN (kSchN wd 48) sa i3) 1) (rfl) ?_
                    refine lv_iand hx hb dX6_mix_235 ?_
                    refine lv_iload_n hx hb dX6_mix_236 rfl (lv_at hl 1 rfl) ?_
                    refine lv_aload_n hx hb dX6_mix_237 rfl (lv_at hl 3 rfl) ?_
                    refine va_get (D := D) (ci := 6) (v := .ref (r 30)) (C := RX6) (T := TX6) (N := 32) hx hb hts inX6 hown hK hP 0 rfl rfl 30 (by decide) hwd1 (fun _ h9 => h9) rfl dX6_mix_238 ?_
                    refine lv_iconst (v := nI 2) hx hb dX6_mix_241 (by decide) ?_
                    refine kn_iald hx hb hK hP 3 0 rfl rfl (i := 2) (by omega) (by decide) dX6_mix_242 ?_
                    refine kt_i (v' := (kRN (kSchN wd 48) sa i3) 2) (rfl) ?_
                    refine lv_iand hx hb dX6_mix_243 ?_
                    refine lv_ixor hx hb dX6_mix_244 ?_
                    refine lv_aload_n hx hb dX6_mix_245 rfl (lv_at hl 3 rfl) ?_
                    refine va_get (D := D) (ci := 6) (v := .ref (r 30)) (C := RX6) (T := TX6) (N := 32) hx hb hts inX6 hown hK hP 0 rfl rfl 30 (by decide) hwd1 (fun _ h9 => h9) rfl dX6_mix_246 ?_
                    refine lv_iconst (v := nI 1) hx hb dX6_mix_249 (by decide) ?_
                    refine kn_iald hx hb hK hP 3 0 rfl rfl (i := 1) (by omega) (by decide) dX6_mix_250 ?_
                    refine kt_i (v' := (kRN (kSchN wd 48) sa i3) 1) (rfl) ?_
                    refine lv_aload_n hx hb dX6_mix_251 rfl (lv_at hl 3 rfl) ?_
                    refine va_get (D := D) (ci := 6) (v := .ref (r 30)) (C := RX6) (T := TX6) (N := 32) hx hb hts inX6 hown hK hP 0 rfl rfl 30 (by decide) hwd1 (fun _ h9 => h9) rfl dX6_mix_252 ?_
                    refine lv_iconst (v := nI 2) hx hb dX6_mix_255 (by decide) ?_
                    refine kn_iald hx hb hK hP 3 0 rfl rfl (i := 2) (by omega) (by decide) dX6_mix_256 ?_
                    refine kt_i (v' := (kRN (kSchN wd 48) sa i3) 2) (rfl) ?_
                    refine lv_iand hx hb dX6_mix_257 ?_
                    refine lv_ixor hx hb dX6_mix_258 ?_
                    refine lv_iadd hx hb dX6_mix_259 ?_
                    refine kt_i (v' := kT2 (kRN (kSchN wd 48) sa i3)) (rfl) ?_
                    refine lv_istore (lv' := [(5, .int (kT2 (kRN (kSchN wd 48) sa i3))), (4, .int (kT1 (kSchN wd 48) (kRN (kSchN wd 48) sa i3) i3)), (3, .int ((kRN (kSchN wd 48) sa i3) 0)), (2, .int ((kRN (kSchN wd 48) sa i3) 4)), (0, .ref h), (1, .int (nI i3))]) hx hb dX6_mix_260 hl (by decide) rfl (fun ls hl => ?_)
                    refine lv_bipush (v := nI 7) hx hb dX6_mix_262 (by decide) ?_
                    refine lv_istore (lv' := [(6, .int (nI 7)), (5, .int (kT2 (kRN (kSchN wd 48) sa i3))), (4, .int (kT1 (kSchN wd 48) (kRN (kSchN wd 48) sa i3) i3)), (3, .int ((kRN (kSchN wd 48) sa i3) 0)), (2, .int ((kRN (kSchN wd 48) sa i3) 4)), (0, .ref h), (1, .int (nI i3))]) hx hb dX6_mix_264 hl (by decide) rfl (fun ls hl => ?_)
                    have ls9 : ∀ fu4 : Nat, ∀ (i4 : Nat), (i4 ≤ 7) → (i4 + 1 ≤ fu4) → ∀ (H : Heap) (locs : List Loc), va_P D kC [(h, .inr (6, [.ref (r 0), .int z1, .ref (r 2), .int z3, .int z4, .ref (r 5), .ref (r 6), .ref (r 7), .int z8, .ref (r 9), .ref (r 10), .ref (r 11), .ref (r 12), .ref (r 13), .ref (r 14), .ref (r 15), .ref (r 16), .ref (r 17), .ref (r 18), .ref (r 19), .ref (r 20), .ref (r 21), .int z22, .ref (r 23), .ref (r 24), .int z25, .ref (r 26), .ref (r 27), .ref (r 28), .ref (r 29), .ref (r 30), .ref (r 31)])), ((r 0), .inl (D.1 20, 64, .inl kRd)), ((r 29), .inl (D.1 20, 8, .inl sa)), ((r 30), .inl (D.1 20, 8, .inl (kSeg (kSeg nw (kRN (kSchN wd 48) sa i3) 0 8) (fun j => kSeg nw (kRN (kSchN wd 48) sa i3) 0 8 (j - 1)) (i4 + 1) 8))), ((r 31), .inl (D.1 20, 64, .inl (kSchN wd 48)))] H → va_D A [(h, .inr (6, [.ref (r 0), .int z1, .ref (r 2), .int z3, .int z4, .ref (r 5), .ref (r 6), .ref (r 7), .int z8, .ref (r 9), .ref (r 10), .ref (r 11), .ref (r 12), .ref (r 13), .ref (r 14), .ref (r 15), .ref (r 16), .ref (r 17), .ref (r 18), .ref (r 19), .ref (r 20), .ref (r 21), .int z22, .ref (r 23), .ref (r 24), .int z25, .ref (r 26), .ref (r 27), .ref (r 28), .ref (r 29), .ref (r 30), .ref (r 31)])), ((r 0), .inl (D.1 20, 64, .inl kRd)), ((r 29), .inl (D.1 20, 8, .inl sa)), ((r 30), .inl (D.1 20, 8, .inl (kSeg (kSeg nw (kRN (kSchN wd 48) sa i3) 0 8) (fun j => kSeg nw (kRN (kSchN wd 48) sa i3) 0 8 (j - 1)) (i4 + 1) 8))), ((r 31), .inl (D.1 20, 64, .inl (kSchN wd 48)))] → va_S A s.heap H locs → ∀ (ls : Array Slot), lv_has ls 7 [(0, .ref h), (1, .int (nI i3)), (4, .int (kT1 (kSchN wd 48) (kRN (kSchN wd 48) sa i3) i3)), (5, .int (kT2 (kRN (kSchN wd 48) sa i3))), (6, .int (nI i4))] → W p l e (headSpec wsX6_mix ({ frames := 8, cells := 0, slots := 0, locals := 160 })).room s m #[Value.ref h] below meth c H locs 0 0 Q (F0 m 266 ls []) := by
                      intro fu4
                      induction fu4 with
                      | zero =>
                        intro i4 h4 hf4 H locs hP hD hS ls hl
                        exfalso; omega
                      | succ fu4 ih_ls9 =>
                        intro i4 h4 hf4 H locs hP hD hS ls hl
                        refine lv_iload hx hb dX6_mix_266 (lv_at hl 4 rfl) ?_
                        refine kn_if_le (tgt := 293) hx hb (by omega) dX6_mix_268 (by decide) (fun c_268 => ?_) (fun c_268 => ?_)
                        · have ev : i4 = 0 := by omega
                          subst ev
                          refine lv_aload_n hx hb dX6_mix_293 rfl (lv_at hl 0 rfl) ?_
                          refine va_get (D := D) (ci := 6) (v := .ref (r 30)) (C := RX6) (T := TX6) (N := 32) hx hb hts inX6 hown hK hP 0 rfl rfl 30 (by decide) hwd1 (fun _ h9 => h9) rfl dX6_mix_294 ?_
                          refine lv_iconst (v := nI 4) hx hb dX6_mix_297 (by decide) ?_
                          refine lv_aload_n hx hb dX6_mix_298 rfl (lv_at hl 0 rfl) ?_
                          refine va_get (D := D) (ci := 6) (v := .ref (r 30)) (C := RX6) (T := TX6) (N := 32) hx hb hts inX6 hown hK hP 0 rfl rfl 30 (by decide) hwd1 (fun _ h9 => h9) rfl dX6_mix_299 ?_
                          refine lv_iconst (v := nI 4) hx hb dX6_mix_302 (by decide) ?_
                          refine kn_iald hx hb hK hP 3 0 rfl rfl (i := 4) (by omega) (by decide) dX6_mix_303 ?_
                          refine kt_i (v' := (kRN (kSchN wd 48) sa i3) 3) (rfl) ?_
                          refine lv_iload hx hb dX6_mix_304 (lv_at hl 2 rfl) ?_
                          refine lv_iadd hx hb dX6_mix_306 ?_
                          refine kn_iast hx hb hK hP hD hS 3 0 rfl rfl (i := 4) (by omega) (by decide) dX6_mix_307 (fun H locs hP hD hS => ?_)
                          have hP : va_P D kC [(h, .inr (6, [.ref (r 0), .int z1, .ref (r 2), .int z3, .int z4, .ref (r 5), .ref (r 6), .ref (r 7), .int z8, .ref (r 9), .ref (r 10), .ref (r 11), .ref (r 12), .ref (r 13), .ref (r 14), .ref (r 15), .ref (r 16), .ref (r 17), .ref (r 18), .ref (r 19), .ref (r 20), .ref (r 21), .int z22, .ref (r 23), .ref (r 24), .int z25, .ref (r 26), .ref (r 27), .ref (r 28), .ref (r 29), .ref (r 30), .ref (r 31)])), ((r 0), .inl (D.1 20, 64, .inl kRd)), ((r 29), .inl (D.1 20, 8, .inl sa)), ((r 30), .inl (D.1 20, 8, .inl (upd (kSeg (kSeg nw (kRN (kSchN wd 48) sa i3) 0 8) (fun j => kSeg nw (kRN (kSchN wd 48) sa i3) 0 8 (j - 1)) (0 + 1) 8) 4 (((kRN (kSchN wd 48) sa i3) 3) + (kT1 (kSchN wd 48) (kRN (kSchN wd 48) sa i3) i3))))), ((r 31), .inl (D.1 20, 64, .inl (kSchN wd 48)))] _ := hP
                          have hD : va_D A [(h, .inr (6, [.ref (r 0), .int z1, .ref (r 2), .int z3, .int z4, .ref (r 5), .ref (r 6), .ref (r 7), .int z8, .ref (r 9), .ref (r 10), .ref (r 11), .ref (r 12), .ref (r 13), .ref (r 14), .ref (r 15), .ref (r 16), .ref (r 17), .ref (r 18), .ref (r 19), .ref (r 20), .ref (r 21), .int z22, .ref (r 23), .ref (r 24), .int z25, .ref (r 26), .ref (r 27), .ref (r 28), .ref (r 29), .ref (r 30), .ref (r 31)])), ((r 0), .inl (D.1 20, 64, .inl kRd)), ((r 29), .inl (D.1 20, 8, .inl sa)), ((r 30), .inl (D.1 20, 8, .inl (upd (kSeg (kSeg nw (kRN (kSchN wd 48) sa i3) 0 8) (fun j => kSeg nw (kRN (kSchN wd 48) sa i3) 0 8 (j - 1)) (0 + 1) 8) 4 (((kRN (kSchN wd 48) sa i3) 3) + (kT1 (kSchN wd 48) (kRN (kSchN wd 48) sa i3) i3))))), ((r 31), .inl (D.1 20, 64, .inl (kSchN wd 48)))] := hD
                          refine lv_aload_n hx hb dX6_mix_308 rfl (lv_at hl 0 rfl) ?_
                          refine va_get (D := D) (ci := 6) (v := .ref (r 30)) (C := RX6) (T := TX6) (N := 32) hx hb hts inX6 hown hK hP 0 rfl rfl 30 (by decide) hwd1 (fun _ h9 => h9) rfl dX6_mix_309 ?_
                          refine lv_iconst (v := nI 0) hx hb dX6_mix_312 (by decide) ?_
                          refine lv_iload hx hb dX6_mix_313 (lv_at hl 2 rfl) ?_
                          refine lv_iload hx hb dX6_mix_315 (lv_at hl 3 rfl) ?_
                          refine lv_iadd hx hb dX6_mix_317 ?_
                          refine kn_iast hx hb hK hP hD hS 3 0 rfl rfl (i := 0) (by omega) (by decide) dX6_mix_318 (fun H locs hP hD hS => ?_)
                          have hP : va_P D kC [(h, .inr (6, [.ref (r 0), .int z1, .ref (r 2), .int z3, .int z4, .ref (r 5), .ref (r 6), .ref (r 7), .int z8, .ref (r 9), .ref (r 10), .ref (r 11), .ref (r 12), .ref (r 13), .ref (r 14), .ref (r 15), .ref (r 16), .ref (r 17), .ref (r 18), .ref (r 19), .ref (r 20), .ref (r 21), .int z22, .ref (r 23), .ref (r 24), .int z25, .ref (r 26), .ref (r 27), .ref (r 28), .ref (r 29), .ref (r 30), .ref (r 31)])), ((r 0), .inl (D.1 20, 64, .inl kRd)), ((r 29), .inl (D.1 20, 8, .inl sa)), ((r 30), .inl (D.1 20, 8, .inl (upd (upd (kSeg (kSeg nw (kRN (kSchN wd 48) sa i3) 0 8) (fun j => kSeg nw (kRN (kSchN wd 48) sa i3) 0 8 (j - 1)) (0 + 1) 8) 4 (((kRN (kSchN wd 48) sa i3) 3) + (kT1 (kSchN wd 48) (kRN (kSchN wd 48) sa i3) i3))) 0 ((kT1 (kSchN wd 48) (kRN (kSchN wd 48) sa i3) i3) + (kT2 (kRN (kSchN wd 48) sa i3)))))), ((r 31), .inl (D.1 20, 64, .inl (kSchN wd 48)))] _ := hP
                          have hD : va_D A [(h, .inr (6, [.ref (r 0), .int z1, .ref (r 2), .int z3, .int z4, .ref (r 5), .ref (r 6), .ref (r 7), .int z8, .ref (r 9), .ref (r 10), .ref (r 11), .ref (r 12), .ref (r 13), .ref (r 14), .ref (r 15), .ref (r 16), .ref (r 17), .ref (r 18), .ref (r 19), .ref (r 20), .ref (r 21), .int z22, .ref (r 23), .ref (r 24), .int z25, .ref (r 26), .ref (r 27), .ref (r 28), .ref (r 29), .ref (r 30), .ref (r 31)])), ((r 0), .inl (D.1 20, 64, .inl kRd)), ((r 29), .inl (D.1 20, 8, .inl sa)), ((r 30), .inl (D.1 20, 8, .inl (upd (upd (kSeg (kSeg nw (kRN (kSchN wd 48) sa i3) 0 8) (fun j => kSeg nw (kRN (kSchN wd 48) sa i3) 0 8 (j - 1)) (0 + 1) 8) 4 (((kRN (kSchN wd 48) sa i3) 3) + (kT1 (kSchN wd 48) (kRN (kSchN wd 48) sa i3) i3))) 0 ((kT1 (kSchN wd 48) (kRN (kSchN wd 48) sa i3) i3) + (kT2 (kRN (kSchN wd 48) sa i3)))))), ((r 31), .inl (D.1 20, 64, .inl (kSchN wd 48)))] := hD
                          have ef23 : upd (upd (kSeg (kSeg nw (kRN (kSchN wd 48) sa i3) 0 8) (fun j => kSeg nw (kRN (kSchN wd 48) sa i3) 0 8 (j - 1)) (0 + 1) 8) 4 (((kRN (kSchN wd 48) sa i3) 3) + (kT1 (kSchN wd 48) (kRN (kSchN wd 48) sa i3) i3))) 0 ((kT1 (kSchN wd 48) (kRN (kSchN wd 48) sa i3) i3) + (kT2 (kRN (kSchN wd 48) sa i3))) = kSeg nw (kRN (kSchN wd 48) sa (i3 + 1)) 0 8 := k_shift nw (kRN (kSchN wd 48) sa i3) _ _ (kSchN wd 48) i3 rfl rfl
                          rw [ef23] at hP hD
                          refine lv_iinc (v := nI (i3 + 1)) (lv' := [(1, .int (nI (i3 + 1))), (0, .ref h), (4, .int (kT1 (kSchN wd 48) (kRN (kSchN wd 48) sa i3) i3)), (5, .int (kT2 (kRN (kSchN wd 48) sa i3))), (6, .int (nI 0))]) hx hb dX6_mix_319 hl (k := 1) rfl (nI_1 _) (by decide) rfl (fun ls hl => ?_)
                          refine lv_goto (tgt := 124) hx hb dX6_mix_322 (by decide) ?_
                          exact ih_lr (i3 + 1) (by omega) (by omega) _ _ hP hD hS ls (lv_sub hl [1, 0] rfl)
                        · refine lv_aload_n hx hb dX6_mix_271 rfl (lv_at hl 0 rfl) ?_
                          refine va_get (D := D) (ci := 6) (v := .ref (r 30)) (C := RX6) (T := TX6) (N := 32) hx hb hts inX6 hown hK hP 0 rfl rfl 30 (by decide) hwd1 (fun _ h9 => h9) rfl dX6_mix_272 ?_
                          refine lv_iload hx hb dX6_mix_275 (lv_at hl 4 rfl) ?_
                          refine lv_aload_n hx hb dX6_mix_277 rfl (lv_at hl 0 rfl) ?_
                          refine va_get (D := D) (ci := 6) (v := .ref (r 30)) (C := RX6) (T := TX6) (N := 32) hx hb hts inX6 hown hK hP 0 rfl rfl 30 (by decide) hwd1 (fun _ h9 => h9) rfl dX6_mix_278 ?_
                          refine lv_iload hx hb dX6_mix_281 (lv_at hl 4 rfl) ?_
                          refine lv_iconst (v := nI 1) hx hb dX6_mix_283 (by decide) ?_
                          refine kn_isub hx hb (by omega) dX6_mix_284 ?_
                          refine kn_iald hx hb hK hP 3 0 rfl rfl (i := i4 - 1) (by omega) (by decide) dX6_mix_285 ?_
                          refine kn_iast hx hb hK hP hD hS 3 0 rfl rfl (i := i4) (by omega) (by decide) dX6_mix_286 (fun H locs hP hD hS => ?_)
                          have hP : va_P D kC [(h, .inr (6, [.ref (r 0), .int z1, .ref (r 2), .int z3, .int z4, .ref (r 5), .ref (r 6), .ref (r 7), .int z8, .ref (r 9), .ref (r 10), .ref (r 11), .ref (r 12), .ref (r 13), .ref (r 14), .ref (r 15), .ref (r 16), .ref (r 17), .ref (r 18), .ref (r 19), .ref (r 20), .ref (r 21), .int z22, .ref (r 23), .ref (r 24), .int z25, .ref (r 26), .ref (r 27), .ref (r 28), .ref (r 29), .ref (r 30), .ref (r 31)])), ((r 0), .inl (D.1 20, 64, .inl kRd)), ((r 29), .inl (D.1 20, 8, .inl sa)), ((r 30), .inl (D.1 20, 8, .inl (upd (kSeg (kSeg nw (kRN (kSchN wd 48) sa i3) 0 8) (fun j => kSeg nw (kRN (kSchN wd 48) sa i3) 0 8 (j - 1)) (i4 + 1) 8) i4 ((kSeg (kSeg nw (kRN (kSchN wd 48) sa i3) 0 8) (fun j => kSeg nw (kRN (kSchN wd 48) sa i3) 0 8 (j - 1)) (i4 + 1) 8) (i4 - 1))))), ((r 31), .inl (D.1 20, 64, .inl (kSchN wd 48)))] _ := hP
                          have hD : va_D A [(h, .inr (6, [.ref (r 0), .int z1, .ref (r 2), .int z3, .int z4, .ref (r 5), .ref (r 6), .ref (r 7), .int z8, .ref (r 9), .ref (r 10), .ref (r 11), .ref (r 12), .ref (r 13), .ref (r 14), .ref (r 15), .ref (r 16), .ref (r 17), .ref (r 18), .ref (r 19), .ref (r 20), .ref (r 21), .int z22, .ref (r 23), .ref (r 24), .int z25, .ref (r 26), .ref (r 27), .ref (r 28), .ref (r 29), .ref (r 30), .ref (r 31)])), ((r 0), .inl (D.1 20, 64, .inl kRd)), ((r 29), .inl (D.1 20, 8, .inl sa)), ((r 30), .inl (D.1 20, 8, .inl (upd (kSeg (kSeg nw (kRN (kSchN wd 48) sa i3) 0 8) (fun j => kSeg nw (kRN (kSchN wd 48) sa i3) 0 8 (j - 1)) (i4 + 1) 8) i4 ((kSeg (kSeg nw (kRN (kSchN wd 48) sa i3) 0 8) (fun j => kSeg nw (kRN (kSchN wd 48) sa i3) 0 8 (j - 1)) (i4 + 1) 8) (i4 - 1))))), ((r 31), .inl (D.1 20, 64, .inl (kSchN wd 48)))] := hD
                          have ef24 : upd (kSeg (kSeg nw (kRN (kSchN wd 48) sa i3) 0 8) (fun j => kSeg nw (kRN (kSchN wd 48) sa i3) 0 8 (j - 1)) (i4 + 1) 8) i4 ((kSeg (kSeg nw (kRN (kSchN wd 48) sa i3) 0 8) (fun j => kSeg nw (kRN (kSchN wd 48) sa i3) 0 8 (j - 1)) (i4 + 1) 8) (i4 - 1)) = kSeg (kSeg nw (kRN (kSchN wd 48) sa i3) 0 8) (fun j => kSeg nw (kRN (kSchN wd 48) sa i3) 0 8 (j - 1)) i4 8 := kSeg_dn (by omega) (by show kSeg (kSeg nw (kRN (kSchN wd 48) sa i3) 0 8) (fun j => kSeg nw (kRN (kSchN wd 48) sa i3) 0 8 (j - 1)) (i4 + 1) 8 (i4 - 1) = _; rw [kSeg_out (by omega)])
                          rw [ef24] at hP hD
                          have ef25 : kSeg (kSeg nw (kRN (kSchN wd 48) sa i3) 0 8) (fun j => kSeg nw (kRN (kSchN wd 48) sa i3) 0 8 (j - 1)) i4 8 = kSeg (kSeg nw (kRN (kSchN wd 48) sa i3) 0 8) (fun j => kSeg nw (kRN (kSchN wd 48) sa i3) 0 8 (j - 1)) (i4 - 1 + 1) 8 := by rw [Nat.sub_add_cancel c_268]
                          rw [ef25] at hP hD
                          refine lv_iinc (v := nI (i4 - 1)) (lv' := [(6, .int (nI (i4 - 1))), (0, .ref h), (1, .int (nI i3)), (4, .int (kT1 (kSchN wd 48) (kRN (kSchN wd 48) sa i3) i3)), (5, .int (kT2 (kRN (kSchN wd 48) sa i3)))]) hx hb dX6_mix_287 hl (k := 4) rfl (kn_dec (by omega)) (by decide) rfl (fun ls hl => ?_)
                          refine lv_goto (tgt := 266) hx hb dX6_mix_290 (by decide) ?_
                          exact ih_ls9 (i4 - 1) (by omega) (by omega) _ _ hP hD hS ls (lv_sub hl [1, 2, 3, 4, 0] rfl)
                    exact ls9 8 7 (by omega) (by omega) _ _ (by rw [kSeg_0]; exact hP) (by rw [kSeg_0]; exact hD) hS ls (lv_sub hl [5, 6, 2, 1, 0] rfl)
              exact lr 65 0 (by omega) (by omega) _ _ hP hD hS ls (lv_sub hl [1, 0] rfl)
            · refine lv_aload_n hx hb dX6_mix_104 rfl (lv_at hl 0 rfl) ?_
              refine va_get (D := D) (ci := 6) (v := .ref (r 30)) (C := RX6) (T := TX6) (N := 32) hx hb hts inX6 hown hK hP 0 rfl rfl 30 (by decide) hwd1 (fun _ h9 => h9) rfl dX6_mix_105 ?_
              refine lv_iload_n hx hb dX6_mix_108 rfl (lv_at hl 1 rfl) ?_
              refine lv_aload_n hx hb dX6_mix_109 rfl (lv_at hl 0 rfl) ?_
              refine va_get (D := D) (ci := 6) (v := .ref (r 29)) (C := RX6) (T := TX6) (N := 32) hx hb hts inX6 hown hK hP 0 rfl rfl 29 (by decide) hwd0 (fun _ h9 => h9) rfl dX6_mix_110 ?_
              refine lv_iload_n hx hb dX6_mix_113 rfl (lv_at hl 1 rfl) ?_
              refine kn_iald hx hb hK hP 2 0 rfl rfl (i := i2) (by omega) (by decide) dX6_mix_114 ?_
              refine kn_iast hx hb hK hP hD hS 3 0 rfl rfl (i := i2) (by omega) (by decide) dX6_mix_115 (fun H locs hP hD hS => ?_)
              have hP : va_P D kC [(h, .inr (6, [.ref (r 0), .int z1, .ref (r 2), .int z3, .int z4, .ref (r 5), .ref (r 6), .ref (r 7), .int z8, .ref (r 9), .ref (r 10), .ref (r 11), .ref (r 12), .ref (r 13), .ref (r 14), .ref (r 15), .ref (r 16), .ref (r 17), .ref (r 18), .ref (r 19), .ref (r 20), .ref (r 21), .int z22, .ref (r 23), .ref (r 24), .int z25, .ref (r 26), .ref (r 27), .ref (r 28), .ref (r 29), .ref (r 30), .ref (r 31)])), ((r 0), .inl (D.1 20, 64, .inl kRd)), ((r 29), .inl (D.1 20, 8, .inl sa)), ((r 30), .inl (D.1 20, 8, .inl (upd (kSeg nw sa 0 i2) i2 (sa i2)))), ((r 31), .inl (D.1 20, 64, .inl (kSchN wd 48)))] _ := hP
              have hD : va_D A [(h, .inr (6, [.ref (r 0), .int z1, .ref (r 2), .int z3, .int z4, .ref (r 5), .ref (r 6), .ref (r 7), .int z8, .ref (r 9), .ref (r 10), .ref (r 11), .ref (r 12), .ref (r 13), .ref (r 14), .ref (r 15), .ref (r 16), .ref (r 17), .ref (r 18), .ref (r 19), .ref (r 20), .ref (r 21), .int z22, .ref (r 23), .ref (r 24), .int z25, .ref (r 26), .ref (r 27), .ref (r 28), .ref (r 29), .ref (r 30), .ref (r 31)])), ((r 0), .inl (D.1 20, 64, .inl kRd)), ((r 29), .inl (D.1 20, 8, .inl sa)), ((r 30), .inl (D.1 20, 8, .inl (upd (kSeg nw sa 0 i2) i2 (sa i2)))), ((r 31), .inl (D.1 20, 64, .inl (kSchN wd 48)))] := hD
              have ef26 : upd (kSeg nw sa 0 i2) i2 (sa i2) = kSeg nw sa 0 (i2 + 1) := kSeg_up (Nat.zero_le _) rfl
              rw [ef26] at hP hD
              refine lv_iinc (v := nI (i2 + 1)) (lv' := [(1, .int (nI (i2 + 1))), (0, .ref h)]) hx hb dX6_mix_116 hl (k := 1) rfl (nI_1 _) (by decide) rfl (fun ls hl => ?_)
              refine lv_goto (tgt := 98) hx hb dX6_mix_119 (by decide) ?_
              exact ih_lb (i2 + 1) (by omega) (by omega) _ _ hP hD hS ls (lv_sub hl [1, 0] rfl)
        exact lb 9 0 (by omega) (by omega) _ _ (by rw [kSeg_0]; exact hP) (by rw [kSeg_0]; exact hD) hS ls (lv_sub hl [1, 0] rfl)
      · refine lv_aload_n hx hb dX6_mix_9 rfl (lv_at hl 0 rfl) ?_
        refine va_get (D := D) (ci := 6) (v := .ref (r 31)) (C := RX6) (T := TX6) (N := 32) hx hb hts inX6 hown hK hP 0 rfl rfl 31 (by decide) hwd3 (fun _ h9 => h9) rfl dX6_mix_10 ?_
        refine lv_iload_n hx hb dX6_mix_13 rfl (lv_at hl 1 rfl) ?_
        refine lv_bipush (v := nI 15) hx hb dX6_mix_14 (by decide) ?_
        refine kn_isub hx hb (by omega) dX6_mix_16 ?_
        refine kn_iald hx hb hK hP 4 0 rfl rfl (i := 16 + i1 - 15) (by omega) (by decide) dX6_mix_17 ?_
        refine lv_istore_n (lv' := [(2, .int ((kSchN wd i1) (16 + i1 - 15))), (0, .ref h), (1, .int (nI (16 + i1)))]) hx hb dX6_mix_18 rfl hl (by decide) rfl (fun ls hl => ?_)
        refine lv_aload_n hx hb dX6_mix_19 rfl (lv_at hl 1 rfl) ?_
        refine va_get (D := D) (ci := 6) (v := .ref (r 31)) (C := RX6) (T := TX6) (N := 32) hx hb hts inX6 hown hK hP 0 rfl rfl 31 (by decide) hwd3 (fun _ h9 => h9) rfl dX6_mix_20 ?_
        refine lv_iload_n hx hb dX6_mix_23 rfl (lv_at hl 2 rfl) ?_
        refine lv_iconst (v := nI 2) hx hb dX6_mix_24 (by decide) ?_
        refine kn_isub hx hb (by omega) dX6_mix_25 ?_
        refine kn_iald hx hb hK hP 4 0 rfl rfl (i := 16 + i1 - 2) (by omega) (by decide) dX6_mix_26 ?_
        refine lv_istore_n (lv' := [(3, .int ((kSchN wd i1) (16 + i1 - 2))), (2, .int ((kSchN wd i1) (16 + i1 - 15))), (0, .ref h), (1, .int (nI (16 + i1)))]) hx hb dX6_mix_27 rfl hl (by decide) rfl (fun ls hl => ?_)
        refine lv_aload_n hx hb dX6_mix_28 rfl (lv_at hl 2 rfl) ?_
        refine va_get (D := D) (ci := 6) (v := .ref (r 31)) (C := RX6) (T := TX6) (N := 32) hx hb hts inX6 hown hK hP 0 rfl rfl 31 (by decide) hwd3 (fun _ h9 => h9) rfl dX6_mix_29 ?_
        refine lv_iload_n hx hb dX6_mix_32 rfl (lv_at hl 3 rfl) ?_
        refine lv_aload_n hx hb dX6_mix_33 rfl (lv_at hl 2 rfl) ?_
        refine va_get (D := D) (ci := 6) (v := .ref (r 31)) (C := RX6) (T := TX6) (N := 32) hx hb hts inX6 hown hK hP 0 rfl rfl 31 (by decide) hwd3 (fun _ h9 => h9) rfl dX6_mix_34 ?_
        refine lv_iload_n hx hb dX6_mix_37 rfl (lv_at hl 3 rfl) ?_
        refine lv_bipush (v := nI 16) hx hb dX6_mix_38 (by decide) ?_
        refine kn_isub hx hb (by omega) dX6_mix_40 ?_
        refine kn_iald hx hb hK hP 4 0 rfl rfl (i := 16 + i1 - 16) (by omega) (by decide) dX6_mix_41 ?_
        refine lv_iload_n hx hb dX6_mix_42 rfl (lv_at hl 1 rfl) ?_
        refine lv_bipush (v := nI 7) hx hb dX6_mix_43 (by decide) ?_
        refine kcS (As := [.int ((kSchN wd i1) (16 + i1 - 15)), .int (nI 7)]) (rest := [.int ((kSchN wd i1) (16 + i1 - 16)), .int (nI (16 + i1)), .ref (r 31)]) (ws := []) (wr := [(h, .inr (6, [.ref (r 0), .int z1, .ref (r 2), .int z3, .int z4, .ref (r 5), .ref (r 6), .ref (r 7), .int z8, .ref (r 9), .ref (r 10), .ref (r 11), .ref (r 12), .ref (r 13), .ref (r 14), .ref (r 15), .ref (r 16), .ref (r 17), .ref (r 18), .ref (r 19), .ref (r 20), .ref (r 21), .int z22, .ref (r 23), .ref (r 24), .int z25, .ref (r 26), .ref (r 27), .ref (r 28), .ref (r 29), .ref (r 30), .ref (r 31)])), ((r 0), .inl (D.1 20, 64, .inl kRd)), ((r 29), .inl (D.1 20, 8, .inl sa)), ((r 30), .inl (D.1 20, 8, .inl nw)), ((r 31), .inl (D.1 20, 64, .inl (kSchN wd i1)))]) ⟨hx, hb, hml, hown, hts⟩ (c_X6_turn l D ((kSchN wd i1) (16 + i1 - 15)) (nI 7)) (va_cwS 2 hts gX6_mix_X6_turn rfl rfl rfl (by decide +kernel) ⟨Nat.le_of_ble_eq_true rfl, Nat.le_of_ble_eq_true rfl⟩) hK hE hP hD hS hA [] [0, 1, 2, 3, 4] rfl rfl rfl rfl (by decide) rfl hl.1 rfl (Nat.le_of_ble_eq_true rfl) dX6_mix_45 ⟨Nat.le_of_ble_eq_true rfl, Nat.le_of_ble_eq_true rfl⟩ (fun _ H locs hpo hP hD hS => ?_)
        have hP : va_P D kC [(h, .inr (6, [.ref (r 0), .int z1, .ref (r 2), .int z3, .int z4, .ref (r 5), .ref (r 6), .ref (r 7), .int z8, .ref (r 9), .ref (r 10), .ref (r 11), .ref (r 12), .ref (r 13), .ref (r 14), .ref (r 15), .ref (r 16), .ref (r 17), .ref (r 18), .ref (r 19), .ref (r 20), .ref (r 21), .int z22, .ref (r 23), .ref (r 24), .int z25, .ref (r 26), .ref (r 27), .ref (r 28), .ref (r 29), .ref (r 30), .ref (r 31)])), ((r 0), .inl (D.1 20, 64, .inl kRd)), ((r 29), .inl (D.1 20, 8, .inl sa)), ((r 30), .inl (D.1 20, 8, .inl nw)), ((r 31), .inl (D.1 20, 64, .inl (kSchN wd i1)))] _ := hP
        have hD : va_D A [(h, .inr (6, [.ref (r 0), .int z1, .ref (r 2), .int z3, .int z4, .ref (r 5), .ref (r 6), .ref (r 7), .int z8, .ref (r 9), .ref (r 10), .ref (r 11), .ref (r 12), .ref (r 13), .ref (r 14), .ref (r 15), .ref (r 16), .ref (r 17), .ref (r 18), .ref (r 19), .ref (r 20), .ref (r 21), .int z22, .ref (r 23), .ref (r 24), .int z25, .ref (r 26), .ref (r 27), .ref (r 28), .ref (r 29), .ref (r 30), .ref (r 31)])), ((r 0), .inl (D.1 20, 64, .inl kRd)), ((r 29), .inl (D.1 20, 8, .inl sa)), ((r 30), .inl (D.1 20, 8, .inl nw)), ((r 31), .inl (D.1 20, 64, .inl (kSchN wd i1)))] := hD
        refine W.eq (g2 := F0 m 48 ls [.int (kRot ((kSchN wd i1) (16 + i1 - 15)) (nI 7)), .int ((kSchN wd i1) (16 + i1 - 16)), .int (nI (16 + i1)), .ref (r 31)]) rfl ?_
        refine W.widen (k := 0) (n := 0) (Nat.le_of_ble_eq_true rfl) (Nat.le_of_ble_eq_true rfl) ?_
        refine lv_iload_n hx hb dX6_mix_48 rfl (lv_at hl 1 rfl) ?_
        refine lv_bipush (v := nI 18) hx hb dX6_mix_49 (by decide) ?_
        refine kcS (As := [.int ((kSchN wd i1) (16 + i1 - 15)), .int (nI 18)]) (rest := [.int (kRot ((kSchN wd i1) (16 + i1 - 15)) (nI 7)), .int ((kSchN wd i1) (16 + i1 - 16)), .int (nI (16 + i1)), .ref (r 31)]) (ws := []) (wr := [(h, .inr (6, [.ref (r 0), .int z1, .ref (r 2), .int z3, .int z4, .ref (r 5), .ref (r 6), .ref (r 7), .int z8, .ref (r 9), .ref (r 10), .ref (r 11), .ref (r 12), .ref (r 13), .ref (r 14), .ref (r 15), .ref (r 16), .ref (r 17), .ref (r 18), .ref (r 19), .ref (r 20), .ref (r 21), .int z22, .ref (r 23), .ref (r 24), .int z25, .ref (r 26), .ref (r 27), .ref (r 28), .ref (r 29), .ref (r 30), .ref (r 31)])), ((r 0), .inl (D.1 20, 64, .inl kRd)), ((r 29), .inl (D.1 20, 8, .inl sa)), ((r 30), .inl (D.1 20, 8, .inl nw)), ((r 31), .inl (D.1 20, 64, .inl (kSchN wd i1)))]) ⟨hx, hb, hml, hown, hts⟩ (c_X6_turn l D ((kSchN wd i1) (16 + i1 - 15)) (nI 18)) (va_cwS 2 hts gX6_mix_X6_turn rfl rfl rfl (by decide +kernel) ⟨Nat.le_of_ble_eq_true rfl, Nat.le_of_ble_eq_true rfl⟩) hK hE hP hD hS hA [] [0, 1, 2, 3, 4] rfl rfl rfl rfl (by decide) rfl hl.1 rfl (Nat.le_of_ble_eq_true rfl) dX6_mix_51 ⟨Nat.le_of_ble_eq_true rfl, Nat.le_of_ble_eq_true rfl⟩ (fun _ H locs hpo hP hD hS => ?_)
        have hP : va_P D kC [(h, .inr (6, [.ref (r 0), .int z1, .ref (r 2), .int z3, .int z4, .ref (r 5), .ref (r 6), .ref (r 7), .int z8, .ref (r 9), .ref (r 10), .ref (r 11), .ref (r 12), .ref (r 13), .ref (r 14), .ref (r 15), .ref (r 16), .ref (r 17), .ref (r 18), .ref (r 19), .ref (r 20), .ref (r 21), .int z22, .ref (r 23), .ref (r 24), .int z25, .ref (r 26), .ref (r 27), .ref (r 28), .ref (r 29), .ref (r 30), .ref (r 31)])), ((r 0), .inl (D.1 20, 64, .inl kRd)), ((r 29), .inl (D.1 20, 8, .inl sa)), ((r 30), .inl (D.1 20, 8, .inl nw)), ((r 31), .inl (D.1 20, 64, .inl (kSchN wd i1)))] _ := hP
        have hD : va_D A [(h, .inr (6, [.ref (r 0), .int z1, .ref (r 2), .int z3, .int z4, .ref (r 5), .ref (r 6), .ref (r 7), .int z8, .ref (r 9), .ref (r 10), .ref (r 11), .ref (r 12), .ref (r 13), .ref (r 14), .ref (r 15), .ref (r 16), .ref (r 17), .ref (r 18), .ref (r 19), .ref (r 20), .ref (r 21), .int z22, .ref (r 23), .ref (r 24), .int z25, .ref (r 26), .ref (r 27), .ref (r 28), .ref (r 29), .ref (r 30), .ref (r 31)])), ((r 0), .inl (D.1 20, 64, .inl kRd)), ((r 29), .inl (D.1 20, 8, .inl sa)), ((r 30), .inl (D.1 20, 8, .inl nw)), ((r 31), .inl (D.1 20, 64, .inl (kSchN wd i1)))] := hD
        refine W.eq (g2 := F0 m 54 ls [.int (kRot ((kSchN wd i1) (16 + i1 - 15)) (nI 18)), .int (kRot ((kSchN wd i1) (16 + i1 - 15)) (nI 7)), .int ((kSchN wd i1) (16 + i1 - 16)), .int (nI (16 + i1)), .ref (r 31)]) rfl ?_
        refine W.widen (k := 0) (n := 0) (Nat.le_of_ble_eq_true rfl) (Nat.le_of_ble_eq_true rfl) ?_
        refine lv_ixor hx hb dX6_mix_54 ?_
        refine lv_iload_n hx hb dX6_mix_55 rfl (lv_at hl 1 rfl) ?_
        refine lv_iconst (v := nI 3) hx hb dX6_mix_56 (by decide) ?_
        refine lv_iushr (v := kShr ((kSchN wd i1) (16 + i1 - 15)) (nI 3)) hx hb dX6_mix_57 rfl ?_
        refine lv_ixor hx hb dX6_mix_58 ?_
        refine lv_iadd hx hb dX6_mix_59 ?_
        refine lv_aload_n hx hb dX6_mix_60 rfl (lv_at hl 2 rfl) ?_
        refine va_get (D := D) (ci := 6) (v := .ref (r 31)) (C := RX6) (T := TX6) (N := 32) hx hb hts inX6 hown hK hP 0 rfl rfl 31 (by decide) hwd3 (fun _ h9 => h9) rfl dX6_mix_61 ?_
        refine lv_iload_n hx hb dX6_mix_64 rfl (lv_at hl 3 rfl) ?_
        refine lv_bipush (v := nI 7) hx hb dX6_mix_65 (by decide) ?_
        refine kn_isub hx hb (by omega) dX6_mix_67 ?_
        refine kn_iald hx hb hK hP 4 0 rfl rfl (i := 16 + i1 - 7) (by omega) (by decide) dX6_mix_68 ?_
        refine lv_iadd hx hb dX6_mix_69 ?_
        refine lv_iload_n hx hb dX6_mix_70 rfl (lv_at hl 0 rfl) ?_
        refine lv_bipush (v := nI 17) hx hb dX6_mix_71 (by decide) ?_
        refine kcS (As := [.int ((kSchN wd i1) (16 + i1 - 2)), .int (nI 17)]) (rest := [.int ((((kSchN wd i1) (16 + i1 - 16)) + (((kRot ((kSchN wd i1) (16 + i1 - 15)) (nI 7)) ^^^ (kRot ((kSchN wd i1) (16 + i1 - 15)) (nI 18))) ^^^ (kShr ((kSchN wd i1) (16 + i1 - 15)) (nI 3)))) + ((kSchN wd i1) (16 + i1 - 7))), .int (nI (16 + i1)), .ref (r 31)]) (ws := []) (wr := [(h, .inr (6, [.ref (r 0), .int z1, .ref (r 2), .int z3, .int z4, .ref (r 5), .ref (r 6), .ref (r 7), .int z8, .ref (r 9), .ref (r 10), .ref (r 11), .ref (r 12), .ref (r 13), .ref (r 14), .ref (r 15), .ref (r 16), .ref (r 17), .ref (r 18), .ref (r 19), .ref (r 20), .ref (r 21), .int z22, .ref (r 23), .ref (r 24), .int z25, .ref (r 26), .ref (r 27), .ref (r 28), .ref (r 29), .ref (r 30), .ref (r 31)])), ((r 0), .inl (D.1 20, 64, .inl kRd)), ((r 29), .inl (D.1 20, 8, .inl sa)), ((r 30), .inl (D.1 20, 8, .inl nw)), ((r 31), .inl (D.1 20, 64, .inl (kSchN wd i1)))]) ⟨hx, hb, hml, hown, hts⟩ (c_X6_turn l D ((kSchN wd i1) (16 + i1 - 2)) (nI 17)) (va_cwS 2 hts gX6_mix_X6_turn rfl rfl rfl (by decide +kernel) ⟨Nat.le_of_ble_eq_true rfl, Nat.le_of_ble_eq_true rfl⟩) hK hE hP hD hS hA [] [0, 1, 2, 3, 4] rfl rfl rfl rfl (by decide) rfl hl.1 rfl (Nat.le_of_ble_eq_true rfl) dX6_mix_73 ⟨Nat.le_of_ble_eq_true rfl, Nat.le_of_ble_eq_true rfl⟩ (fun _ H locs hpo hP hD hS => ?_)
        have hP : va_P D kC [(h, .inr (6, [.ref (r 0), .int z1, .ref (r 2), .int z3, .int z4, .ref (r 5), .ref (r 6), .ref (r 7), .int z8, .ref (r 9), .ref (r 10), .ref (r 11), .ref (r 12), .ref (r 13), .ref (r 14), .ref (r 15), .ref (r 16), .ref (r 17), .ref (r 18), .ref (r 19), .ref (r 20), .ref (r 21), .int z22, .ref (r 23), .ref (r 24), .int z25, .ref (r 26), .ref (r 27), .ref (r 28), .ref (r 29), .ref (r 30), .ref (r 31)])), ((r 0), .inl (D.1 20, 64, .inl kRd)), ((r 29), .inl (D.1 20, 8, .inl sa)), ((r 30), .inl (D.1 20, 8, .inl nw)), ((r 31), .inl (D.1 20, 64, .inl (kSchN wd i1)))] _ := hP
        have hD : va_D A [(h, .inr (6, [.ref (r 0), .int z1, .ref (r 2), .int z3, .int z4, .ref (r 5), .ref (r 6), .ref (r 7), .int z8, .ref (r 9), .ref (r 10), .ref (r 11), .ref (r 12), .ref (r 13), .ref (r 14), .ref (r 15), .ref (r 16), .ref (r 17), .ref (r 18), .ref (r 19), .ref (r 20), .ref (r 21), .int z22, .ref (r 23), .ref (r 24), .int z25, .ref (r 26), .ref (r 27), .ref (r 28), .ref (r 29), .ref (r 30), .ref (r 31)])), ((r 0), .inl (D.1 20, 64, .inl kRd)), ((r 29), .inl (D.1 20, 8, .inl sa)), ((r 30), .inl (D.1 20, 8, .inl nw)), ((r 31), .inl (D.1 20, 64, .inl (kSchN wd i1)))] := hD
        refine W.eq (g2 := F0 m 76 ls [.int (kRot ((kSchN wd i1) (16 + i1 - 2)) (nI 17)), .int ((((kSchN wd i1) (16 + i1 - 16)) + (((kRot ((kSchN wd i1) (16 + i1 - 15)) (nI 7)) ^^^ (kRot ((kSchN wd i1) (16 + i1 - 15)) (nI 18))) ^^^ (kShr ((kSchN wd i1) (16 + i1 - 15)) (nI 3)))) + ((kSchN wd i1) (16 + i1 - 7))), .int (nI (16 + i1)), .ref (r 31)]) rfl ?_
        refine W.widen (k := 0) (n := 0) (Nat.le_of_ble_eq_true rfl) (Nat.le_of_ble_eq_true rfl) ?_
        refine lv_iload_n hx hb dX6_mix_76 rfl (lv_at hl 0 rfl) ?_
        refine lv_bipush (v := nI 19) hx hb dX6_mix_77 (by decide) ?_
        refine kcS (As := [.int ((kSchN wd i1) (16 + i1 - 2)), .int (nI 19)]) (rest := [.int (kRot ((kSchN wd i1) (16 + i1 - 2)) (nI 17)), .int ((((kSchN wd i1) (16 + i1 - 16)) + (((kRot ((kSchN wd i1) (16 + i1 - 15)) (nI 7)) ^^^ (kRot ((kSchN wd i1) (16 + i1 - 15)) (nI 18))) ^^^ (kShr ((kSchN wd i1) (16 + i1 - 15)) (nI 3)))) + ((kSchN wd i1) (16 + i1 - 7))), .int (nI (16 + i1)), .ref (r 31)]) (ws := []) (wr := [(h, .inr (6, [.ref (r 0), .int z1, .ref (r 2), .int z3, .int z4, .ref (r 5), .ref (r 6), .ref (r 7), .int z8, .ref (r 9), .ref (r 10), .ref (r 11), .ref (r 12), .ref (r 13), .ref (r 14), .ref (r 15), .ref (r 16), .ref (r 17), .ref (r 18), .ref (r 19), .ref (r 20), .ref (r 21), .int z22, .ref (r 23), .ref (r 24), .int z25, .ref (r 26), .ref (r 27), .ref (r 28), .ref (r 29), .ref (r 30), .ref (r 31)])), ((r 0), .inl (D.1 20, 64, .inl kRd)), ((r 29), .inl (D.1 20, 8, .inl sa)), ((r 30), .inl (D.1 20, 8, .inl nw)), ((r 31), .inl (D.1 20, 64, .inl (kSchN wd i1)))]) ⟨hx, hb, hml, hown, hts⟩ (c_X6_turn l D ((kSchN wd i1) (16 + i1 - 2)) (nI 19)) (va_cwS 2 hts gX6_mix_X6_turn rfl rfl rfl (by decide +kernel) ⟨Nat.le_of_ble_eq_true rfl, Nat.le_of_ble_eq_true rfl⟩) hK hE hP hD hS hA [] [0, 1, 2, 3, 4] rfl rfl rfl rfl (by decide) rfl hl.1 rfl (Nat.le_of_ble_eq_true rfl) dX6_mix_79 ⟨Nat.le_of_ble_eq_true rfl, Nat.le_of_ble_eq_true rfl⟩ (fun _ H locs hpo hP hD hS => ?_)
        have hP : va_P D kC [(h, .inr (6, [.ref (r 0), .int z1, .ref (r 2), .int z3, .int z4, .ref (r 5), .ref (r 6), .ref (r 7), .int z8, .ref (r 9), .ref (r 10), .ref (r 11), .ref (r 12), .ref (r 13), .ref (r 14), .ref (r 15), .ref (r 16), .ref (r 17), .ref (r 18), .ref (r 19), .ref (r 20), .ref (r 21), .int z22, .ref (r 23), .ref (r 24), .int z25, .ref (r 26), .ref (r 27), .ref (r 28), .ref (r 29), .ref (r 30), .ref (r 31)])), ((r 0), .inl (D.1 20, 64, .inl kRd)), ((r 29), .inl (D.1 20, 8, .inl sa)), ((r 30), .inl (D.1 20, 8, .inl nw)), ((r 31), .inl (D.1 20, 64, .inl (kSchN wd i1)))] _ := hP
        have hD : va_D A [(h, .inr (6, [.ref (r 0), .int z1, .ref (r 2), .int z3, .int z4, .ref (r 5), .ref (r 6), .ref (r 7), .int z8, .ref (r 9), .ref (r 10), .ref (r 11), .ref (r 12), .ref (r 13), .ref (r 14), .ref (r 15), .ref (r 16), .ref (r 17), .ref (r 18), .ref (r 19), .ref (r 20), .ref (r 21), .int z22, .ref (r 23), .ref (r 24), .int z25, .ref (r 26), .ref (r 27), .ref (r 28), .ref (r 29), .ref (r 30), .ref (r 31)])), ((r 0), .inl (D.1 20, 64, .inl kRd)), ((r 29), .inl (D.1 20, 8, .inl sa)), ((r 30), .inl (D.1 20, 8, .inl nw)), ((r 31), .inl (D.1 20, 64, .inl (kSchN wd i1)))] := hD
        refine W.eq (g2 := F0 m 82 ls [.int (kRot ((kSchN wd i1) (16 + i1 - 2)) (nI 19)), .int (kRot ((kSchN wd i1) (16 + i1 - 2)) (nI 17)), .int ((((kSchN wd i1) (16 + i1 - 16)) + (((kRot ((kSchN wd i1) (16 + i1 - 15)) (nI 7)) ^^^ (kRot ((kSchN wd i1) (16 + i1 - 15)) (nI 18))) ^^^ (kShr ((kSchN wd i1) (16 + i1 - 15)) (nI 3)))) + ((kSchN wd i1) (16 + i1 - 7))), .int (nI (16 + i1)), .ref (r 31)]) rfl ?_
        refine W.widen (k := 0) (n := 0) (Nat.le_of_ble_eq_true rfl) (Nat.le_of_ble_eq_true rfl) ?_
        refine lv_ixor hx hb dX6_mix_82 ?_
        refine lv_iload_n hx hb dX6_mix_83 rfl (lv_at hl 0 rfl) ?_
        refine lv_bipush (v := nI 10) hx hb dX6_mix_84 (by decide) ?_
        refine lv_iushr (v := kShr ((kSchN wd i1) (16 + i1 - 2)) (nI 10)) hx hb dX6_mix_86 rfl ?_
        refine lv_ixor hx hb dX6_mix_87 ?_
        refine lv_iadd hx hb dX6_mix_88 ?_
        refine kt_i (v' := kNw (kSchN wd i1) (16 + i1)) (k_ac _ _ _ _) ?_
        refine kn_iast hx hb hK hP hD hS 4 0 rfl rfl (i := 16 + i1) (by omega) (by decide) dX6_mix_89 (fun H locs hP hD hS => ?_)
        have hP : va_P D kC [(h, .inr (6, [.ref (r 0), .int z1, .ref (r 2), .int z3, .int z4, .ref (r 5), .ref (r 6), .ref (r 7), .int z8, .ref (r 9), .ref (r 10), .ref (r 11), .ref (r 12), .ref (r 13), .ref (r 14), .ref (r 15), .ref (r 16), .ref (r 17), .ref (r 18), .ref (r 19), .ref (r 20), .ref (r 21), .int z22, .ref (r 23), .ref (r 24), .int z25, .ref (r 26), .ref (r 27), .ref (r 28), .ref (r 29), .ref (r 30), .ref (r 31)])), ((r 0), .inl (D.1 20, 64, .inl kRd)), ((r 29), .inl (D.1 20, 8, .inl sa)), ((r 30), .inl (D.1 20, 8, .inl nw)), ((r 31), .inl (D.1 20, 64, .inl (upd (kSchN wd i1) (16 + i1) (kNw (kSchN wd i1) (16 + i1)))))] _ := hP
        have hD : va_D A [(h, .inr (6, [.ref (r 0), .int z1, .ref (r 2), .int z3, .int z4, .ref (r 5), .ref (r 6), .ref (r 7), .int z8, .ref (r 9), .ref (r 10), .ref (r 11), .ref (r 12), .ref (r 13), .ref (r 14), .ref (r 15), .ref (r 16), .ref (r 17), .ref (r 18), .ref (r 19), .ref (r 20), .ref (r 21), .int z22, .ref (r 23), .ref (r 24), .int z25, .ref (r 26), .ref (r 27), .ref (r 28), .ref (r 29), .ref (r 30), .ref (r 31)])), ((r 0), .inl (D.1 20, 64, .inl kRd)), ((r 29), .inl (D.1 20, 8, .inl sa)), ((r 30), .inl (D.1 20, 8, .inl nw)), ((r 31), .inl (D.1 20, 64, .inl (upd (kSchN wd i1) (16 + i1) (kNw (kSchN wd i1) (16 + i1)))))] := hD
        have ef27 : upd (kSchN wd i1) (16 + i1) (kNw (kSchN wd i1) (16 + i1)) = kSchN wd (i1 + 1) := rfl
        rw [ef27] at hP hD
        refine lv_iinc (v := nI (16 + (i1 + 1))) (lv' := [(1, .int (nI (16 + (i1 + 1)))), (3, .int ((kSchN wd i1) (16 + i1 - 2))), (2, .int ((kSchN wd i1) (16 + i1 - 15))), (0, .ref h)]) hx hb dX6_mix_90 hl (k := 3) rfl (nI_1 _) (by decide) rfl (fun ls hl => ?_)
        refine lv_goto (tgt := 3) hx hb dX6_mix_93 (by decide) ?_
        exact ih_la (i1 + 1) (by omega) (by omega) _ _ hP hD hS ls (lv_sub hl [3, 0] rfl)
  exact la 49 0 (by omega) (by omega) _ _ hP hD hS ls (lv_sub hl [1, 0] rfl)
