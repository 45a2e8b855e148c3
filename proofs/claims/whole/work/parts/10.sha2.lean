theorem iX2_pad_X2 : ∀ w ∈ wsX20, w ∈ wsX2_pad := by decide +kernel
theorem X2_pad_hwd0 : (.fieldLink RX2 22 "SignatureSpans$Sha256" "length" "I" : Cond) ∈ wsX2_pad := by decide +kernel
theorem X2_pad_hwd1 : (.fieldLink RX2 11 "SignatureSpans$Sha256" "message" "[B" : Cond) ∈ wsX2_pad := by decide +kernel
set_option maxHeartbeats 4000000 in
set_option maxRecDepth 100000 in
/-- pad -/
theorem c_X2_pad (l : Launch) (D : va_G) (h am aw ac n : Nat) (f : Nat → Int32) (hn : n ≤ 1500) : kM (S := Unit) l yX2_pad wsX2_pad ({ frames := 7, cells := 0, slots := 0, locals := 100 }) 0 0 D [.ref h] [(h, .inr (2, [.ref am, .int (nI n), .ref aw, .ref ac])), (am, .inl (D.1 21, 1536, .inl f))] (fun _ => some (.int (nI ((n + 72) / 64 * 64)))) (fun _ => [(h, .inr (2, [.ref am, .int (nI n), .ref aw, .ref ac])), (am, .inl (D.1 21, 1536, .inl (kPadM f n)))]) (fun _ => True) := by
  intro sz
  refine Met.ofW (cc := cX2_pad) (maxL := 4) (ret := (some .int)) (by decide) rfl ?_
  intro p e s m args below meth c s₁ B hml hv
  obtain ⟨rfl, hsz, hP, hK, hD0, hE⟩ := hv
  have hx := B.exec
  have hb := B.bytes
  have hr := B.returns
  have hts := atoms_spec (ws := wsX2_pad) B.pre
  have hown : s.vm.findClass RX2 = some m.cls := findClass_of_methodNamed B.named
  have hlocks := B.notSynchronized
  subst hsz
  have hD := hD0.self (sz := s.heap.size)
  generalize hAe : va_A [(h, .inr (2, [.ref am, .int (nI n), .ref aw, .ref ac])), (am, .inl (D.1 21, 1536, .inl f))] s.heap.size = A at hD hE ⊢
  have hA : ∀ q : Nat, s.heap.size ≤ q → A q := fun q h => by rw [← hAe]; exact Or.inr h
  have hS : va_S A s.heap s.heap [] := va_S.rf
  have hl := lv_entry ([.ref h]) (n := 4) (Nat.le_of_ble_eq_true rfl)
  have inX2 : ∀ w ∈ wsX20, w ∈ wsX2_pad := iX2_pad_X2
  have hwd0 := hts (.fieldLink RX2 22 "SignatureSpans$Sha256" "length" "I") X2_pad_hwd0
  have hwd1 := hts (.fieldLink RX2 11 "SignatureSpans$Sha256" "message" "[B") X2_pad_hwd1
  refine kgenQ (fun Q hQ => ?_)
  rw [lg_entry_eq]
  generalize (lg_sl ([.ref h]) ++ List.replicate (4 - (lg_sl ([.ref h])).length) Slot.unset).toArray = ls at hl ⊢
  have hl : lv_has ls 4 [(0, .ref h)] := hl
  obtain ⟨wh, hwh⟩ : ∃ wh : Nat, wh = (n + 72) / 64 * 64 := ⟨_, rfl⟩
  have hw1 : n + 9 ≤ wh := by omega
  have hw2 : wh ≤ 1536 := by omega
  refine lv_aload_n hx hb dX2_pad_0 rfl (lv_at hl 0 rfl) ?_
  refine va_get (D := D) (ci := 2) (v := .int (nI n)) (C := RX2) (T := TX2) (N := 4) hx hb hts inX2 hown hK hP 0 rfl rfl 1 (by decide) hwd0 (fun _ h9 => h9) rfl dX2_pad_1 ?_
  refine lv_iconst (v := nI 1) hx hb dX2_pad_4 (by decide) ?_
  refine kn_iadd hx hb dX2_pad_5 ?_
  refine lv_bipush (v := nI 8) hx hb dX2_pad_6 (by decide) ?_
  refine kn_iadd hx hb dX2_pad_8 ?_
  refine lv_bipush (v := nI 64) hx hb dX2_pad_9 (by decide) ?_
  refine kn_iadd hx hb dX2_pad_11 ?_
  refine lv_iconst (v := nI 1) hx hb dX2_pad_12 (by decide) ?_
  refine kn_isub hx hb (by omega) dX2_pad_13 ?_
  refine lv_bipush (v := nI 64) hx hb dX2_pad_14 (by decide) ?_
  refine kn_idiv hx hb (by omega) (by omega) (by omega) dX2_pad_16 ?_
  refine lv_bipush (v := nI 64) hx hb dX2_pad_17 (by decide) ?_
  refine kn_imul hx hb dX2_pad_19 ?_
  refine kt_i (v' := nI wh) (congrArg nI (by omega)) ?_
  refine lv_istore_n (lv' := [(1, .int (nI wh)), (0, .ref h)]) hx hb dX2_pad_20 rfl hl (by decide) rfl (fun ls hl => ?_)
  refine lv_aload_n hx hb dX2_pad_21 rfl (lv_at hl 1 rfl) ?_
  refine va_get (D := D) (ci := 2) (v := .ref am) (C := RX2) (T := TX2) (N := 4) hx hb hts inX2 hown hK hP 0 rfl rfl 0 (by decide) hwd1 (fun _ h9 => h9) rfl dX2_pad_22 ?_
  refine lv_aload_n hx hb dX2_pad_25 rfl (lv_at hl 1 rfl) ?_
  refine va_get (D := D) (ci := 2) (v := .int (nI n)) (C := RX2) (T := TX2) (N := 4) hx hb hts inX2 hown hK hP 0 rfl rfl 1 (by decide) hwd0 (fun _ h9 => h9) rfl dX2_pad_26 ?_
  refine lv_bipush (v := (-128 : Int32)) hx hb dX2_pad_29 (by decide) ?_
  refine kn_bast hx hb hK hP hD hS 1 1 rfl rfl (i := n) (by omega) (by decide) dX2_pad_31 (fun H locs hP hD hS => ?_)
  have hP : va_P D kC [(h, .inr (2, [.ref am, .int (nI n), .ref aw, .ref ac])), (am, .inl (D.1 21, 1536, .inl (upd f n ((-128 : Int32).toInt8.toInt32))))] _ := hP
  have hD : va_D A [(h, .inr (2, [.ref am, .int (nI n), .ref aw, .ref ac])), (am, .inl (D.1 21, 1536, .inl (upd f n ((-128 : Int32).toInt8.toInt32))))] := hD
  have ef2 : upd f n ((-128 : Int32).toInt8.toInt32) = kSeg (upd f n ((-128 : Int32).toInt8.toInt32)) (fun _ => (nI 0).toInt8.toInt32) (n + 1) (n + 1) := (kSeg_0 _ _ _).symm
  rw [ef2] at hP hD
  refine lv_aload_n hx hb dX2_pad_32 rfl (lv_at hl 1 rfl) ?_
  refine va_get (D := D) (ci := 2) (v := .int (nI n)) (C := RX2) (T := TX2) (N := 4) hx hb hts inX2 hown hK hP 0 rfl rfl 1 (by decide) hwd0 (fun _ h9 => h9) rfl dX2_pad_33 ?_
  refine lv_iconst (v := nI 1) hx hb dX2_pad_36 (by decide) ?_
  refine kn_iadd hx hb dX2_pad_37 ?_
  refine lv_istore_n (lv' := [(2, .int (nI (n + 1))), (1, .int (nI wh)), (0, .ref h)]) hx hb dX2_pad_38 rfl hl (by decide) rfl (fun ls hl => ?_)
  have lz : ∀ fu : Nat, ∀ (i1 : Nat), (n + 1 ≤ i1) → (i1 ≤ wh - 4) → (wh ≤ i1 + fu) → ∀ (H : Heap) (locs : List Loc), va_P D kC [(h, .inr (2, [.ref am, .int (nI n), .ref aw, .ref ac])), (am, .inl (D.1 21, 1536, .inl (kSeg (upd f n ((-128 : Int32).toInt8.toInt32)) (fun _ => (nI 0).toInt8.toInt32) (n + 1) i1)))] H → va_D A [(h, .inr (2, [.ref am, .int (nI n), .ref aw, .ref ac])), (am, .inl (D.1 21, 1536, .inl (kSeg (upd f n ((-128 : Int32).toInt8.toInt32)) (fun _ => (nI 0).toInt8.toInt32) (n + 1) i1)))] → va_S A s.heap H locs → ∀ (ls : Array Slot), lv_has ls 4 [(0, .ref h), (1, .int (nI wh)), (2, .int (nI i1))] → W p l e (headSpec wsX2_pad ({ frames := 7, cells := 0, slots := 0, locals := 100 })).room s m #[Value.ref h] below meth c H locs 0 0 Q (F0 m 39 ls []) := by
    intro fu
    induction fu with
    | zero =>
      intro i1 h1 h2 hfu H locs hP hD hS ls hl
      exfalso; omega
    | succ fu ih_lz =>
      intro i1 h1 h2 hfu H locs hP hD hS ls hl
      refine lv_iload_n hx hb dX2_pad_39 rfl (lv_at hl 2 rfl) ?_
      refine lv_iload_n hx hb dX2_pad_40 rfl (lv_at hl 1 rfl) ?_
      refine lv_iconst (v := nI 4) hx hb dX2_pad_41 (by decide) ?_
      refine kn_isub hx hb (by omega) dX2_pad_42 ?_
      refine kn_icmp_ge (tgt := 59) hx hb (by omega) (by omega) dX2_pad_43 (by decide) (fun c_43 => ?_) (fun c_43 => ?_)
      · have ev : i1 = wh - 4 := by omega
        subst ev
        refine lv_aload_n hx hb dX2_pad_59 rfl (lv_at hl 0 rfl) ?_
        refine va_get (D := D) (ci := 2) (v := .int (nI n)) (C := RX2) (T := TX2) (N := 4) hx hb hts inX2 hown hK hP 0 rfl rfl 1 (by decide) hwd0 (fun _ h9 => h9) rfl dX2_pad_60 ?_
        refine lv_bipush (v := nI 8) hx hb dX2_pad_63 (by decide) ?_
        refine kn_imul hx hb dX2_pad_65 ?_
        refine lv_istore_n (lv' := [(2, .int (nI (n * 8))), (0, .ref h), (1, .int (nI wh))]) hx hb dX2_pad_66 rfl hl (by decide) rfl (fun ls hl => ?_)
        refine lv_iconst (v := nI 1) hx hb dX2_pad_67 (by decide) ?_
        refine lv_istore_n (lv' := [(3, .int (nI 1)), (2, .int (nI (n * 8))), (0, .ref h), (1, .int (nI wh))]) hx hb dX2_pad_68 rfl hl (by decide) rfl (fun ls hl => ?_)
        have ef3 : kSeg (upd f n ((-128 : Int32).toInt8.toInt32)) (fun _ => (nI 0).toInt8.toInt32) (n + 1) (wh - 4) = kSeg (kSeg (upd f n ((-128 : Int32).toInt8.toInt32)) (fun _ => (nI 0).toInt8.toInt32) (n + 1) (wh - 4)) (fun j => ((kShr (nI (n * 8)) (nI (8 * (wh - 1 - j)))).toInt8.toInt32).toInt8.toInt32) (wh + 1 - 1) wh := by rw [show wh + 1 - 1 = wh by omega, kSeg_0]
        rw [ef3] at hP hD
        have lb : ∀ fu : Nat, ∀ (i2 : Nat), (1 ≤ i2) → (i2 ≤ 5) → (6 ≤ i2 + fu) → ∀ (H : Heap) (locs : List Loc), va_P D kC [(h, .inr (2, [.ref am, .int (nI n), .ref aw, .ref ac])), (am, .inl (D.1 21, 1536, .inl (kSeg (kSeg (upd f n ((-128 : Int32).toInt8.toInt32)) (fun _ => (nI 0).toInt8.toInt32) (n + 1) (wh - 4)) (fun j => ((kShr (nI (n * 8)) (nI (8 * (wh - 1 - j)))).toInt8.toInt32).toInt8.toInt32) (wh + 1 - i2) wh)))] H → va_D A [(h, .inr (2, [.ref am, .int (nI n), .ref aw, .ref ac])), (am, .inl (D.1 21, 1536, .inl (kSeg (kSeg (upd f n ((-128 : Int32).toInt8.toInt32)) (fun _ => (nI 0).toInt8.toInt32) (n + 1) (wh - 4)) (fun j => ((kShr (nI (n * 8)) (nI (8 * (wh - 1 - j)))).toInt8.toInt32).toInt8.toInt32) (wh + 1 - i2) wh)))] → va_S A s.heap H locs → ∀ (ls : Array Slot), lv_has ls 4 [(0, .ref h), (1, .int (nI wh)), (2, .int (nI (n * 8))), (3, .int (nI i2))] → W p l e (headSpec wsX2_pad ({ frames := 7, cells := 0, slots := 0, locals := 100 })).room s m #[Value.ref h] below meth c H locs 0 0 Q (F0 m 69 ls []) := by
          intro fu
          induction fu with
          | zero =>
            intro i2 h3 h4 hfu H locs hP hD hS ls hl
            exfalso; omega
          | succ fu ih_lb =>
            intro i2 h3 h4 hfu H locs hP hD hS ls hl
            refine lv_iload_n hx hb dX2_pad_69 rfl (lv_at hl 3 rfl) ?_
            refine lv_iconst (v := nI 4) hx hb dX2_pad_70 (by decide) ?_
            refine kn_icmp_gt (tgt := 97) hx hb (by omega) (by omega) dX2_pad_71 (by decide) (fun c_71 => ?_) (fun c_71 => ?_)
            · have ev : i2 = 5 := by omega
              subst ev
              have ef4 : kSeg (kSeg (upd f n ((-128 : Int32).toInt8.toInt32)) (fun _ => (nI 0).toInt8.toInt32) (n + 1) (wh - 4)) (fun j => ((kShr (nI (n * 8)) (nI (8 * (wh - 1 - j)))).toInt8.toInt32).toInt8.toInt32) (wh + 1 - 5) wh = kSeg (kSeg (upd f n ((-128 : Int32).toInt8.toInt32)) (fun _ => (nI 0).toInt8.toInt32) (n + 1) (wh - 4)) (fun j => ((kShr (nI (n * 8)) (nI (8 * (wh - 1 - j)))).toInt8.toInt32).toInt8.toInt32) (wh - 4) wh := by rw [show wh + 1 - 5 = wh - 4 by omega]
              rw [ef4] at hP hD
              subst hwh
              have ef5 : kSeg (kSeg (upd f n ((-128 : Int32).toInt8.toInt32)) (fun _ => (nI 0).toInt8.toInt32) (n + 1) (((n + 72) / 64 * 64) - 4)) (fun j => ((kShr (nI (n * 8)) (nI (8 * (((n + 72) / 64 * 64) - 1 - j)))).toInt8.toInt32).toInt8.toInt32) (((n + 72) / 64 * 64) - 4) ((n + 72) / 64 * 64) = kPadM f n := rfl
              rw [ef5] at hP hD
              refine lv_iload_n hx hb dX2_pad_97 rfl (lv_at hl 1 rfl) ?_
              rw [hQ]
              have hP9 : va_P D kC [(h, .inr (2, [.ref am, .int (nI n), .ref aw, .ref ac])), (am, .inl (D.1 21, 1536, .inl (kPadM f n)))] _ := hP
              have hD9 : va_D A [(h, .inr (2, [.ref am, .int (nI n), .ref aw, .ref ac])), (am, .inl (D.1 21, 1536, .inl (kPadM f n)))] := hD
              exact W.iret (v := nI ((n + 72) / 64 * 64)) hx hb hr (fun tq ht hW => ⟨⟨(), rfl, trivial, by rw [ht]; exact hP9, va_K.moved hW.alike hK, hD9⟩, hS.F ht⟩) hS.2.2 dX2_pad_98
            · refine lv_aload_n hx hb dX2_pad_74 rfl (lv_at hl 0 rfl) ?_
              refine va_get (D := D) (ci := 2) (v := .ref am) (C := RX2) (T := TX2) (N := 4) hx hb hts inX2 hown hK hP 0 rfl rfl 0 (by decide) hwd1 (fun _ h9 => h9) rfl dX2_pad_75 ?_
              refine lv_iload_n hx hb dX2_pad_78 rfl (lv_at hl 1 rfl) ?_
              refine lv_iload_n hx hb dX2_pad_79 rfl (lv_at hl 3 rfl) ?_
              refine kn_isub hx hb (by omega) dX2_pad_80 ?_
              refine lv_iload_n hx hb dX2_pad_81 rfl (lv_at hl 2 rfl) ?_
              refine lv_bipush (v := nI 8) hx hb dX2_pad_82 (by decide) ?_
              refine lv_iload_n hx hb dX2_pad_84 rfl (lv_at hl 3 rfl) ?_
              refine lv_iconst (v := nI 1) hx hb dX2_pad_85 (by decide) ?_
              refine kn_isub hx hb (by omega) dX2_pad_86 ?_
              refine kn_imul hx hb dX2_pad_87 ?_
              refine lv_iushr (v := kShr (nI (n * 8)) (nI (8 * (i2 - 1)))) hx hb dX2_pad_88 rfl ?_
              refine lv_i2b (v := (kShr (nI (n * 8)) (nI (8 * (i2 - 1)))).toInt8.toInt32) hx hb dX2_pad_89 rfl ?_
              refine kn_bast hx hb hK hP hD hS 1 1 rfl rfl (i := wh - i2) (by omega) (by decide) dX2_pad_90 (fun H locs hP hD hS => ?_)
              have hP : va_P D kC [(h, .inr (2, [.ref am, .int (nI n), .ref aw, .ref ac])), (am, .inl (D.1 21, 1536, .inl (upd (kSeg (kSeg (upd f n ((-128 : Int32).toInt8.toInt32)) (fun _ => (nI 0).toInt8.toInt32) (n + 1) (wh - 4)) (fun j => ((kShr (nI (n * 8)) (nI (8 * (wh - 1 - j)))).toInt8.toInt32).toInt8.toInt32) (wh + 1 - i2) wh) (wh - i2) (((kShr (nI (n * 8)) (nI (8 * (i2 - 1)))).toInt8.toInt32).toInt8.toInt32))))] _ := hP
              have hD : va_D A [(h, .inr (2, [.ref am, .int (nI n), .ref aw, .ref ac])), (am, .inl (D.1 21, 1536, .inl (upd (kSeg (kSeg (upd f n ((-128 : Int32).toInt8.toInt32)) (fun _ => (nI 0).toInt8.toInt32) (n + 1) (wh - 4)) (fun j => ((kShr (nI (n * 8)) (nI (8 * (wh - 1 - j)))).toInt8.toInt32).toInt8.toInt32) (wh + 1 - i2) wh) (wh - i2) (((kShr (nI (n * 8)) (nI (8 * (i2 - 1)))).toInt8.toInt32).toInt8.toInt32))))] := hD
              have ef6 : upd (kSeg (kSeg (upd f n ((-128 : Int32).toInt8.toInt32)) (fun _ => (nI 0).toInt8.toInt32) (n + 1) (wh - 4)) (fun j => ((kShr (nI (n * 8)) (nI (8 * (wh - 1 - j)))).toInt8.toInt32).toInt8.toInt32) (wh + 1 - i2) wh) (wh - i2) (((kShr (nI (n * 8)) (nI (8 * (i2 - 1)))).toInt8.toInt32).toInt8.toInt32) = kSeg (kSeg (upd f n ((-128 : Int32).toInt8.toInt32)) (fun _ => (nI 0).toInt8.toInt32) (n + 1) (wh - 4)) (fun j => ((kShr (nI (n * 8)) (nI (8 * (wh - 1 - j)))).toInt8.toInt32).toInt8.toInt32) (wh - i2) wh := by rw [show wh + 1 - i2 = wh - i2 + 1 by omega]; exact kSeg_dn (by omega) (by show _ = ((kShr (nI (n * 8)) (nI (8 * (wh - 1 - (wh - i2))))).toInt8.toInt32).toInt8.toInt32; rw [show wh - 1 - (wh - i2) = i2 - 1 by omega])
              rw [ef6] at hP hD
              have ef7 : kSeg (kSeg (upd f n ((-128 : Int32).toInt8.toInt32)) (fun _ => (nI 0).toInt8.toInt32) (n + 1) (wh - 4)) (fun j => ((kShr (nI (n * 8)) (nI (8 * (wh - 1 - j)))).toInt8.toInt32).toInt8.toInt32) (wh - i2) wh = kSeg (kSeg (upd f n ((-128 : Int32).toInt8.toInt32)) (fun _ => (nI 0).toInt8.toInt32) (n + 1) (wh - 4)) (fun j => ((kShr (nI (n * 8)) (nI (8 * (wh - 1 - j)))).toInt8.toInt32).toInt8.toInt32) (wh + 1 - (i2 + 1)) wh := by rw [show wh + 1 - (i2 + 1) = wh - i2 by omega]
              rw [ef7] at hP hD
              refine lv_iinc (v := nI (i2 + 1)) (lv' := [(3, .int (nI (i2 + 1))), (0, .ref h), (1, .int (nI wh)), (2, .int (nI (n * 8)))]) hx hb dX2_pad_91 hl (k := 3) rfl (nI_1 _) (by decide) rfl (fun ls hl => ?_)
              refine lv_goto (tgt := 69) hx hb dX2_pad_94 (by decide) ?_
              exact ih_lb (i2 + 1) (by omega) (by omega) (by omega) _ _ hP hD hS ls (lv_sub hl [1, 2, 3, 0] rfl)
        exact lb 5 1 (by omega) (by omega) (by omega) _ _ hP hD hS ls (lv_sub hl [2, 3, 1, 0] rfl)
      · refine lv_aload_n hx hb dX2_pad_46 rfl (lv_at hl 0 rfl) ?_
        refine va_get (D := D) (ci := 2) (v := .ref am) (C := RX2) (T := TX2) (N := 4) hx hb hts inX2 hown hK hP 0 rfl rfl 0 (by decide) hwd1 (fun _ h9 => h9) rfl dX2_pad_47 ?_
        refine lv_iload_n hx hb dX2_pad_50 rfl (lv_at hl 2 rfl) ?_
        refine lv_iconst (v := nI 0) hx hb dX2_pad_51 (by decide) ?_
        refine kn_bast hx hb hK hP hD hS 1 1 rfl rfl (i := i1) (by omega) (by decide) dX2_pad_52 (fun H locs hP hD hS => ?_)
        have hP : va_P D kC [(h, .inr (2, [.ref am, .int (nI n), .ref aw, .ref ac])), (am, .inl (D.1 21, 1536, .inl (upd (kSeg (upd f n ((-128 : Int32).toInt8.toInt32)) (fun _ => (nI 0).toInt8.toInt32) (n + 1) i1) i1 ((nI 0).toInt8.toInt32))))] _ := hP
        have hD : va_D A [(h, .inr (2, [.ref am, .int (nI n), .ref aw, .ref ac])), (am, .inl (D.1 21, 1536, .inl (upd (kSeg (upd f n ((-128 : Int32).toInt8.toInt32)) (fun _ => (nI 0).toInt8.toInt32) (n + 1) i1) i1 ((nI 0).toInt8.toInt32))))] := hD
        have ef8 : upd (kSeg (upd f n ((-128 : Int32).toInt8.toInt32)) (fun _ => (nI 0).toInt8.toInt32) (n + 1) i1) i1 ((nI 0).toInt8.toInt32) = kSeg (upd f n ((-128 : Int32).toInt8.toInt32)) (fun _ => (nI 0).toInt8.toInt32) (n + 1) (i1 + 1) := kSeg_up (by omega) rfl
        rw [ef8] at hP hD
        refine lv_iinc (v := nI (i1 + 1)) (lv' := [(2, .int (nI (i1 + 1))), (0, .ref h), (1, .int (nI wh))]) hx hb dX2_pad_53 hl (k := 2) rfl (nI_1 _) (by decide) rfl (fun ls hl => ?_)
        refine lv_goto (tgt := 39) hx hb dX2_pad_56 (by decide) ?_
        exact ih_lz (i1 + 1) (by omega) (by omega) (by omega) _ _ hP hD hS ls (lv_sub hl [1, 2, 0] rfl)
  exact lz wh (n + 1) (by omega) (by omega) (by omega) _ _ hP hD hS ls (lv_sub hl [2, 1, 0] rfl)

theorem iX2_spread_X2 : ∀ w ∈ wsX20, w ∈ wsX2_spread := by decide +kernel
theorem X2_spread_hwd0 : (.fieldLink RX2 19 "SignatureSpans$Sha256" "schedule" "[I" : Cond) ∈ wsX2_spread := by decide +kernel
theorem X2_spread_hwd1 : (.fieldLink RX2 11 "SignatureSpans$Sha256" "message" "[B" : Cond) ∈ wsX2_spread := by decide +kernel
set_option maxHeartbeats 4000000 in
set_option maxRecDepth 100000 in
/-- spread -/
theorem c_X2_spread (l : Launch) (D : va_G) (h am aw ac at9 : Nat) (ln : Int32) (f sc : Nat → Int32) (hat : at9 + 64 ≤ 1536) : kM (S := Unit) l yX2_spread wsX2_spread ({ frames := 8, cells := 0, slots := 0, locals := 160 }) 0 0 D [.ref h, .int (nI at9)] [(h, .inr (2, [.ref am, .int ln, .ref aw, .ref ac])), (am, .inl (D.1 21, 1536, .inl f)), (ac, .inl (D.1 20, 64, .inl sc))] (fun _ => none) (fun _ => [(h, .inr (2, [.ref am, .int ln, .ref aw, .ref ac])), (am, .inl (D.1 21, 1536, .inl f)), (ac, .inl (D.1 20, 64, .inl (kSchN (kSeg sc (fun t => kWd (fun j => f j &&& nI 255) (at9 + 4 * t)) 0 16) 48)))]) (fun _ => True) := by
  intro sz
  refine Met.ofW (cc := cX2_spread) (maxL := 7) (ret := none) (by decide) rfl ?_
  intro p e s m args below meth c s₁ B hml hv
  obtain ⟨rfl, hsz, hP, hK, hD0, hE⟩ := hv
  have hx := B.exec
  have hb := B.bytes
  have hr := B.returns
  have hts := atoms_spec (ws := wsX2_spread) B.pre
  have hown : s.vm.findClass RX2 = some m.cls := findClass_of_methodNamed B.named
  have hlocks := B.notSynchronized
  subst hsz
  have hD := hD0.self (sz := s.heap.size)
  generalize hAe : va_A [(h, .inr (2, [.ref am, .int ln, .ref aw, .ref ac])), (am, .inl (D.1 21, 1536, .inl f)), (ac, .inl (D.1 20, 64, .inl sc))] s.heap.size = A at hD hE ⊢
  have hA : ∀ q : Nat, s.heap.size ≤ q → A q := fun q h => by rw [← hAe]; exact Or.inr h
  have hS : va_S A s.heap s.heap [] := va_S.rf
  have hl := lv_entry ([.ref h, .int (nI at9)]) (n := 7) (Nat.le_of_ble_eq_true rfl)
  have inX2 : ∀ w ∈ wsX20, w ∈ wsX2_spread := iX2_spread_X2
  have hwd0 := hts (.fieldLink RX2 19 "SignatureSpans$Sha256" "schedule" "[I") X2_spread_hwd0
  have hwd1 := hts (.fieldLink RX2 11 "SignatureSpans$Sha256" "message" "[B") X2_spread_hwd1
  refine kgenQ (fun Q hQ => ?_)
  rw [lg_entry_eq]
  generalize (lg_sl ([.ref h, .int (nI at9)]) ++ List.replicate (7 - (lg_sl ([.ref h, .int (nI at9)])).length) Slot.unset).toArray = ls at hl ⊢
  have hl : lv_has ls 7 [(0, .ref h), (1, .int (nI at9))] := hl
  refine lv_iconst (v := nI 0) hx hb dX2_spread_0 (by decide) ?_
  refine lv_istore_n (lv' := [(2, .int (nI 0)), (0, .ref h), (1, .int (nI at9))]) hx hb dX2_spread_1 rfl hl (by decide) rfl (fun ls hl => ?_)
  have la : ∀ fu : Nat, ∀ (i1 : Nat), (i1 ≤ 16) → (17 ≤ i1 + fu) → ∀ (H : Heap) (locs : List Loc), va_P D kC [(h, .inr (2, [.ref am, .int ln, .ref aw, .ref ac])), (am, .inl (D.1 21, 1536, .inl f)), (ac, .inl (D.1 20, 64, .inl (kSeg sc (fun t => kWd (fun j => f j &&& nI 255) (at9 + 4 * t)) 0 i1)))] H → va_D A [(h, .inr (2, [.ref am, .int ln, .ref aw, .ref ac])), (am, .inl (D.1 21, 1536, .inl f)), (ac, .inl (D.1 20, 64, .inl (kSeg sc (fun t => kWd (fun j => f j &&& nI 255) (at9 + 4 * t)) 0 i1)))] → va_S A s.heap H locs → ∀ (ls : Array Slot), lv_has ls 7 [(0, .ref h), (1, .int (nI at9)), (2, .int (nI i1))] → W p l e (headSpec wsX2_spread ({ frames := 8, cells := 0, slots := 0, locals := 160 })).room s m #[Value.ref h, Value.int (nI at9)] below meth c H locs 0 0 Q (F0 m 2 ls []) := by
    intro fu
    induction fu with
    | zero =>
      intro i1 h1 hfu H locs hP hD hS ls hl
      exfalso; omega
    | succ fu ih_la =>
      intro i1 h1 hfu H locs hP hD hS ls hl
      refine lv_iload_n hx hb dX2_spread_2 rfl (lv_at hl 2 rfl) ?_
      refine lv_bipush (v := nI 16) hx hb dX2_spread_3 (by decide) ?_
      refine kn_icmp_ge (tgt := 84) hx hb (by omega) (by omega) dX2_spread_5 (by decide) (fun c_5 => ?_) (fun c_5 => ?_)
      · have ev : i1 = 16 := by omega
        subst ev
        refine lv_bipush (v := nI 16) hx hb dX2_spread_84 (by decide) ?_
        refine lv_istore_n (lv' := [(2, .int (nI 16)), (0, .ref h), (1, .int (nI at9))]) hx hb dX2_spread_86 rfl hl (by decide) rfl (fun ls hl => ?_)
        have lc : ∀ fu : Nat, ∀ (i2 : Nat), (i2 ≤ 48) → (49 ≤ i2 + fu) → ∀ (H : Heap) (locs : List Loc), va_P D kC [(h, .inr (2, [.ref am, .int ln, .ref aw, .ref ac])), (am, .inl (D.1 21, 1536, .inl f)), (ac, .inl (D.1 20, 64, .inl (kSchN (kSeg sc (fun t => kWd (fun j => f j &&& nI 255) (at9 + 4 * t)) 0 16) i2)))] H → va_D A [(h, .inr (2, [.ref am, .int ln, .ref aw, .ref ac])), (am, .inl (D.1 21, 1536, .inl f)), (ac, .inl (D.1 20, 64, .inl (kSchN (kSeg sc (fun t => kWd (fun j => f j &&& nI 255) (at9 + 4 * t)) 0 16) i2)))] → va_S A s.heap H locs → ∀ (ls : Array Slot), lv_has ls 7 [(0, .ref h), (2, .int (nI (16 + i2)))] → W p l e (headSpec wsX2_spread ({ frames := 8, cells := 0, slots := 0, locals := 160 })).room s m #[Value.ref h, Value.int (nI at9)] below meth c H locs 0 0 Q (F0 m 87 ls []) := by
          intro fu
          induction fu with
          | zero =>
            intro i2 h2 hfu H locs hP hD hS ls hl
            exfalso; omega
          | succ fu ih_lc =>
            intro i2 h2 hfu H locs hP hD hS ls hl
            refine lv_iload_n hx hb dX2_spread_87 rfl (lv_at hl 1 rfl) ?_
            refine lv_bipush (v := nI 64) hx hb dX2_spread_88 (by decide) ?_
            refine kn_icmp_ge (tgt := 192) hx hb (by omega) (by omega) dX2_spread_90 (by decide) (fun c_90 => ?_) (fun c_90 => ?_)
            · have ev : i2 = 48 := by omega
              subst ev
              rw [hQ]
              have hP9 : va_P D kC [(h, .inr (2, [.ref am, .int ln, .ref aw, .ref ac])), (am, .inl (D.1 21, 1536, .inl f)), (ac, .inl (D.1 20, 64, .inl (kSchN (kSeg sc (fun t => kWd (fun j => f j &&& nI 255) (at9 + 4 * t)) 0 16) 48)))] _ := hP
              have hD9 : va_D A [(h, .inr (2, [.ref am, .int ln, .ref aw, .ref ac])), (am, .inl (D.1 21, 1536, .inl f)), (ac, .inl (D.1 20, 64, .inl (kSchN (kSeg sc (fun t => kWd (fun j => f j &&& nI 255) (at9 + 4 * t)) 0 16) 48)))] := hD
              exact W.vret hx hb hr (fun tq ht hW => ⟨⟨(), rfl, trivial, by rw [ht]; exact hP9, va_K.moved hW.alike hK, hD9⟩, hS.F ht⟩) hS.2.2 dX2_spread_192
            · refine lv_aload_n hx hb dX2_spread_93 rfl (lv_at hl 0 rfl) ?_
              refine va_get (D := D) (ci := 2) (v := .ref ac) (C := RX2) (T := TX2) (N := 4) hx hb hts inX2 hown hK hP 0 rfl rfl 3 (by decide) hwd0 (fun _ h9 => h9) rfl dX2_spread_94 ?_
              refine lv_iload_n hx hb dX2_spread_97 rfl (lv_at hl 1 rfl) ?_
              refine lv_bipush (v := nI 15) hx hb dX2_spread_98 (by decide) ?_
              refine kn_isub hx hb (by omega) dX2_spread_100 ?_
              refine kn_iald hx hb hK hP 2 0 rfl rfl (i := 16 + i2 - 15) (by omega) (by decide) dX2_spread_101 ?_
              refine lv_istore_n (lv' := [(3, .int ((kSchN (kSeg sc (fun t => kWd (fun j => f j &&& nI 255) (at9 + 4 * t)) 0 16) i2) (16 + i2 - 15))), (0, .ref h), (2, .int (nI (16 + i2)))]) hx hb dX2_spread_102 rfl hl (by decide) rfl (fun ls hl => ?_)
              refine lv_aload_n hx hb dX2_spread_103 rfl (lv_at hl 1 rfl) ?_
              refine va_get (D := D) (ci := 2) (v := .ref ac) (C := RX2) (T := TX2) (N := 4) hx hb hts inX2 hown hK hP 0 rfl rfl 3 (by decide) hwd0 (fun _ h9 => h9) rfl dX2_spread_104 ?_
              refine lv_iload_n hx hb dX2_spread_107 rfl (lv_at hl 2 rfl) ?_
              refine lv_iconst (v := nI 2) hx hb dX2_spread_108 (by decide) ?_
              refine kn_isub hx hb (by omega) dX2_spread_109 ?_
              refine kn_iald hx hb hK hP 2 0 rfl rfl (i := 16 + i2 - 2) (by omega) (by decide) dX2_spread_110 ?_
              refine lv_istore (lv' := [(4, .int ((kSchN (kSeg sc (fun t => kWd (fun j => f j &&& nI 255) (at9 + 4 * t)) 0 16) i2) (16 + i2 - 2))), (3, .int ((kSchN (kSeg sc (fun t => kWd (fun j => f j &&& nI 255) (at9 + 4 * t)) 0 16) i2) (16 + i2 - 15))), (0, .ref h), (2, .int (nI (16 + i2)))]) hx hb dX2_spread_111 hl (by decide) rfl (fun ls hl => ?_)
              refine lv_iload_n hx hb dX2_spread_113 rfl (lv_at hl 1 rfl) ?_
              refine lv_bipush (v := nI 7) hx hb dX2_spread_114 (by decide) ?_
              refine kcS (As := [.int ((kSchN (kSeg sc (fun t => kWd (fun j => f j &&& nI 255) (at9 + 4 * t)) 0 16) i2) (16 + i2 - 15)), .int (nI 7)]) (rest := []) (ws := []) (wr := [(h, .inr (2, [.ref am, .int ln, .ref aw, .ref ac])), (am, .inl (D.1 21, 1536, .inl f)), (ac, .inl (D.1 20, 64, .inl (kSchN (kSeg sc (fun t => kWd (fun j => f j &&& nI 255) (at9 + 4 * t)) 0 16) i2)))]) ⟨hx, hb, hml, hown, hts⟩ (c_X2_turn l D ((kSchN (kSeg sc (fun t => kWd (fun j => f j &&& nI 255) (at9 + 4 * t)) 0 16) i2) (16 + i2 - 15)) (nI 7)) (va_cwS 2 hts gX2_spread_X2_turn rfl rfl rfl (by decide +kernel) ⟨Nat.le_of_ble_eq_true rfl, Nat.le_of_ble_eq_true rfl⟩) hK hE hP hD hS hA [] [0, 1, 2] rfl rfl rfl rfl (by decide) rfl hl.1 rfl (Nat.le_of_ble_eq_true rfl) dX2_spread_116 ⟨Nat.le_of_ble_eq_true rfl, Nat.le_of_ble_eq_true rfl⟩ (fun _ H locs hpo hP hD hS => ?_)
              have hP : va_P D kC [(h, .inr (2, [.ref am, .int ln, .ref aw, .ref ac])), (am, .inl (D.1 21, 1536, .inl f)), (ac, .inl (D.1 20, 64, .inl (kSchN (kSeg sc (fun t => kWd (fun j => f j &&& nI 255) (at9 + 4 * t)) 0 16) i2)))] _ := hP
              have hD : va_D A [(h, .inr (2, [.ref am, .int ln, .ref aw, .ref ac])), (am, .inl (D.1 21, 1536, .inl f)), (ac, .inl (D.1 20, 64, .inl (kSchN (kSeg sc (fun t => kWd (fun j => f j &&& nI 255) (at9 + 4 * t)) 0 16) i2)))] := hD
              refine W.eq (g2 := F0 m 119 ls [.int (kRot ((kSchN (kSeg sc (fun t => kWd (fun j => f j &&& nI 255) (at9 + 4 * t)) 0 16) i2) (16 + i2 - 15)) (nI 7))]) rfl ?_
              refine W.widen (k := 0) (n := 0) (Nat.le_of_ble_eq_true rfl) (Nat.le_of_ble_eq_true rfl) ?_
              refine lv_iload_n hx hb dX2_spread_119 rfl (lv_at hl 1 rfl) ?_
              refine lv_bipush (v := nI 18) hx hb dX2_spread_120 (by decide) ?_
              refine kcS (As := [.int ((kSchN (kSeg sc (fun t => kWd (fun j => f j &&& nI 255) (at9 + 4 * t)) 0 16) i2) (16 + i2 - 15)), .int (nI 18)]) (rest := [.int (kRot ((kSchN (kSeg sc (fun t => kWd (fun j => f j &&& nI 255) (at9 + 4 * t)) 0 16) i2) (16 + i2 - 15)) (nI 7))]) (ws := []) (wr := [(h, .inr (2, [.ref am, .int ln, .ref aw, .ref ac])), (am, .inl (D.1 21, 1536, .inl f)), (ac, .inl (D.1 20, 64, .inl (kSchN (kSeg sc (fun t => kWd (fun j => f j &&& nI 255) (at9 + 4 * t)) 0 16) i2)))]) ⟨hx, hb, hml, hown, hts⟩ (c_X2_turn l D ((kSchN (kSeg sc (fun t => kWd (fun j => f j &&& nI 255) (at9 + 4 * t)) 0 16) i2) (16 + i2 - 15)) (nI 18)) (va_cwS 2 hts gX2_spread_X2_turn rfl rfl rfl (by decide +kernel) ⟨Nat.le_of_ble_eq_true rfl, Nat.le_of_ble_eq_true rfl⟩) hK hE hP hD hS hA [] [0, 1, 2] rfl rfl rfl rfl (by decide) rfl hl.1 rfl (Nat.le_of_ble_eq_true rfl) dX2_spread_122 ⟨Nat.le_of_ble_eq_true rfl, Nat.le_of_ble_eq_true rfl⟩ (fun _ H locs hpo hP hD hS => ?_)
              have hP : va_P D kC [(h, .inr (2, [.ref am, .int ln, .ref aw, .ref ac])), (am, .inl (D.1 21, 1536, .inl f)), (ac, .inl (D.1 20, 64, .inl (kSchN (kSeg sc (fun t => kWd (fun j => f j &&& nI 255) (at9 + 4 * t)) 0 16) i2)))] _ := hP
              have hD : va_D A [(h, .inr (2, [.ref am, .int ln, .ref aw, .ref ac])), (am, .inl (D.1 21, 1536, .inl f)), (ac, .inl (D.1 20, 64, .inl (kSchN (kSeg sc (fun t => kWd (fun j => f j &&& nI 255) (at9 + 4 * t)) 0 16) i2)))] := hD
              refine W.eq (g2 := F0 m 125 ls [.int (kRot ((kSchN (kSeg sc (fun t => kWd (fun j => f j &&& nI 255) (at9 + 4 * t)) 0 16) i2) (16 + i2 - 15)) (nI 18)), .int (kRot ((kSchN (kSeg sc (fun t => kWd (fun j => f j &&& nI 255) (at9 + 4 * t)) 0 16) i2) (16 + i2 - 15)) (nI 7))]) rfl ?_
              refine W.widen (k := 0) (n := 0) (Nat.le_of_ble_eq_true rfl) (Nat.le_of_ble_eq_true rfl) ?_
              refine lv_ixor hx hb dX2_spread_125 ?_
              refine lv_iload_n hx hb dX2_spread_126 rfl (lv_at hl 1 rfl) ?_
              refine lv_iconst (v := nI 3) hx hb dX2_spread_127 (by decide) ?_
              refine lv_iushr (v := kShr ((kSchN (kSeg sc (fun t => kWd (fun j => f j &&& nI 255) (at9 + 4 * t)) 0 16) i2) (16 + i2 - 15)) (nI 3)) hx hb dX2_spread_128 rfl ?_
              refine lv_ixor hx hb dX2_spread_129 ?_
              refine lv_istore (lv' := [(5, .int (((kRot ((kSchN (kSeg sc (fun t => kWd (fun j => f j &&& nI 255) (at9 + 4 * t)) 0 16) i2) (16 + i2 - 15)) (nI 7)) ^^^ (kRot ((kSchN (kSeg sc (fun t => kWd (fun j => f j &&& nI 255) (at9 + 4 * t)) 0 16) i2) (16 + i2 - 15)) (nI 18))) ^^^ (kShr ((kSchN (kSeg sc (fun t => kWd (fun j => f j &&& nI 255) (at9 + 4 * t)) 0 16) i2) (16 + i2 - 15)) (nI 3)))), (4, .int ((kSchN (kSeg sc (fun t => kWd (fun j => f j &&& nI 255) (at9 + 4 * t)) 0 16) i2) (16 + i2 - 2))), (3, .int ((kSchN (kSeg sc (fun t => kWd (fun j => f j &&& nI 255) (at9 + 4 * t)) 0 16) i2) (16 + i2 - 15))), (0, .ref h), (2, .int (nI (16 + i2)))]) hx hb dX2_spread_130 hl (by decide) rfl (fun ls hl => ?_)
              refine lv_iload hx hb dX2_spread_132 (lv_at hl 1 rfl) ?_
              refine lv_bipush (v := nI 17) hx hb dX2_spread_134 (by decide) ?_
              refine kcS (As := [.int ((kSchN (kSeg sc (fun t => kWd (fun j => f j &&& nI 255) (at9 + 4 * t)) 0 16) i2) (16 + i2 - 2)), .int (nI 17)]) (rest := []) (ws := []) (wr := [(h, .inr (2, [.ref am, .int ln, .ref aw, .ref ac])), (am, .inl (D.1 21, 1536, .inl f)), (ac, .inl (D.1 20, 64, .inl (kSchN (kSeg sc (fun t => kWd (fun j => f j &&& nI 255) (at9 + 4 * t)) 0 16) i2)))]) ⟨hx, hb, hml, hown, hts⟩ (c_X2_turn l D ((kSchN (kSeg sc (fun t => kWd (fun j => f j &&& nI 255) (at9 + 4 * t)) 0 16) i2) (16 + i2 - 2)) (nI 17)) (va_cwS 2 hts gX2_spread_X2_turn rfl rfl rfl (by decide +kernel) ⟨Nat.le_of_ble_eq_true rfl, Nat.le_of_ble_eq_true rfl⟩) hK hE hP hD hS hA [] [0, 1, 2] rfl rfl rfl rfl (by decide) rfl hl.1 rfl (Nat.le_of_ble_eq_true rfl) dX2_spread_136 ⟨Nat.le_of_ble_eq_true rfl, Nat.le_of_ble_eq_true rfl⟩ (fun _ H locs hpo hP hD hS => ?_)
              have hP : va_P D kC [(h, .inr (2, [.ref am, .int ln, .ref aw, .ref ac])), (am, .inl (D.1 21, 1536, .inl f)), (ac, .inl (D.1 20, 64, .inl (kSchN (kSeg sc (fun t => kWd (fun j => f j &&& nI 255) (at9 + 4 * t)) 0 16) i2)))] _ := hP
              have hD : va_D A [(h, .inr (2, [.ref am, .int ln, .ref aw, .ref ac])), (am, .inl (D.1 21, 1536, .inl f)), (ac, .inl (D.1 20, 64, .inl (kSchN (kSeg sc (fun t => kWd (fun j => f j &&& nI 255) (at9 + 4 * t)) 0 16) i2)))] := hD
              refine W.eq (g2 := F0 m 139 ls [.int (kRot ((kSchN (kSeg sc (fun t => kWd (fun j => f j &&& nI 255) (at9 + 4 * t)) 0 16) i2) (16 + i2 - 2)) (nI 17))]) rfl ?_
              refine W.widen (k := 0) (n := 0) (Nat.le_of_ble_eq_true rfl) (Nat.le_of_ble_eq_true rfl) ?_
              refine lv_iload hx hb dX2_spread_139 (lv_at hl 1 rfl) ?_
              refine lv_bipush (v := nI 19) hx hb dX2_spread_141 (by decide) ?_
              refine kcS (As := [.int ((kSchN (kSeg sc (fun t => kWd (fun j => f j &&& nI 255) (at9 + 4 * t)) 0 16) i2) (16 + i2 - 2)), .int (nI 19)]) (rest := [.int (kRot ((kSchN (kSeg sc (fun t => kWd (fun j => f j &&& nI 255) (at9 + 4 * t)) 0 16) i2) (16 + i2 - 2)) (nI 17))]) (ws := []) (wr := [(h, .inr (2, [.ref am, .int ln, .ref aw, .ref ac])), (am, .inl (D.1 21, 1536, .inl f)), (ac, .inl (D.1 20, 64, .inl (kSchN (kSeg sc (fun t => kWd (fun j => f j &&& nI 255) (at9 + 4 * t)) 0 16) i2)))]) ⟨hx, hb, hml, hown, hts⟩ (c_X2_turn l D ((kSchN (kSeg sc (fun t => kWd (fun j => f j &&& nI 255) (at9 + 4 * t)) 0 16) i2) (16 + i2 - 2)) (nI 19)) (va_cwS 2 hts gX2_spread_X2_turn rfl rfl rfl (by decide +kernel) ⟨Nat.le_of_ble_eq_true rfl, Nat.le_of_ble_eq_true rfl⟩) hK hE hP hD hS hA [] [0, 1, 2] rfl rfl rfl rfl (by decide) rfl hl.1 rfl (Nat.le_of_ble_eq_true rfl) dX2_spread_143 ⟨Nat.le_of_ble_eq_true rfl, Nat.le_of_ble_eq_true rfl⟩ (fun _ H locs hpo hP hD hS => ?_)
              have hP : va_P D kC [(h, .inr (2, [.ref am, .int ln, .ref aw, .ref ac])), (am, .inl (D.1 21, 1536, .inl f)), (ac, .inl (D.1 20, 64, .inl (kSchN (kSeg sc (fun t => kWd (fun j => f j &&& nI 255) (at9 + 4 * t)) 0 16) i2)))] _ := hP
              have hD : va_D A [(h, .inr (2, [.ref am, .int ln, .ref aw, .ref ac])), (am, .inl (D.1 21, 1536, .inl f)), (ac, .inl (D.1 20, 64, .inl (kSchN (kSeg sc (fun t => kWd (fun j => f j &&& nI 255) (at9 + 4 * t)) 0 16) i2)))] := hD
              refine W.eq (g2 := F0 m 146 ls [.int (kRot ((kSchN (kSeg sc (fun t => kWd (fun j => f j &&& nI 255) (at9 + 4 * t)) 0 16) i2) (16 + i2 - 2)) (nI 19)), .int (kRot ((kSchN (kSeg sc (fun t => kWd (fun j => f j &&& nI 255) (at9 + 4 * t)) 0 16) i2) (16 + i2 - 2)) (nI 17))]) rfl ?_
              refine W.widen (k := 0) (n := 0) (Nat.le_of_ble_eq_true rfl) (Nat.le_of_ble_eq_true rfl) ?_
              refine lv_ixor hx hb dX2_spread_146 ?_
              refine lv_iload hx hb dX2_spread_147 (lv_at hl 1 rfl) ?_
              refine lv_bipush (v := nI 10) hx hb dX2_spread_149 (by decide) ?_
              refine lv_iushr (v := kShr ((kSchN (kSeg sc (fun t => kWd (fun j => f j &&& nI 255) (at9 + 4 * t)) 0 16) i2) (16 + i2 - 2)) (nI 10)) hx hb dX2_spread_151 rfl ?_
              refine lv_ixor hx hb dX2_spread_152 ?_
              refine lv_istore (lv' := [(6, .int (((kRot ((kSchN (kSeg sc (fun t => kWd (fun j => f j &&& nI 255) (at9 + 4 * t)) 0 16) i2) (16 + i2 - 2)) (nI 17)) ^^^ (kRot ((kSchN (kSeg sc (fun t => kWd (fun j => f j &&& nI 255) (at9 + 4 * t)) 0 16) i2) (16 + i2 - 2)) (nI 19))) ^^^ (kShr ((kSchN (kSeg sc (fun t => kWd (fun j => f j &&& nI 255) (at9 + 4 * t)) 0 16) i2) (16 + i2 - 2)) (nI 10)))), (5, .int (((kRot ((kSchN (kSeg sc (fun t => kWd (fun j => f j &&& nI 255) (at9 + 4 * t)) 0 16) i2) (16 + i2 - 15)) (nI 7)) ^^^ (kRot ((kSchN (kSeg sc (fun t => kWd (fun j => f j &&& nI 255) (at9 + 4 * t)) 0 16) i2) (16 + i2 - 15)) (nI 18))) ^^^ (kShr ((kSchN (kSeg sc (fun t => kWd (fun j => f j &&& nI 255) (at9 + 4 * t)) 0 16) i2) (16 + i2 - 15)) (nI 3)))), (4, .int ((kSchN (kSeg sc (fun t => kWd (fun j => f j &&& nI 255) (at9 + 4 * t)) 0 16) i2) (16 + i2 - 2))), (3, .int ((kSchN (kSeg sc (fun t => kWd (fun j => f j &&& nI 255) (at9 + 4 * t)) 0 16) i2) (16 + i2 - 15))), (0, .ref h), (2, .int (nI (16 + i2)))]) hx hb dX2_spread_153 hl (by decide) rfl (fun ls hl => ?_)
              refine lv_aload_n hx hb dX2_spread_155 rfl (lv_at hl 4 rfl) ?_
              refine va_get (D := D) (ci := 2) (v := .ref ac) (C := RX2) (T := TX2) (N := 4) hx hb hts inX2 hown hK hP 0 rfl rfl 3 (by decide) hwd0 (fun _ h9 => h9) rfl dX2_spread_156 ?_
              refine lv_iload_n hx hb dX2_spread_159 rfl (lv_at hl 5 rfl) ?_
              refine lv_iload hx hb dX2_spread_160 (lv_at hl 0 rfl) ?_
              refine lv_aload_n hx hb dX2_spread_162 rfl (lv_at hl 4 rfl) ?_
              refine va_get (D := D) (ci := 2) (v := .ref ac) (C := RX2) (T := TX2) (N := 4) hx hb hts inX2 hown hK hP 0 rfl rfl 3 (by decide) hwd0 (fun _ h9 => h9) rfl dX2_spread_163 ?_
              refine lv_iload_n hx hb dX2_spread_166 rfl (lv_at hl 5 rfl) ?_
              refine lv_bipush (v := nI 7) hx hb dX2_spread_167 (by decide) ?_
              refine kn_isub hx hb (by omega) dX2_spread_169 ?_
              refine kn_iald hx hb hK hP 2 0 rfl rfl (i := 16 + i2 - 7) (by omega) (by decide) dX2_spread_170 ?_
              refine lv_iadd hx hb dX2_spread_171 ?_
              refine lv_iload hx hb dX2_spread_172 (lv_at hl 1 rfl) ?_
              refine lv_iadd hx hb dX2_spread_174 ?_
              refine lv_aload_n hx hb dX2_spread_175 rfl (lv_at hl 4 rfl) ?_
              refine va_get (D := D) (ci := 2) (v := .ref ac) (C := RX2) (T := TX2) (N := 4) hx hb hts inX2 hown hK hP 0 rfl rfl 3 (by decide) hwd0 (fun _ h9 => h9) rfl dX2_spread_176 ?_
              refine lv_iload_n hx hb dX2_spread_179 rfl (lv_at hl 5 rfl) ?_
              refine lv_bipush (v := nI 16) hx hb dX2_spread_180 (by decide) ?_
              refine kn_isub hx hb (by omega) dX2_spread_182 ?_
              refine kn_iald hx hb hK hP 2 0 rfl rfl (i := 16 + i2 - 16) (by omega) (by decide) dX2_spread_183 ?_
              refine lv_iadd hx hb dX2_spread_184 ?_
              refine kn_iast hx hb hK hP hD hS 2 0 rfl rfl (i := 16 + i2) (by omega) (by decide) dX2_spread_185 (fun H locs hP hD hS => ?_)
              have hP : va_P D kC [(h, .inr (2, [.ref am, .int ln, .ref aw, .ref ac])), (am, .inl (D.1 21, 1536, .inl f)), (ac, .inl (D.1 20, 64, .inl (upd (kSchN (kSeg sc (fun t => kWd (fun j => f j &&& nI 255) (at9 + 4 * t)) 0 16) i2) (16 + i2) ((((((kRot ((kSchN (kSeg sc (fun t => kWd (fun j => f j &&& nI 255) (at9 + 4 * t)) 0 16) i2) (16 + i2 - 2)) (nI 17)) ^^^ (kRot ((kSchN (kSeg sc (fun t => kWd (fun j => f j &&& nI 255) (at9 + 4 * t)) 0 16) i2) (16 + i2 - 2)) (nI 19))) ^^^ (kShr ((kSchN (kSeg sc (fun t => kWd (fun j => f j &&& nI 255) (at9 + 4 * t)) 0 16) i2) (16 + i2 - 2)) (nI 10))) + ((kSchN (kSeg sc (fun t => kWd (fun j => f j &&& nI 255) (at9 + 4 * t)) 0 16) i2) (16 + i2 - 7))) + (((kRot ((kSchN (kSeg sc (fun t => kWd (fun j => f j &&& nI 255) (at9 + 4 * t)) 0 16) i2) (16 + i2 - 15)) (nI 7)) ^^^ (kRot ((kSchN (kSeg sc (fun t => kWd (fun j => f j &&& nI 255) (at9 + 4 * t)) 0 16) i2) (16 + i2 - 15)) (nI 18))) ^^^ (kShr ((kSchN (kSeg sc (fun t => kWd (fun j => f j &&& nI 255) (at9 + 4 * t)) 0 16) i2) (16 + i2 - 15)) (nI 3)))) + ((kSchN (kSeg sc (fun t => kWd (fun j => f j &&& nI 255) (at9 + 4 * t)) 0 16) i2) (16 + i2 - 16))))))] _ := hP
              have hD : va_D A [(h, .inr (2, [.ref am, .int ln, .ref aw, .ref ac])), (am, .inl (D.1 21, 1536, .inl f)), (ac, .inl (D.1 20, 64, .inl (upd (kSchN (kSeg sc (fun t => kWd (fun j => f j &&& nI 255) (at9 + 4 * t)) 0 16) i2) (16 + i2) ((((((kRot ((kSchN (kSeg sc (fun t => kWd (fun j => f j &&& nI 255) (at9 + 4 * t)) 0 16) i2) (16 + i2 - 2)) (nI 17)) ^^^ (kRot ((kSchN (kSeg sc (fun t => kWd (fun j => f j &&& nI 255) (at9 + 4 * t)) 0 16) i2) (16 + i2 - 2)) (nI 19))) ^^^ (kShr ((kSchN (kSeg sc (fun t => kWd (fun j => f j &&& nI 255) (at9 + 4 * t)) 0 16) i2) (16 + i2 - 2)) (nI 10))) + ((kSchN (kSeg sc (fun t => kWd (fun j => f j &&& nI 255) (at9 + 4 * t)) 0 16) i2) (16 + i2 - 7))) + (((kRot ((kSchN (kSeg sc (fun t => kWd (fun j => f j &&& nI 255) (at9 + 4 * t)) 0 16) i2) (16 + i2 - 15)) (nI 7)) ^^^ (kRot ((kSchN (kSeg sc (fun t => kWd (fun j => f j &&& nI 255) (at9 + 4 * t)) 0 16) i2) (16 + i2 - 15)) (nI 18))) ^^^ (kShr ((kSchN (kSeg sc (fun t => kWd (fun j => f j &&& nI 255) (at9 + 4 * t)) 0 16) i2) (16 + i2 - 15)) (nI 3)))) + ((kSchN (kSeg sc (fun t => kWd (fun j => f j &&& nI 255) (at9 + 4 * t)) 0 16) i2) (16 + i2 - 16))))))] := hD
              have ef9 : upd (kSchN (kSeg sc (fun t => kWd (fun j => f j &&& nI 255) (at9 + 4 * t)) 0 16) i2) (16 + i2) ((((((kRot ((kSchN (kSeg sc (fun t => kWd (fun j => f j &&& nI 255) (at9 + 4 * t)) 0 16) i2) (16 + i2 - 2)) (nI 17)) ^^^ (kRot ((kSchN (kSeg sc (fun t => kWd (fun j => f j &&& nI 255) (at9 + 4 * t)) 0 16) i2) (16 + i2 - 2)) (nI 19))) ^^^ (kShr ((kSchN (kSeg sc (fun t => kWd (fun j => f j &&& nI 255) (at9 + 4 * t)) 0 16) i2) (16 + i2 - 2)) (nI 10))) + ((kSchN (kSeg sc (fun t => kWd (fun j => f j &&& nI 255) (at9 + 4 * t)) 0 16) i2) (16 + i2 - 7))) + (((kRot ((kSchN (kSeg sc (fun t => kWd (fun j => f j &&& nI 255) (at9 + 4 * t)) 0 16) i2) (16 + i2 - 15)) (nI 7)) ^^^ (kRot ((kSchN (kSeg sc (fun t => kWd (fun j => f j &&& nI 255) (at9 + 4 * t)) 0 16) i2) (16 + i2 - 15)) (nI 18))) ^^^ (kShr ((kSchN (kSeg sc (fun t => kWd (fun j => f j &&& nI 255) (at9 + 4 * t)) 0 16) i2) (16 + i2 - 15)) (nI 3)))) + ((kSchN (kSeg sc (fun t => kWd (fun j => f j &&& nI 255) (at9 + 4 * t)) 0 16) i2) (16 + i2 - 16))) = kSchN (kSeg sc (fun t => kWd (fun j => f j &&& nI 255) (at9 + 4 * t)) 0 16) (i2 + 1) := rfl
              rw [ef9] at hP hD
              refine lv_iinc (v := nI (16 + (i2 + 1))) (lv' := [(2, .int (nI (16 + (i2 + 1)))), (6, .int (((kRot ((kSchN (kSeg sc (fun t => kWd (fun j => f j &&& nI 255) (at9 + 4 * t)) 0 16) i2) (16 + i2 - 2)) (nI 17)) ^^^ (kRot ((kSchN (kSeg sc (fun t => kWd (fun j => f j &&& nI 255) (at9 + 4 * t)) 0 16) i2) (16 + i2 - 2)) (nI 19))) ^^^ (kShr ((kSchN (kSeg sc (fun t => kWd (fun j => f j &&& nI 255) (at9 + 4 * t)) 0 16) i2) (16 + i2 - 2)) (nI 10)))), (5, .int (((kRot ((kSchN (kSeg sc (fun t => kWd (fun j => f j &&& nI 255) (at9 + 4 * t)) 0 16) i2) (16 + i2 - 15)) (nI 7)) ^^^ (kRot ((kSchN (kSeg sc (fun t => kWd (fun j => f j &&& nI 255) (at9 + 4 * t)) 0 16) i2) (16 + i2 - 15)) (nI 18))) ^^^ (kShr ((kSchN (kSeg sc (fun t => kWd (fun j => f j &&& nI 255) (at9 + 4 * t)) 0 16) i2) (16 + i2 - 15)) (nI 3)))), (4, .int ((kSchN (kSeg sc (fun t => kWd (fun j => f j &&& nI 255) (at9 + 4 * t)) 0 16) i2) (16 + i2 - 2))), (3, .int ((kSchN (kSeg sc (fun t => kWd (fun j => f j &&& nI 255) (at9 + 4 * t)) 0 16) i2) (16 + i2 - 15))), (0, .ref h)]) hx hb dX2_spread_186 hl (k := 5) rfl (nI_1 _) (by decide) rfl (fun ls hl => ?_)
              refine lv_goto (tgt := 87) hx hb dX2_spread_189 (by decide) ?_
              exact ih_lc (i2 + 1) (by omega) (by omega) _ _ hP hD hS ls (lv_sub hl [5, 0] rfl)
        exact lc 49 0 (by omega) (by omega) _ _ hP hD hS ls (lv_sub hl [1, 0] rfl)
      · refine lv_iload_n hx hb dX2_spread_8 rfl (lv_at hl 1 rfl) ?_
        refine lv_iconst (v := nI 4) hx hb dX2_spread_9 (by decide) ?_
        refine lv_iload_n hx hb dX2_spread_10 rfl (lv_at hl 2 rfl) ?_
        refine kn_imul hx hb dX2_spread_11 ?_
        refine kn_iadd hx hb dX2_spread_12 ?_
        refine lv_istore_n (lv' := [(3, .int (nI (at9 + (4 * i1)))), (0, .ref h), (1, .int (nI at9)), (2, .int (nI i1))]) hx hb dX2_spread_13 rfl hl (by decide) rfl (fun ls hl => ?_)
        refine lv_aload_n hx hb dX2_spread_14 rfl (lv_at hl 1 rfl) ?_
        refine va_get (D := D) (ci := 2) (v := .ref ac) (C := RX2) (T := TX2) (N := 4) hx hb hts inX2 hown hK hP 0 rfl rfl 3 (by decide) hwd0 (fun _ h9 => h9) rfl dX2_spread_15 ?_
        refine lv_iload_n hx hb dX2_spread_18 rfl (lv_at hl 3 rfl) ?_
        refine lv_aload_n hx hb dX2_spread_19 rfl (lv_at hl 1 rfl) ?_
        refine va_get (D := D) (ci := 2) (v := .ref am) (C := RX2) (T := TX2) (N := 4) hx hb hts inX2 hown hK hP 0 rfl rfl 0 (by decide) hwd1 (fun _ h9 => h9) rfl dX2_spread_20 ?_
        refine lv_iload_n hx hb dX2_spread_23 rfl (lv_at hl 0 rfl) ?_
        refine kn_bald hx hb hK hP 1 1 rfl rfl (i := at9 + (4 * i1)) (by omega) (by decide) dX2_spread_24 ?_
        refine lv_sipush (v := nI 255) hx hb dX2_spread_25 (by decide) ?_
        refine lv_iand hx hb dX2_spread_28 ?_
        refine lv_bipush (v := nI 24) hx hb dX2_spread_29 (by decide) ?_
        refine lv_ishl hx hb dX2_spread_31 ?_
        refine lv_aload_n hx hb dX2_spread_32 rfl (lv_at hl 1 rfl) ?_
        refine va_get (D := D) (ci := 2) (v := .ref am) (C := RX2) (T := TX2) (N := 4) hx hb hts inX2 hown hK hP 0 rfl rfl 0 (by decide) hwd1 (fun _ h9 => h9) rfl dX2_spread_33 ?_
        refine lv_iload_n hx hb dX2_spread_36 rfl (lv_at hl 0 rfl) ?_
        refine lv_iconst (v := nI 1) hx hb dX2_spread_37 (by decide) ?_
        refine kn_iadd hx hb dX2_spread_38 ?_
        refine kn_bald hx hb hK hP 1 1 rfl rfl (i := at9 + (4 * i1) + 1) (by omega) (by decide) dX2_spread_39 ?_
        refine lv_sipush (v := nI 255) hx hb dX2_spread_40 (by decide) ?_
        refine lv_iand hx hb dX2_spread_43 ?_
        refine lv_bipush (v := nI 16) hx hb dX2_spread_44 (by decide) ?_
        refine lv_ishl hx hb dX2_spread_46 ?_
        refine lv_ior hx hb dX2_spread_47 ?_
        refine lv_aload_n hx hb dX2_spread_48 rfl (lv_at hl 1 rfl) ?_
        refine va_get (D := D) (ci := 2) (v := .ref am) (C := RX2) (T := TX2) (N := 4) hx hb hts inX2 hown hK hP 0 rfl rfl 0 (by decide) hwd1 (fun _ h9 => h9) rfl dX2_spread_49 ?_
        refine lv_iload_n hx hb dX2_spread_52 rfl (lv_at hl 0 rfl) ?_
        refine lv_iconst (v := nI 2) hx hb dX2_spread_53 (by decide) ?_
        refine kn_iadd hx hb dX2_spread_54 ?_
        refine kn_bald hx hb hK hP 1 1 rfl rfl (i := at9 + (4 * i1) + 2) (by omega) (by decide) dX2_spread_55 ?_
        refine lv_sipush (v := nI 255) hx hb dX2_spread_56 (by decide) ?_
        refine lv_iand hx hb dX2_spread_59 ?_
        refine lv_bipush (v := nI 8) hx hb dX2_spread_60 (by decide) ?_
        refine lv_ishl hx hb dX2_spread_62 ?_
        refine lv_ior hx hb dX2_spread_63 ?_
        refine lv_aload_n hx hb dX2_spread_64 rfl (lv_at hl 1 rfl) ?_
        refine va_get (D := D) (ci := 2) (v := .ref am) (C := RX2) (T := TX2) (N := 4) hx hb hts inX2 hown hK hP 0 rfl rfl 0 (by decide) hwd1 (fun _ h9 => h9) rfl dX2_spread_65 ?_
        refine lv_iload_n hx hb dX2_spread_68 rfl (lv_at hl 0 rfl) ?_
        refine lv_iconst (v := nI 3) hx hb dX2_spread_69 (by decide) ?_
        refine kn_iadd hx hb dX2_spread_70 ?_
        refine kn_bald hx hb hK hP 1 1 rfl rfl (i := at9 + (4 * i1) + 3) (by omega) (by decide) dX2_spread_71 ?_
        refine lv_sipush (v := nI 255) hx hb dX2_spread_72 (by decide) ?_
        refine lv_iand hx hb dX2_spread_75 ?_
        refine lv_ior hx hb dX2_spread_76 ?_
        refine kn_iast hx hb hK hP hD hS 2 0 rfl rfl (i := i1) (by omega) (by decide) dX2_spread_77 (fun H locs hP hD hS => ?_)
        have hP : va_P D kC [(h, .inr (2, [.ref am, .int ln, .ref aw, .ref ac])), (am, .inl (D.1 21, 1536, .inl f)), (ac, .inl (D.1 20, 64, .inl (upd (kSeg sc (fun t => kWd (fun j => f j &&& nI 255) (at9 + 4 * t)) 0 i1) i1 ((((((f (at9 + (4 * i1))) &&& (nI 255)) <<< ((nI 24) &&& 31)) ||| (((f (at9 + (4 * i1) + 1)) &&& (nI 255)) <<< ((nI 16) &&& 31))) ||| (((f (at9 + (4 * i1) + 2)) &&& (nI 255)) <<< ((nI 8) &&& 31))) ||| ((f (at9 + (4 * i1) + 3)) &&& (nI 255))))))] _ := hP
        have hD : va_D A [(h, .inr (2, [.ref am, .int ln, .ref aw, .ref ac])), (am, .inl (D.1 21, 1536, .inl f)), (ac, .inl (D.1 20, 64, .inl (upd (kSeg sc (fun t => kWd (fun j => f j &&& nI 255) (at9 + 4 * t)) 0 i1) i1 ((((((f (at9 + (4 * i1))) &&& (nI 255)) <<< ((nI 24) &&& 31)) ||| (((f (at9 + (4 * i1) + 1)) &&& (nI 255)) <<< ((nI 16) &&& 31))) ||| (((f (at9 + (4 * i1) + 2)) &&& (nI 255)) <<< ((nI 8) &&& 31))) ||| ((f (at9 + (4 * i1) + 3)) &&& (nI 255))))))] := hD
        have ef10 : upd (kSeg sc (fun t => kWd (fun j => f j &&& nI 255) (at9 + 4 * t)) 0 i1) i1 ((((((f (at9 + (4 * i1))) &&& (nI 255)) <<< ((nI 24) &&& 31)) ||| (((f (at9 + (4 * i1) + 1)) &&& (nI 255)) <<< ((nI 16) &&& 31))) ||| (((f (at9 + (4 * i1) + 2)) &&& (nI 255)) <<< ((nI 8) &&& 31))) ||| ((f (at9 + (4 * i1) + 3)) &&& (nI 255))) = kSeg sc (fun t => kWd (fun j => f j &&& nI 255) (at9 + 4 * t)) 0 (i1 + 1) := kSeg_up (Nat.zero_le _) rfl
        rw [ef10] at hP hD
        refine lv_iinc (v := nI (i1 + 1)) (lv' := [(2, .int (nI (i1 + 1))), (3, .int (nI (at9 + (4 * i1)))), (0, .ref h), (1, .int (nI at9))]) hx hb dX2_spread_78 hl (k := 3) rfl (nI_1 _) (by decide) rfl (fun ls hl => ?_)
        refine lv_goto (tgt := 2) hx hb dX2_spread_81 (by decide) ?_
        exact ih_la (i1 + 1) (by omega) (by omega) _ _ hP hD hS ls (lv_sub hl [2, 3, 0] rfl)
  exact la 17 0 (by omega) (by omega) _ _ (by rw [kSeg_0]; exact hP) (by rw [kSeg_0]; exact hD) hS ls (lv_sub hl [1, 2, 0] rfl)

theorem iX2_stir_X2 : ∀ w ∈ wsX20, w ∈ wsX2_stir := by decide +kernel
theorem X2_stir_hwd0 : (.fieldLink RX2 15 "SignatureSpans$Sha256" "words" "[I" : Cond) ∈ wsX2_stir := by decide +kernel
theorem X2_stir_hwd1 : (.fieldLink RX2 49 "SignatureSpans$Sha256" "ROUND" "[I" : Cond) ∈ wsX2_stir := by decide +kernel
theorem X2_stir_hwd2 : (.fieldLink RX2 19 "SignatureSpans$Sha256" "schedule" "[I" : Cond) ∈ wsX2_stir := by decide +kernel
set_option maxHeartbeats 4000000 in
set_option maxRecDepth 100000 in
/-- stir -/
theorem c_X2_stir (l : Launch) (D : va_G) (h am aw ac : Nat) (ln : Int32) (wd sc : Nat → Int32) : kM (S := Unit) l yX2_stir wsX2_stir ({ frames := 8, cells := 0, slots := 0, locals := 160 }) 0 0 D [.ref h] [(h, .inr (2, [.ref am, .int ln, .ref aw, .ref ac])), (aw, .inl (D.1 20, 8, .inl wd)), (ac, .inl (D.1 20, 64, .inl sc))] (fun _ => none) (fun _ => [(h, .inr (2, [.ref am, .int ln, .ref aw, .ref ac])), (aw, .inl (D.1 20, 8, .inl (kSeg wd (fun j => wd j + kRN sc wd 64 j) 0 8))), (ac, .inl (D.1 20, 64, .inl sc))]) (fun _ => True) := by
  intro sz
  refine Met.ofW (cc := cX2_stir) (maxL := 14) (ret := none) (by decide) rfl ?_
  intro p e s m args below meth c s₁ B hml hv
  obtain ⟨rfl, hsz, hP, hK, hD0, hE⟩ := hv
  have hx := B.exec
  have hb := B.bytes
  have hr := B.returns
  have hts := atoms_spec (ws := wsX2_stir) B.pre
  have hown : s.vm.findClass RX2 = some m.cls := findClass_of_methodNamed B.named
  have hlocks := B.notSynchronized
  subst hsz
  have hD := hD0.self (sz := s.heap.size)
  generalize hAe : va_A [(h, .inr (2, [.ref am, .int ln, .ref aw, .ref ac])), (aw, .inl (D.1 20, 8, .inl wd)), (ac, .inl (D.1 20, 64, .inl sc))] s.heap.size = A at hD hE ⊢
  have hA : ∀ q : Nat, s.heap.size ≤ q → A q := fun q h => by rw [← hAe]; exact Or.inr h
  have hS : va_S A s.heap s.heap [] := va_S.rf
  have hl := lv_entry ([.ref h]) (n := 14) (Nat.le_of_ble_eq_true rfl)
  have inX2 : ∀ w ∈ wsX20, w ∈ wsX2_stir := iX2_stir_X2
  have hwd0 := hts (.fieldLink RX2 15 "SignatureSpans$Sha256" "words" "[I") X2_stir_hwd0
  have hwd1 := hts (.fieldLink RX2 49 "SignatureSpans$Sha256" "ROUND" "[I") X2_stir_hwd1
  have hwd2 := hts (.fieldLink RX2 19 "SignatureSpans$Sha256" "schedule" "[I") X2_stir_hwd2
  refine kgenQ (fun Q hQ => ?_)
  rw [lg_entry_eq]
  generalize (lg_sl ([.ref h]) ++ List.replicate (14 - (lg_sl ([.ref h])).length) Slot.unset).toArray = ls at hl ⊢
  have hl : lv_has ls 14 [(0, .ref h)] := hl
  refine lv_aload_n hx hb dX2_stir_0 rfl (lv_at hl 0 rfl) ?_
  refine va_get (D := D) (ci := 2) (v := .ref aw) (C := RX2) (T := TX2) (N := 4) hx hb hts inX2 hown hK hP 0 rfl rfl 2 (by decide) hwd0 (fun _ h9 => h9) rfl dX2_stir_1 ?_
  refine lv_iconst (v := nI 0) hx hb dX2_stir_4 (by decide) ?_
  refine kn_iald hx hb hK hP 1 0 rfl rfl (i := 0) (by omega) (by decide) dX2_stir_5 ?_
  refine lv_istore_n (lv' := [(1, .int (wd 0)), (0, .ref h)]) hx hb dX2_stir_6 rfl hl (by decide) rfl (fun ls hl => ?_)
  refine lv_aload_n hx hb dX2_stir_7 rfl (lv_at hl 1 rfl) ?_
  refine va_get (D := D) (ci := 2) (v := .ref aw) (C := RX2) (T := TX2) (N := 4) hx hb hts inX2 hown hK hP 0 rfl rfl 2 (by decide) hwd0 (fun _ h9 => h9) rfl dX2_stir_8 ?_
  refine lv_iconst (v := nI 1) hx hb dX2_stir_11 (by decide) ?_
  refine kn_iald hx hb hK hP 1 0 rfl rfl (i := 1) (by omega) (by decide) dX2_stir_12 ?_
  refine lv_istore_n (lv' := [(2, .int (wd 1)), (1, .int (wd 0)), (0, .ref h)]) hx hb dX2_stir_13 rfl hl (by decide) rfl (fun ls hl => ?_)
  refine lv_aload_n hx hb dX2_stir_14 rfl (lv_at hl 2 rfl) ?_
  refine va_get (D := D) (ci := 2) (v := .ref aw) (C := RX2) (T := TX2) (N := 4) hx hb hts inX2 hown hK hP 0 rfl rfl 2 (by decide) hwd0 (fun _ h9 => h9) rfl dX2_stir_15 ?_
  refine lv_iconst (v := nI 2) hx hb dX2_stir_18 (by decide) ?_
  refine kn_iald hx hb hK hP 1 0 rfl rfl (i := 2) (by omega) (by decide) dX2_stir_19 ?_
  refine lv_istore_n (lv' := [(3, .int (wd 2)), (2, .int (wd 1)), (1, .int (wd 0)), (0, .ref h)]) hx hb dX2_stir_20 rfl hl (by decide) rfl (fun ls hl => ?_)
  refine lv_aload_n hx hb dX2_stir_21 rfl (lv_at hl 3 rfl) ?_
  refine va_get (D := D) (ci := 2) (v := .ref aw) (C := RX2) (T := TX2) (N := 4) hx hb hts inX2 hown hK hP 0 rfl rfl 2 (by decide) hwd0 (fun _ h9 => h9) rfl dX2_stir_22 ?_
  refine lv_iconst (v := nI 3) hx hb dX2_stir_25 (by decide) ?_
  refine kn_iald hx hb hK hP 1 0 rfl rfl (i := 3) (by omega) (by decide) dX2_stir_26 ?_
  refine lv_istore (lv' := [(4, .int (wd 3)), (3, .int (wd 2)), (2, .int (wd 1)), (1, .int (wd 0)), (0, .ref h)]) hx hb dX2_stir_27 hl (by decide) rfl (fun ls hl => ?_)
  refine lv_aload_n hx hb dX2_stir_29 rfl (lv_at hl 4 rfl) ?_
  refine va_get (D := D) (ci := 2) (v := .ref aw) (C := RX2) (T := TX2) (N := 4) hx hb hts inX2 hown hK hP 0 rfl rfl 2 (by decide) hwd0 (fun _ h9 => h9) rfl dX2_stir_30 ?_
  refine lv_iconst (v := nI 4) hx hb dX2_stir_33 (by decide) ?_
  refine kn_iald hx hb hK hP 1 0 rfl rfl (i := 4) (by omega) (by decide) dX2_stir_34 ?_
  refine lv_istore (lv' := [(5, .int (wd 4)), (4, .int (wd 3)), (3, .int (wd 2)), (2, .int (wd 1)), (1, .int (wd 0)), (0, .ref h)]) hx hb dX2_stir_35 hl (by decide) rfl (fun ls hl => ?_)
  refine lv_aload_n hx hb dX2_stir_37 rfl (lv_at hl 5 rfl) ?_
  refine va_get (D := D) (ci := 2) (v := .ref aw) (C := RX2) (T := TX2) (N := 4) hx hb hts inX2 hown hK hP 0 rfl rfl 2 (by decide) hwd0 (fun _ h9 => h9) rfl dX2_stir_38 ?_
  refine lv_iconst (v := nI 5) hx hb dX2_stir_41 (by decide) ?_
  refine kn_iald hx hb hK hP 1 0 rfl rfl (i := 5) (by omega) (by decide) dX2_stir_42 ?_
  refine lv_istore (lv' := [(6, .int (wd 5)), (5, .int (wd 4)), (4, .int (wd 3)), (3, .int (wd 2)), (2, .int (wd 1)), (1, .int (wd 0)), (0, .ref h)]) hx hb dX2_stir_43 hl (by decide) rfl (fun ls hl => ?_)
  refine lv_aload_n hx hb dX2_stir_45 rfl (lv_at hl 6 rfl) ?_
  refine va_get (D := D) (ci := 2) (v := .ref aw) (C := RX2) (T := TX2) (N := 4) hx hb hts inX2 hown hK hP 0 rfl rfl 2 (by decide) hwd0 (fun _ h9 => h9) rfl dX2_stir_46 ?_
  refine lv_bipush (v := nI 6) hx hb dX2_stir_49 (by decide) ?_
  refine kn_iald hx hb hK hP 1 0 rfl rfl (i := 6) (by omega) (by decide) dX2_stir_51 ?_
  refine lv_istore (lv' := [(7, .int (wd 6)), (6, .int (wd 5)), (5, .int (wd 4)), (4, .int (wd 3)), (3, .int (wd 2)), (2, .int (wd 1)), (1, .int (wd 0)), (0, .ref h)]) hx hb dX2_stir_52 hl (by decide) rfl (fun ls hl => ?_)
  refine lv_aload_n hx hb dX2_stir_54 rfl (lv_at hl 7 rfl) ?_
  refine va_get (D := D) (ci := 2) (v := .ref aw) (C := RX2) (T := TX2) (N := 4) hx hb hts inX2 hown hK hP 0 rfl rfl 2 (by decide) hwd0 (fun _ h9 => h9) rfl dX2_stir_55 ?_
  refine lv_bipush (v := nI 7) hx hb dX2_stir_58 (by decide) ?_
  refine kn_iald hx hb hK hP 1 0 rfl rfl (i := 7) (by omega) (by decide) dX2_stir_60 ?_
  refine lv_istore (lv' := [(8, .int (wd 7)), (7, .int (wd 6)), (6, .int (wd 5)), (5, .int (wd 4)), (4, .int (wd 3)), (3, .int (wd 2)), (2, .int (wd 1)), (1, .int (wd 0)), (0, .ref h)]) hx hb dX2_stir_61 hl (by decide) rfl (fun ls hl => ?_)
  refine lv_iconst (v := nI 0) hx hb dX2_stir_63 (by decide) ?_
  refine lv_istore (lv' := [(9, .int (nI 0)), (8, .int (wd 7)), (7, .int (wd 6)), (6, .int (wd 5)), (5, .int (wd 4)), (4, .int (wd 3)), (3, .int (wd 2)), (2, .int (wd 1)), (1, .int (wd 0)), (0, .ref h)]) hx hb dX2_stir_64 hl (by decide) rfl (fun ls hl => ?_)
  have lr : ∀ fu : Nat, ∀ (i1 : Nat), (i1 ≤ 64) → (65 ≤ i1 + fu) → ∀ (H : Heap) (locs : List Loc), va_P D kC [(h, .inr (2, [.ref am, .int ln, .ref aw, .ref ac])), (aw, .inl (D.1 20, 8, .inl wd)), (ac, .inl (D.1 20, 64, .inl sc))] H → va_D A [(h, .inr (2, [.ref am, .int ln, .ref aw, .ref ac])), (aw, .inl (D.1 20, 8, .inl wd)), (ac, .inl (D.1 20, 64, .inl sc))] → va_S A s.heap H locs → ∀ (ls : Array Slot), lv_has ls 14 [(0, .ref h), (1, .int (kRN sc wd i1 0)), (2, .int (kRN sc wd i1 1)), (3, .int (kRN sc wd i1 2)), (4, .int (kRN sc wd i1 3)), (5, .int (kRN sc wd i1 4)), (6, .int (kRN sc wd i1 5)), (7, .int (kRN sc wd i1 6)), (8, .int (kRN sc wd i1 7)), (9, .int (nI i1))] → W p l e (headSpec wsX2_stir ({ frames := 8, cells := 0, slots := 0, locals := 160 })).room s m #[Value.ref h] below meth c H locs 0 0 Q (F0 m 66 ls []) := by
    intro fu
    induction fu with
    | zero =>
      intro i1 h1 hfu H locs hP hD hS ls hl
      exfalso; omega
    | succ fu ih_lr =>
      intro i1 h1 hfu H locs hP hD hS ls hl
      refine lv_iload hx hb dX2_stir_66 (lv_at hl 9 rfl) ?_
      refine lv_bipush (v := nI 64) hx hb dX2_stir_68 (by decide) ?_
      refine kn_icmp_ge (tgt := 209) hx hb (by omega) (by omega) dX2_stir_70 (by decide) (fun c_70 => ?_) (fun c_70 => ?_)
      · have ev : i1 = 64 := by omega
        subst ev
        have ef11 : wd = kSeg wd (fun j => wd j + kRN sc wd 64 j) 0 0 := (kSeg_0 _ _ _).symm
        rw [ef11] at hP hD
        refine lv_aload_n hx hb dX2_stir_209 rfl (lv_at hl 0 rfl) ?_
        refine va_get (D := D) (ci := 2) (v := .ref aw) (C := RX2) (T := TX2) (N := 4) hx hb hts inX2 hown hK hP 0 rfl rfl 2 (by decide) hwd0 (fun _ h9 => h9) rfl dX2_stir_210 ?_
        refine lv_iconst (v := nI 0) hx hb dX2_stir_213 (by decide) ?_
        refine lv_dup2_11 hx hb dX2_stir_214 rfl rfl ?_
        refine kn_iald hx hb hK hP 1 0 rfl rfl (i := 0) (by omega) (by decide) dX2_stir_215 ?_
        refine lv_iload_n hx hb dX2_stir_216 rfl (lv_at hl 1 rfl) ?_
        refine lv_iadd hx hb dX2_stir_217 ?_
        refine kn_iast hx hb hK hP hD hS 1 0 rfl rfl (i := 0) (by omega) (by decide) dX2_stir_218 (fun H locs hP hD hS => ?_)
        have hP : va_P D kC [(h, .inr (2, [.ref am, .int ln, .ref aw, .ref ac])), (aw, .inl (D.1 20, 8, .inl (upd (kSeg wd (fun j => wd j + kRN sc wd 64 j) 0 0) 0 (((kSeg wd (fun j => wd j + kRN sc wd 64 j) 0 0) 0) + (kRN sc wd 64 0))))), (ac, .inl (D.1 20, 64, .inl sc))] _ := hP
        have hD : va_D A [(h, .inr (2, [.ref am, .int ln, .ref aw, .ref ac])), (aw, .inl (D.1 20, 8, .inl (upd (kSeg wd (fun j => wd j + kRN sc wd 64 j) 0 0) 0 (((kSeg wd (fun j => wd j + kRN sc wd 64 j) 0 0) 0) + (kRN sc wd 64 0))))), (ac, .inl (D.1 20, 64, .inl sc))] := hD
        have ef12 : upd (kSeg wd (fun j => wd j + kRN sc wd 64 j) 0 0) 0 (((kSeg wd (fun j => wd j + kRN sc wd 64 j) 0 0) 0) + (kRN sc wd 64 0)) = kSeg wd (fun j => wd j + kRN sc wd 64 j) 0 1 := kSeg_up (Nat.zero_le _) (by show kSeg wd (fun j => wd j + kRN sc wd 64 j) 0 0 0 + _ = wd 0 + _; rw [kSeg_out (by omega)])
        rw [ef12] at hP hD
        refine lv_aload_n hx hb dX2_stir_219 rfl (lv_at hl 0 rfl) ?_
        refine va_get (D := D) (ci := 2) (v := .ref aw) (C := RX2) (T := TX2) (N := 4) hx hb hts inX2 hown hK hP 0 rfl rfl 2 (by decide) hwd0 (fun _ h9 => h9) rfl dX2_stir_220 ?_
        refine lv_iconst (v := nI 1) hx hb dX2_stir_223 (by decide) ?_
        refine lv_dup2_11 hx hb dX2_stir_224 rfl rfl ?_
        refine kn_iald hx hb hK hP 1 0 rfl rfl (i := 1) (by omega) (by decide) dX2_stir_225 ?_
        refine lv_iload_n hx hb dX2_stir_226 rfl (lv_at hl 2 rfl) ?_
        refine lv_iadd hx hb dX2_stir_227 ?_
        refine kn_iast hx hb hK hP hD hS 1 0 rfl rfl (i := 1) (by omega) (by decide) dX2_stir_228 (fun H locs hP hD hS => ?_)
        have hP : va_P D kC [(h, .inr (2, [.ref am, .int ln, .ref aw, .ref ac])), (aw, .inl (D.1 20, 8, .inl (upd (kSeg wd (fun j => wd j + kRN sc wd 64 j) 0 1) 1 (((kSeg wd (fun j => wd j + kRN sc wd 64 j) 0 1) 1) + (kRN sc wd 64 1))))), (ac, .inl (D.1 20, 64, .inl sc))] _ := hP
        have hD : va_D A [(h, .inr (2, [.ref am, .int ln, .ref aw, .ref ac])), (aw, .inl (D.1 20, 8, .inl (upd (kSeg wd (fun j => wd j + kRN sc wd 64 j) 0 1) 1 (((kSeg wd (fun j => wd j + kRN sc wd 64 j) 0 1) 1) + (kRN sc wd 64 1))))), (ac, .inl (D.1 20, 64, .inl sc))] := hD
        have ef13 : upd (kSeg wd (fun j => wd j + kRN sc wd 64 j) 0 1) 1 (((kSeg wd (fun j => wd j + kRN sc wd 64 j) 0 1) 1) + (kRN sc wd 64 1)) = kSeg wd (fun j => wd j + kRN sc wd 64 j) 0 2 := kSeg_up (Nat.zero_le _) (by show kSeg wd (fun j => wd j + kRN sc wd 64 j) 0 1 1 + _ = wd 1 + _; rw [kSeg_out (by omega)])
        rw [ef13] at hP hD
        refine lv_aload_n hx hb dX2_stir_229 rfl (lv_at hl 0 rfl) ?_
        refine va_get (D := D) (ci := 2) (v := .ref aw) (C := RX2) (T := TX2) (N := 4) hx hb hts inX2 hown hK hP 0 rfl rfl 2 (by decide) hwd0 (fun _ h9 => h9) rfl dX2_stir_230 ?_
        refine lv_iconst (v := nI 2) hx hb dX2_stir_233 (by decide) ?_
        refine lv_dup2_11 hx hb dX2_stir_234 rfl rfl ?_
        refine kn_iald hx hb hK hP 1 0 rfl rfl (i := 2) (by omega) (by decide) dX2_stir_235 ?_
        refine lv_iload_n hx hb dX2_stir_236 rfl (lv_at hl 3 rfl) ?_
        refine lv_iadd hx hb dX2_stir_237 ?_
        refine kn_iast hx hb hK hP hD hS 1 0 rfl rfl (i := 2) (by omega) (by decide) dX2_stir_238 (fun H locs hP hD hS => ?_)
        have hP : va_P D kC [(h, .inr (2, [.ref am, .int ln, .ref aw, .ref ac])), (aw, .inl (D.1 20, 8, .inl (upd (kSeg wd (fun j => wd j + kRN sc wd 64 j) 0 2) 2 (((kSeg wd (fun j => wd j + kRN sc wd 64 j) 0 2) 2) + (kRN sc wd 64 2))))), (ac, .inl (D.1 20, 64, .inl sc))] _ := hP
        have hD : va_D A [(h, .inr (2, [.ref am, .int ln, .ref aw, .ref ac])), (aw, .inl (D.1 20, 8, .inl (upd (kSeg wd (fun j => wd j + kRN sc wd 64 j) 0 2) 2 (((kSeg wd (fun j => wd j + kRN sc wd 64 j) 0 2) 2) + (kRN sc wd 64 2))))), (ac, .inl (D.1 20, 64, .inl sc))] := hD
        have ef14 : upd (kSeg wd (fun j => wd j + kRN sc wd 64 j) 0 2) 2 (((kSeg wd (fun j => wd j + kRN sc wd 64 j) 0 2) 2) + (kRN sc wd 64 2)) = kSeg wd (fun j => wd j + kRN sc wd 64 j) 0 3 := kSeg_up (Nat.zero_le _) (by show kSeg wd (fun j => wd j + kRN sc wd 64 j) 0 2 2 + _ = wd 2 + _; rw [kSeg_out (by omega)])
        rw [ef14] at hP hD
        refine lv_aload_n hx hb dX2_stir_239 rfl (lv_at hl 0 rfl) ?_
        refine va_get (D := D) (ci := 2) (v := .ref aw) (C := RX2) (T := TX2) (N := 4) hx hb hts inX2 hown hK hP 0 rfl rfl 2 (by decide) hwd0 (fun _ h9 => h9) rfl dX2_stir_240 ?_
        refine lv_iconst (v := nI 3) hx hb dX2_stir_243 (by decide) ?_
        refine lv_dup2_11 hx hb dX2_stir_244 rfl rfl ?_
        refine kn_iald hx hb hK hP 1 0 rfl rfl (i := 3) (by omega) (by decide) dX2_stir_245 ?_
        refine lv_iload hx hb dX2_stir_246 (lv_at hl 4 rfl) ?_
        refine lv_iadd hx hb dX2_stir_248 ?_
        refine kn_iast hx hb hK hP hD hS 1 0 rfl rfl (i := 3) (by omega) (by decide) dX2_stir_249 (fun H locs hP hD hS => ?_)
        have hP : va_P D kC [(h, .inr (2, [.ref am, .int ln, .ref aw, .ref ac])), (aw, .inl (D.1 20, 8, .inl (upd (kSeg wd (fun j => wd j + kRN sc wd 64 j) 0 3) 3 (((kSeg wd (fun j => wd j + kRN sc wd 64 j) 0 3) 3) + (kRN sc wd 64 3))))), (ac, .inl (D.1 20, 64, .inl sc))] _ := hP
        have hD : va_D A [(h, .inr (2, [.ref am, .int ln, .ref aw, .ref ac])), (aw, .inl (D.1 20, 8, .inl (upd (kSeg wd (fun j => wd j + kRN sc wd 64 j) 0 3) 3 (((kSeg wd (fun j => wd j + kRN sc wd 64 j) 0 3) 3) + (kRN sc wd 64 3))))), (ac, .inl (D.1 20, 64, .inl sc))] := hD
        have ef15 : upd (kSeg wd (fun j => wd j + kRN sc wd 64 j) 0 3) 3 (((kSeg wd (fun j => wd j + kRN sc wd 64 j) 0 3) 3) + (kRN sc wd 64 3)) = kSeg wd (fun j => wd j + kRN sc wd 64 j) 0 4 := kSeg_up (Nat.zero_le _) (by show kSeg wd (fun j => wd j + kRN sc wd 64 j) 0 3 3 + _ = wd 3 + _; rw [kSeg_out (by omega)])
        rw [ef15] at hP hD
        refine lv_aload_n hx hb dX2_stir_250 rfl (lv_at hl 0 rfl) ?_
        refine va_get (D := D) (ci := 2) (v := .ref aw) (C := RX2) (T := TX2) (N := 4) hx hb hts inX2 hown hK hP 0 rfl rfl 2 (by decide) hwd0 (fun _ h9 => h9) rfl dX2_stir_251 ?_
        refine lv_iconst (v := nI 4) hx hb dX2_stir_254 (by decide) ?_
        refine lv_dup2_11 hx hb dX2_stir_255 rfl rfl ?_
        refine kn_iald hx hb hK hP 1 0 rfl rfl (i := 4) (by omega) (by decide) dX2_stir_256 ?_
        refine lv_iload hx hb dX2_stir_257 (lv_at hl 5 rfl) ?_
        refine lv_iadd hx hb dX2_stir_259 ?_
        refine kn_iast hx hb hK hP hD hS 1 0 rfl rfl (i := 4) (by omega) (by decide) dX2_stir_260 (fun H locs hP hD hS => ?_)
        have hP : va_P D kC [(h, .inr (2, [.ref am, .int ln, .ref aw, .ref ac])), (aw, .inl (D.1 20, 8, .inl (upd (kSeg wd (fun j => wd j + kRN sc wd 64 j) 0 4) 4 (((kSeg wd (fun j => wd j + kRN sc wd 64 j) 0 4) 4) + (kRN sc wd 64 4))))), (ac, .inl (D.1 20, 64, .inl sc))] _ := hP
        have hD : va_D A [(h, .inr (2, [.ref am, .int ln, .ref aw, .ref ac])), (aw, .inl (D.1 20, 8, .inl (upd (kSeg wd (fun j => wd j + kRN sc wd 64 j) 0 4) 4 (((kSeg wd (fun j => wd j + kRN sc wd 64 j) 0 4) 4) + (kRN sc wd 64 4))))), (ac, .inl (D.1 20, 64, .inl sc))] := hD
        have ef16 : upd (kSeg wd (fun j => wd j + kRN sc wd 64 j) 0 4) 4 (((kSeg wd (fun j => wd j + kRN sc wd 64 j) 0 4) 4) + (kRN sc wd 64 4)) = kSeg wd (fun j => wd j + kRN sc wd 64 j) 0 5 := kSeg_up (Nat.zero_le _) (by show kSeg wd (fun j => wd j + kRN sc wd 64 j) 0 4 4 + _ = wd 4 + _; rw [kSeg_out (by omega)])
        rw [ef16] at hP hD
        refine lv_aload_n hx hb dX2_stir_261 rfl (lv_at hl 0 rfl) ?_
        refine va_get (D := D) (ci := 2) (v := .ref aw) (C := RX2) (T := TX2) (N := 4) hx hb hts inX2 hown hK hP 0 rfl rfl 2 (by decide) hwd0 (fun _ h9 => h9) rfl dX2_stir_262 ?_
        refine lv_iconst (v := nI 5) hx hb dX2_stir_265 (by decide) ?_
        refine lv_dup2_11 hx hb dX2_stir_266 rfl rfl ?_
        refine kn_iald hx hb hK hP 1 0 rfl rfl (i := 5) (by omega) (by decide) dX2_stir_267 ?_
        refine lv_iload hx hb dX2_stir_268 (lv_at hl 6 rfl) ?_
        refine lv_iadd hx hb dX2_stir_270 ?_
        refine kn_iast hx hb hK hP hD hS 1 0 rfl rfl (i := 5) (by omega) (by decide) dX2_stir_271 (fun H locs hP hD hS => ?_)
        have hP : va_P D kC [(h, .inr (2, [.ref am, .int ln, .ref aw, .ref ac])), (aw, .inl (D.1 20, 8, .inl (upd (kSeg wd (fun j => wd j + kRN sc wd 64 j) 0 5) 5 (((kSeg wd (fun j => wd j + kRN sc wd 64 j) 0 5) 5) + (kRN sc wd 64 5))))), (ac, .inl (D.1 20, 64, .inl sc))] _ := hP
        have hD : va_D A [(h, .inr (2, [.ref am, .int ln, .ref aw, .ref ac])), (aw, .inl (D.1 20, 8, .inl (upd (kSeg wd (fun j => wd j + kRN sc wd 64 j) 0 5) 5 (((kSeg wd (fun j => wd j + kRN sc wd 64 j) 0 5) 5) + (kRN sc wd 64 5))))), (ac, .inl (D.1 20, 64, .inl sc))] := hD
        have ef17 : upd (kSeg wd (fun j => wd j + kRN sc wd 64 j) 0 5) 5 (((kSeg wd (fun j => wd j + kRN sc wd 64 j) 0 5) 5) + (kRN sc wd 64 5)) = kSeg wd (fun j => wd j + kRN sc wd 64 j) 0 6 := kSeg_up (Nat.zero_le _) (by show kSeg wd (fun j => wd j + kRN sc wd 64 j) 0 5 5 + _ = wd 5 + _; rw [kSeg_out (by omega)])
        rw [ef17] at hP hD
        refine lv_aload_n hx hb dX2_stir_272 rfl (lv_at hl 0 rfl) ?_
        refine va_get (D := D) (ci := 2) (v := .ref aw) (C := RX2) (T := TX2) (N := 4) hx hb hts inX2 hown hK hP 0 rfl rfl 2 (by decide) hwd0 (fun _ h9 => h9) rfl dX2_stir_273 ?_
        refine lv_bipush (v := nI 6) hx hb dX2_stir_276 (by decide) ?_
        refine lv_dup2_11 hx hb dX2_stir_278 rfl rfl ?_
        refine kn_iald hx hb hK hP 1 0 rfl rfl (i := 6) (by omega) (by decide) dX2_stir_279 ?_
        refine lv_iload hx hb dX2_stir_280 (lv_at hl 7 rfl) ?_
        refine lv_iadd hx hb dX2_stir_282 ?_
        refine kn_iast hx hb hK hP hD hS 1 0 rfl rfl (i := 6) (by omega) (by decide) dX2_stir_283 (fun H locs hP hD hS => ?_)
        have hP : va_P D kC [(h, .inr (2, [.ref am, .int ln, .ref aw, .ref ac])), (aw, .inl (D.1 20, 8, .inl (upd (kSeg wd (fun j => wd j + kRN sc wd 64 j) 0 6) 6 (((kSeg wd (fun j => wd j + kRN sc wd 64 j) 0 6) 6) + (kRN sc wd 64 6))))), (ac, .inl (D.1 20, 64, .inl sc))] _ := hP
        have hD : va_D A [(h, .inr (2, [.ref am, .int ln, .ref aw, .ref ac])), (aw, .inl (D.1 20, 8, .inl (upd (kSeg wd (fun j => wd j + kRN sc wd 64 j) 0 6) 6 (((kSeg wd (fun j => wd j + kRN sc wd 64 j) 0 6) 6) + (kRN sc wd 64 6))))), (ac, .inl (D.1 20, 64, .inl sc))] := hD
        have ef18 : upd (kSeg wd (fun j => wd j + kRN sc wd 64 j) 0 6) 6 (((kSeg wd (fun j => wd j + kRN sc wd 64 j) 0 6) 6) + (kRN sc wd 64 6)) = kSeg wd (fun j => wd j + kRN sc wd 64 j) 0 7 := kSeg_up (Nat.zero_le _) (by show kSeg wd (fun j => wd j + kRN sc wd 64 j) 0 6 6 + _ = wd 6 + _; rw [kSeg_out (by omega)])
        rw [ef18] at hP hD
        refine lv_aload_n hx hb dX2_stir_284 rfl (lv_at hl 0 rfl) ?_
        refine va_get (D := D) (ci := 2) (v := .ref aw) (C := RX2) (T := TX2) (N := 4) hx hb hts inX2 hown hK hP 0 rfl rfl 2 (by decide) hwd0 (fun _ h9 => h9) rfl dX2_stir_285 ?_
        refine lv_bipush (v := nI 7) hx hb dX2_stir_288 (by decide) ?_
        refine lv_dup2_11 hx hb dX2_stir_290 rfl rfl ?_
        refine kn_iald hx hb hK hP 1 0 rfl rfl (i := 7) (by omega) (by decide) dX2_stir_291 ?_
        refine lv_iload hx hb dX2_stir_292 (lv_at hl 8 rfl) ?_
        refine lv_iadd hx hb dX2_stir_294 ?_
        refine kn_iast hx hb hK hP hD hS 1 0 rfl rfl (i := 7) (by omega) (by decide) dX2_stir_295 (fun H locs hP hD hS => ?_)
        have hP : va_P D kC [(h, .inr (2, [.ref am, .int ln, .ref aw, .ref ac])), (aw, .inl (D.1 20, 8, .inl (upd (kSeg wd (fun j => wd j + kRN sc wd 64 j) 0 7) 7 (((kSeg wd (fun j => wd j + kRN sc wd 64 j) 0 7) 7) + (kRN sc wd 64 7))))), (ac, .inl (D.1 20, 64, .inl sc))] _ := hP
        have hD : va_D A [(h, .inr (2, [.ref am, .int ln, .ref aw, .ref ac])), (aw, .inl (D.1 20, 8, .inl (upd (kSeg wd (fun j => wd j + kRN sc wd 64 j) 0 7) 7 (((kSeg wd (fun j => wd j + kRN sc wd 64 j) 0 7) 7) + (kRN sc wd 64 7))))), (ac, .inl (D.1 20, 64, .inl sc))] := hD
        have ef19 : upd (kSeg wd (fun j => wd j + kRN sc wd 64 j) 0 7) 7 (((kSeg wd (fun j => wd j + kRN sc wd 64 j) 0 7) 7) + (kRN sc wd 64 7)) = kSeg wd (fun j => wd j + kRN sc wd 64 j) 0 8 := kSeg_up (Nat.zero_le _) (by show kSeg wd (fun j => wd j + kRN sc wd 64 j) 0 7 7 + _ = wd 7 + _; rw [kSeg_out (by omega)])
        rw [ef19] at hP hD
        rw [hQ]
        have hP9 : va_P D kC [(h, .inr (2, [.ref am, .int ln, .ref aw, .ref ac])), (aw, .inl (D.1 20, 8, .inl (kSeg wd (fun j => wd j + kRN sc wd 64 j) 0 8))), (ac, .inl (D.1 20, 64, .inl sc))] _ := hP
        have hD9 : va_D A [(h, .inr (2, [.ref am, .int ln, .ref aw, .ref ac])), (aw, .inl (D.1 20, 8, .inl (kSeg wd (fun j => wd j + kRN sc wd 64 j) 0 8))), (ac, .inl (D.1 20, 64, .inl sc))] := hD
        exact W.vret hx hb hr (fun tq ht hW => ⟨⟨(), rfl, trivial, by rw [ht]; exact hP9, va_K.moved hW.alike hK, hD9⟩, hS.F ht⟩) hS.2.2 dX2_stir_296
      · refine lv_iload hx hb dX2_stir_73 (lv_at hl 5 rfl) ?_
        refine lv_bipush (v := nI 6) hx hb dX2_stir_75 (by decide) ?_
        refine kcS (As := [.int (kRN sc wd i1 4), .int (nI 6)]) (rest := []) (ws := []) (wr := [(h, .inr (2, [.ref am, .int ln, .ref aw, .ref ac])), (aw, .inl (D.1 20, 8, .inl wd)), (ac, .inl (D.1 20, 64, .inl sc))]) ⟨hx, hb, hml, hown, hts⟩ (c_X2_turn l D (kRN sc wd i1 4) (nI 6)) (va_cwS 2 hts gX2_stir_X2_turn rfl rfl rfl (by decide +kernel) ⟨Nat.le_of_ble_eq_true rfl, Nat.le_of_ble_eq_true rfl⟩) hK hE hP hD hS hA [] [0, 1, 2] rfl rfl rfl rfl (by decide) rfl hl.1 rfl (Nat.le_of_ble_eq_true rfl) dX2_stir_77 ⟨Nat.le_of_ble_eq_true rfl, Nat.le_of_ble_eq_true rfl⟩ (fun _ H locs hpo hP hD hS => ?_)
        have hP : va_P D kC [(h, .inr (2, [.ref am, .int ln, .ref aw, .ref ac])), (aw, .inl (D.1 20, 8, .inl wd)), (ac, .inl (D.1 20, 64, .inl sc))] _ := hP
        have hD : va_D A [(h, .inr (2, [.ref am, .int ln, .ref aw, .ref ac])), (aw, .inl (D.1 20, 8, .inl wd)), (ac, .inl (D.1 20, 64, .inl sc))] := hD
        refine W.eq (g2 := F0 m 80 ls [.int (kRot (kRN sc wd i1 4) (nI 6))]) rfl ?_
        refine W.widen (k := 0) (n := 0) (Nat.le_of_ble_eq_true rfl) (Nat.le_of_ble_eq_true rfl) ?_
        refine lv_iload hx hb dX2_stir_80 (lv_at hl 5 rfl) ?_
        refine lv_bipush (v := nI 11) hx hb dX2_stir_82 (by decide) ?_
        refine kcS (As := [.int (kRN sc wd i1 4), .int (nI 11)]) (rest := [.int (kRot (kRN sc wd i1 4) (nI 6))]) (ws := []) (wr := [(h, .inr (2, [.ref am, .int ln, .ref aw, .ref ac])), (aw, .inl (D.1 20, 8, .inl wd)), (ac, .inl (D.1 20, 64, .inl sc))]) ⟨hx, hb, hml, hown, hts⟩ (c_X2_turn l D (kRN sc wd i1 4) (nI 11)) (va_cwS 2 hts gX2_stir_X2_turn rfl rfl rfl (by decide +kernel) ⟨Nat.le_of_ble_eq_true rfl, Nat.le_of_ble_eq_true rfl⟩) hK hE hP hD hS hA [] [0, 1, 2] rfl rfl rfl rfl (by decide) rfl hl.1 rfl (Nat.le_of_ble_eq_true rfl) dX2_stir_84 ⟨Nat.le_of_ble_eq_true rfl, Nat.le_of_ble_eq_true rfl⟩ (fun _ H locs hpo hP hD hS => ?_)
        have hP : va_P D kC [(h, .inr (2, [.ref am, .int ln, .ref aw, .ref ac])), (aw, .inl (D.1 20, 8, .inl wd)), (ac, .inl (D.1 20, 64, .inl sc))] _ := hP
        have hD : va_D A [(h, .inr (2, [.ref am, .int ln, .ref aw, .ref ac])), (aw, .inl (D.1 20, 8, .inl wd)), (ac, .inl (D.1 20, 64, .inl sc))] := hD
        refine W.eq (g2 := F0 m 87 ls [.int (kRot (kRN sc wd i1 4) (nI 11)), .int (kRot (kRN sc wd i1 4) (nI 6))]) rfl ?_
        refine W.widen (k := 0) (n := 0) (Nat.le_of_ble_eq_true rfl) (Nat.le_of_ble_eq_true rfl) ?_
        refine lv_ixor hx hb dX2_stir_87 ?_
        refine lv_iload hx hb dX2_stir_88 (lv_at hl 5 rfl) ?_
        refine lv_bipush (v := nI 25) hx hb dX2_stir_90 (by decide) ?_
        refine kcS (As := [.int (kRN sc wd i1 4), .int (nI 25)]) (rest := [.int ((kRot (kRN sc wd i1 4) (nI 6)) ^^^ (kRot (kRN sc wd i1 4) (nI 11)))]) (ws := []) (wr := [(h, .inr (2, [.ref am, .int ln, .ref aw, .ref ac])), (aw, .inl (D.1 20, 8, .inl wd)), (ac, .inl (D.1 20, 64, .inl sc))]) ⟨hx, hb, hml, hown, hts⟩ (c_X2_turn l D (kRN sc wd i1 4) (nI 25)) (va_cwS 2 hts gX2_stir_X2_turn rfl rfl rfl (by decide +kernel) ⟨Nat.le_of_ble_eq_true rfl, Nat.le_of_ble_eq_true rfl⟩) hK hE hP hD hS hA [] [0, 1, 2] rfl rfl rfl rfl (by decide) rfl hl.1 rfl (Nat.le_of_ble_eq_true rfl) dX2_stir_92 ⟨Nat.le_of_ble_eq_true rfl, Nat.le_of_ble_eq_true rfl⟩ (fun _ H locs hpo hP hD hS => ?_)
        have hP : va_P D kC [(h, .inr (2, [.ref am, .int ln, .ref aw, .ref ac])), (aw, .inl (D.1 20, 8, .inl wd)), (ac, .inl (D.1 20, 64, .inl sc))] _ := hP
        have hD : va_D A [(h, .inr (2, [.ref am, .int ln, .ref aw, .ref ac])), (aw, .inl (D.1 20, 8, .inl wd)), (ac, .inl (D.1 20, 64, .inl sc))] := hD
        refine W.eq (g2 := F0 m 95 ls [.int (kRot (kRN sc wd i1 4) (nI 25)), .int ((kRot (kRN sc wd i1 4) (nI 6)) ^^^ (kRot (kRN sc wd i1 4) (nI 11)))]) rfl ?_
        refine W.widen (k := 0) (n := 0) (Nat.le_of_ble_eq_true rfl) (Nat.le_of_ble_eq_true rfl) ?_
        refine lv_ixor hx hb dX2_stir_95 ?_
        refine lv_istore (lv' := [(10, .int (((kRot (kRN sc wd i1 4) (nI 6)) ^^^ (kRot (kRN sc wd i1 4) (nI 11))) ^^^ (kRot (kRN sc wd i1 4) (nI 25)))), (0, .ref h), (1, .int (kRN sc wd i1 0)), (2, .int (kRN sc wd i1 1)), (3, .int (kRN sc wd i1 2)), (4, .int (kRN sc wd i1 3)), (5, .int (kRN sc wd i1 4)), (6, .int (kRN sc wd i1 5)), (7, .int (kRN sc wd i1 6)), (8, .int (kRN sc wd i1 7)), (9, .int (nI i1))]) hx hb dX2_stir_96 hl (by decide) rfl (fun ls hl => ?_)
        refine lv_iload hx hb dX2_stir_98 (lv_at hl 9 rfl) ?_
        refine lv_iload hx hb dX2_stir_100 (lv_at hl 0 rfl) ?_
        refine lv_iadd hx hb dX2_stir_102 ?_
        refine lv_iload hx hb dX2_stir_103 (lv_at hl 6 rfl) ?_
        refine lv_iload hx hb dX2_stir_105 (lv_at hl 7 rfl) ?_
        refine lv_iand hx hb dX2_stir_107 ?_
        refine lv_iload hx hb dX2_stir_108 (lv_at hl 6 rfl) ?_
        refine lv_iconst (v := (-1 : Int32)) hx hb dX2_stir_110 (by decide) ?_
        refine lv_ixor hx hb dX2_stir_111 ?_
        refine lv_iload hx hb dX2_stir_112 (lv_at hl 8 rfl) ?_
        refine lv_iand hx hb dX2_stir_114 ?_
        refine lv_ixor hx hb dX2_stir_115 ?_
        refine lv_iadd hx hb dX2_stir_116 ?_
        refine va_gets hx hb hE.2.1.1 hS hown hwd1 (fun _ h9 => h9) dX2_stir_117 ?_
        refine lv_iload hx hb dX2_stir_120 (lv_at hl 10 rfl) ?_
        refine kn_ti hx hb hE.2.1.2 hS (by omega) (by decide) dX2_stir_122 ?_
        refine lv_iadd hx hb dX2_stir_123 ?_
        refine lv_aload_n hx hb dX2_stir_124 rfl (lv_at hl 1 rfl) ?_
        refine va_get (D := D) (ci := 2) (v := .ref ac) (C := RX2) (T := TX2) (N := 4) hx hb hts inX2 hown hK hP 0 rfl rfl 3 (by decide) hwd2 (fun _ h9 => h9) rfl dX2_stir_125 ?_
        refine lv_iload hx hb dX2_stir_128 (lv_at hl 10 rfl) ?_
        refine kn_iald hx hb hK hP 2 0 rfl rfl (i := i1) (by omega) (by decide) dX2_stir_130 ?_
        refine lv_iadd hx hb dX2_stir_131 ?_
        refine kt_i (v' := kT1 sc (kRN sc wd i1) i1) (rfl) ?_
        refine lv_istore (lv' := [(11, .int (kT1 sc (kRN sc wd i1) i1)), (10, .int (((kRot (kRN sc wd i1 4) (nI 6)) ^^^ (kRot (kRN sc wd i1 4) (nI 11))) ^^^ (kRot (kRN sc wd i1 4) (nI 25)))), (0, .ref h), (1, .int (kRN sc wd i1 0)), (2, .int (kRN sc wd i1 1)), (3, .int (kRN sc wd i1 2)), (4, .int (kRN sc wd i1 3)), (5, .int (kRN sc wd i1 4)), (6, .int (kRN sc wd i1 5)), (7, .int (kRN sc wd i1 6)), (8, .int (kRN sc wd i1 7)), (9, .int (nI i1))]) hx hb dX2_stir_132 hl (by decide) rfl (fun ls hl => ?_)
        refine lv_iload_n hx hb dX2_stir_134 rfl (lv_at hl 3 rfl) ?_
        refine lv_iconst (v := nI 2) hx hb dX2_stir_135 (by decide) ?_
        refine kcS (As := [.int (kRN sc wd i1 0), .int (nI 2)]) (rest := []) (ws := []) (wr := [(h, .inr (2, [.ref am, .int ln, .ref aw, .ref ac])), (aw, .inl (D.1 20, 8, .inl wd)), (ac, .inl (D.1 20, 64, .inl sc))]) ⟨hx, hb, hml, hown, hts⟩ (c_X2_turn l D (kRN sc wd i1 0) (nI 2)) (va_cwS 2 hts gX2_stir_X2_turn rfl rfl rfl (by decide +kernel) ⟨Nat.le_of_ble_eq_true rfl, Nat.le_of_ble_eq_true rfl⟩) hK hE hP hD hS hA [] [0, 1, 2] rfl rfl rfl rfl (by decide) rfl hl.1 rfl (Nat.le_of_ble_eq_true rfl) dX2_stir_136 ⟨Nat.le_of_ble_eq_true rfl, Nat.le_of_ble_eq_true rfl⟩ (fun _ H locs hpo hP hD hS => ?_)
        have hP : va_P D kC [(h, .inr (2, [.ref am, .int ln, .ref aw, .ref ac])), (aw, .inl (D.1 20, 8, .inl wd)), (ac, .inl (D.1 20, 64, .inl sc))] _ := hP
        have hD : va_D A [(h, .inr (2, [.ref am, .int ln, .ref aw, .ref ac])), (aw, .inl (D.1 20, 8, .inl wd)), (ac, .inl (D.1 20, 64, .inl sc))] := hD
        refine W.eq (g2 := F0 m 139 ls [.int (kRot (kRN sc wd i1 0) (nI 2))]) rfl ?_
        refine W.widen (k := 0) (n := 0) (Nat.le_of_ble_eq_true rfl) (Nat.le_of_ble_eq_true rfl) ?_
        refine lv_iload_n hx hb dX2_stir_139 rfl (lv_at hl 3 rfl) ?_
        refine lv_bipush (v := nI 13) hx hb dX2_stir_140 (by decide) ?_
        refine kcS (As := [.int (kRN sc wd i1 0), .int (nI 13)]) (rest := [.int (kRot (kRN sc wd i1 0) (nI 2))]) (ws := []) (wr := [(h, .inr (2, [.ref am, .int ln, .ref aw, .ref ac])), (aw, .inl (D.1 20, 8, .inl wd)), (ac, .inl (D.1 20, 64, .inl sc))]) ⟨hx, hb, hml, hown, hts⟩ (c_X2_turn l D (kRN sc wd i1 0) (nI 13)) (va_cwS 2 hts gX2_stir_X2_turn rfl rfl rfl (by decide +kernel) ⟨Nat.le_of_ble_eq_true rfl, Nat.le_of_ble_eq_true rfl⟩) hK hE hP hD hS hA [] [0, 1, 2] rfl rfl rfl rfl (by decide) rfl hl.1 rfl (Nat.le_of_ble_eq_true rfl) dX2_stir_142 ⟨Nat.le_of_ble_eq_true rfl, Nat.le_of_ble_eq_true rfl⟩ (fun _ H locs hpo hP hD hS => ?_)
        have hP : va_P D kC [(h, .inr (2, [.ref am, .int ln, .ref aw, .ref ac])), (aw, .inl (D.1 20, 8, .inl wd)), (ac, .inl (D.1 20, 64, .inl sc))] _ := hP
        have hD : va_D A [(h, .inr (2, [.ref am, .int ln, .ref aw, .ref ac])), (aw, .inl (D.1 20, 8, .inl wd)), (ac, .inl (D.1 20, 64, .inl sc))] := hD
        refine W.eq (g2 := F0 m 145 ls [.int (kRot (kRN sc wd i1 0) (nI 13)), .int (kRot (kRN sc wd i1 0) (nI 2))]) rfl ?_
        refine W.widen (k := 0) (n := 0) (Nat.le_of_ble_eq_true rfl) (Nat.le_of_ble_eq_true rfl) ?_
        refine lv_ixor hx hb dX2_stir_145 ?_
        refine lv_iload_n hx hb dX2_stir_146 rfl (lv_at hl 3 rfl) ?_
        refine lv_bipush (v := nI 22) hx hb dX2_stir_147 (by decide) ?_
        refine kcS (As := [.int (kRN sc wd i1 0), .int (nI 22)]) (rest := [.int ((kRot (kRN sc wd i1 0) (nI 2)) ^^^ (kRot (kRN sc wd i1 0) (nI 13)))]) (ws := []) (wr := [(h, .inr (2, [.ref am, .int ln, .ref aw, .ref ac])), (aw, .inl (D.1 20, 8, .inl wd)), (ac, .inl (D.1 20, 64, .inl sc))]) ⟨hx, hb, hml, hown, hts⟩ (c_X2_turn l D (kRN sc wd i1 0) (nI 22)) (va_cwS 2 hts gX2_stir_X2_turn rfl rfl rfl (by decide +kernel) ⟨Nat.le_of_ble_eq_true rfl, Nat.le_of_ble_eq_true rfl⟩) hK hE hP hD hS hA [] [0, 1, 2] rfl rfl rfl rfl (by decide) rfl hl.1 rfl (Nat.le_of_ble_eq_true rfl) dX2_stir_149 ⟨Nat.le_of_ble_eq_true rfl, Nat.le_of_ble_eq_true rfl⟩ (fun _ H locs hpo hP hD hS => ?_)
        have hP : va_P D kC [(h, .inr (2, [.ref am, .int ln, .ref aw, .ref ac])), (aw, .inl (D.1 20, 8, .inl wd)), (ac, .inl (D.1 20, 64, .inl sc))] _ := hP
        have hD : va_D A [(h, .inr (2, [.ref am, .int ln, .ref aw, .ref ac])), (aw, .inl (D.1 20, 8, .inl wd)), (ac, .inl (D.1 20, 64, .inl sc))] := hD
        refine W.eq (g2 := F0 m 152 ls [.int (kRot (kRN sc wd i1 0) (nI 22)), .int ((kRot (kRN sc wd i1 0) (nI 2)) ^^^ (kRot (kRN sc wd i1 0) (nI 13)))]) rfl ?_
        refine W.widen (k := 0) (n := 0) (Nat.le_of_ble_eq_true rfl) (Nat.le_of_ble_eq_true rfl) ?_
        refine lv_ixor hx hb dX2_stir_152 ?_
        refine lv_istore (lv' := [(12, .int (((kRot (kRN sc wd i1 0) (nI 2)) ^^^ (kRot (kRN sc wd i1 0) (nI 13))) ^^^ (kRot (kRN sc wd i1 0) (nI 22)))), (11, .int (kT1 sc (kRN sc wd i1) i1)), (10, .int (((kRot (kRN sc wd i1 4) (nI 6)) ^^^ (kRot (kRN sc wd i1 4) (nI 11))) ^^^ (kRot (kRN sc wd i1 4) (nI 25)))), (0, .ref h), (1, .int (kRN sc wd i1 0)), (2, .int (kRN sc wd i1 1)), (3, .int (kRN sc wd i1 2)), (4, .int (kRN sc wd i1 3)), (5, .int (kRN sc wd i1 4)), (6, .int (kRN sc wd i1 5)), (7, .int (kRN sc wd i1 6)), (8, .int (kRN sc wd i1 7)), (9, .int (nI i1))]) hx hb dX2_stir_153 hl (by decide) rfl (fun ls hl => ?_)
        refine lv_iload hx hb dX2_stir_155 (lv_at hl 0 rfl) ?_
        refine lv_iload_n hx hb dX2_stir_157 rfl (lv_at hl 4 rfl) ?_
        refine lv_iload_n hx hb dX2_stir_158 rfl (lv_at hl 5 rfl) ?_
        refine lv_iand hx hb dX2_stir_159 ?_
        refine lv_iload_n hx hb dX2_stir_160 rfl (lv_at hl 4 rfl) ?_
        refine lv_iload_n hx hb dX2_stir_161 rfl (lv_at hl 6 rfl) ?_
        refine lv_iand hx hb dX2_stir_162 ?_
        refine lv_ixor hx hb dX2_stir_163 ?_
        refine lv_iload_n hx hb dX2_stir_164 rfl (lv_at hl 5 rfl) ?_
        refine lv_iload_n hx hb dX2_stir_165 rfl (lv_at hl 6 rfl) ?_
        refine lv_iand hx hb dX2_stir_166 ?_
        refine lv_ixor hx hb dX2_stir_167 ?_
        refine lv_iadd hx hb dX2_stir_168 ?_
        refine kt_i (v' := kT2 (kRN sc wd i1)) (rfl) ?_
        refine lv_istore (lv' := [(13, .int (kT2 (kRN sc wd i1))), (12, .int (((kRot (kRN sc wd i1 0) (nI 2)) ^^^ (kRot (kRN sc wd i1 0) (nI 13))) ^^^ (kRot (kRN sc wd i1 0) (nI 22)))), (11, .int (kT1 sc (kRN sc wd i1) i1)), (10, .int (((kRot (kRN sc wd i1 4) (nI 6)) ^^^ (kRot (kRN sc wd i1 4) (nI 11))) ^^^ (kRot (kRN sc wd i1 4) (nI 25)))), (0, .ref h), (1, .int (kRN sc wd i1 0)), (2, .int (kRN sc wd i1 1)), (3, .int (kRN sc wd i1 2)), (4, .int (kRN sc wd i1 3)), (5, .int (kRN sc wd i1 4)), (6, .int (kRN sc wd i1 5)), (7, .int (kRN sc wd i1 6)), (8, .int (kRN sc wd i1 7)), (9, .int (nI i1))]) hx hb dX2_stir_169 hl (by decide) rfl (fun ls hl => ?_)
        refine lv_iload hx hb dX2_stir_171 (lv_at hl 11 rfl) ?_
        refine lv_istore (lv' := [(8, .int (kRN sc wd i1 6)), (13, .int (kT2 (kRN sc wd i1))), (12, .int (((kRot (kRN sc wd i1 0) (nI 2)) ^^^ (kRot (kRN sc wd i1 0) (nI 13))) ^^^ (kRot (kRN sc wd i1 0) (nI 22)))), (11, .int (kT1 sc (kRN sc wd i1) i1)), (10, .int (((kRot (kRN sc wd i1 4) (nI 6)) ^^^ (kRot (kRN sc wd i1 4) (nI 11))) ^^^ (kRot (kRN sc wd i1 4) (nI 25)))), (0, .ref h), (1, .int (kRN sc wd i1 0)), (2, .int (kRN sc wd i1 1)), (3, .int (kRN sc wd i1 2)), (4, .int (kRN sc wd i1 3)), (5, .int (kRN sc wd i1 4)), (6, .int (kRN sc wd i1 5)), (7, .int (kRN sc wd i1 6)), (9, .int (nI i1))]) hx hb dX2_stir_173 hl (by decide) rfl (fun ls hl => ?_)
        refine lv_iload hx hb dX2_stir_175 (lv_at hl 11 rfl) ?_
        refine lv_istore (lv' := [(7, .int (kRN sc wd i1 5)), (8, .int (kRN sc wd i1 6)), (13, .int (kT2 (kRN sc wd i1))), (12, .int (((kRot (kRN sc wd i1 0) (nI 2)) ^^^ (kRot (kRN sc wd i1 0) (nI 13))) ^^^ (kRot (kRN sc wd i1 0) (nI 22)))), (11, .int (kT1 sc (kRN sc wd i1) i1)), (10, .int (((kRot (kRN sc wd i1 4) (nI 6)) ^^^ (kRot (kRN sc wd i1 4) (nI 11))) ^^^ (kRot (kRN sc wd i1 4) (nI 25)))), (0, .ref h), (1, .int (kRN sc wd i1 0)), (2, .int (kRN sc wd i1 1)), (3, .int (kRN sc wd i1 2)), (4, .int (kRN sc wd i1 3)), (5, .int (kRN sc wd i1 4)), (6, .int (kRN sc wd i1 5)), (9, .int (nI i1))]) hx hb dX2_stir_177 hl (by decide) rfl (fun ls hl => ?_)
        refine lv_iload hx hb dX2_stir_179 (lv_at hl 11 rfl) ?_
        refine lv_istore (lv' := [(6, .int (kRN sc wd i1 4)), (7, .int (kRN sc wd i1 5)), (8, .int (kRN sc wd i1 6)), (13, .int (kT2 (kRN sc wd i1))), (12, .int (((kRot (kRN sc wd i1 0) (nI 2)) ^^^ (kRot (kRN sc wd i1 0) (nI 13))) ^^^ (kRot (kRN sc wd i1 0) (nI 22)))), (11, .int (kT1 sc (kRN sc wd i1) i1)), (10, .int (((kRot (kRN sc wd i1 4) (nI 6)) ^^^ (kRot (kRN sc wd i1 4) (nI 11))) ^^^ (kRot (kRN sc wd i1 4) (nI 25)))), (0, .ref h), (1, .int (kRN sc wd i1 0)), (2, .int (kRN sc wd i1 1)), (3, .int (kRN sc wd i1 2)), (4, .int (kRN sc wd i1 3)), (5, .int (kRN sc wd i1 4)), (9, .int (nI i1))]) hx hb dX2_stir_181 hl (by decide) rfl (fun ls hl => ?_)
        refine lv_iload hx hb dX2_stir_183 (lv_at hl 11 rfl) ?_
        refine lv_iload hx hb dX2_stir_185 (lv_at hl 5 rfl) ?_
        refine lv_iadd hx hb dX2_stir_187 ?_
        refine kt_i (v' := kRN sc wd (i1 + 1) 4) (rfl) ?_
        refine lv_istore (lv' := [(5, .int (kRN sc wd (i1 + 1) 4)), (6, .int (kRN sc wd i1 4)), (7, .int (kRN sc wd i1 5)), (8, .int (kRN sc wd i1 6)), (13, .int (kT2 (kRN sc wd i1))), (12, .int (((kRot (kRN sc wd i1 0) (nI 2)) ^^^ (kRot (kRN sc wd i1 0) (nI 13))) ^^^ (kRot (kRN sc wd i1 0) (nI 22)))), (11, .int (kT1 sc (kRN sc wd i1) i1)), (10, .int (((kRot (kRN sc wd i1 4) (nI 6)) ^^^ (kRot (kRN sc wd i1 4) (nI 11))) ^^^ (kRot (kRN sc wd i1 4) (nI 25)))), (0, .ref h), (1, .int (kRN sc wd i1 0)), (2, .int (kRN sc wd i1 1)), (3, .int (kRN sc wd i1 2)), (4, .int (kRN sc wd i1 3)), (9, .int (nI i1))]) hx hb dX2_stir_188 hl (by decide) rfl (fun ls hl => ?_)
        refine lv_iload_n hx hb dX2_stir_190 rfl (lv_at hl 11 rfl) ?_
        refine lv_istore (lv' := [(4, .int (kRN sc wd i1 2)), (5, .int (kRN sc wd (i1 + 1) 4)), (6, .int (kRN sc wd i1 4)), (7, .int (kRN sc wd i1 5)), (8, .int (kRN sc wd i1 6)), (13, .int (kT2 (kRN sc wd i1))), (12, .int (((kRot (kRN sc wd i1 0) (nI 2)) ^^^ (kRot (kRN sc wd i1 0) (nI 13))) ^^^ (kRot (kRN sc wd i1 0) (nI 22)))), (11, .int (kT1 sc (kRN sc wd i1) i1)), (10, .int (((kRot (kRN sc wd i1 4) (nI 6)) ^^^ (kRot (kRN sc wd i1 4) (nI 11))) ^^^ (kRot (kRN sc wd i1 4) (nI 25)))), (0, .ref h), (1, .int (kRN sc wd i1 0)), (2, .int (kRN sc wd i1 1)), (3, .int (kRN sc wd i1 2)), (9, .int (nI i1))]) hx hb dX2_stir_191 hl (by decide) rfl (fun ls hl => ?_)
        refine lv_iload_n hx hb dX2_stir_193 rfl (lv_at hl 11 rfl) ?_
        refine lv_istore_n (lv' := [(3, .int (kRN sc wd i1 1)), (4, .int (kRN sc wd i1 2)), (5, .int (kRN sc wd (i1 + 1) 4)), (6, .int (kRN sc wd i1 4)), (7, .int (kRN sc wd i1 5)), (8, .int (kRN sc wd i1 6)), (13, .int (kT2 (kRN sc wd i1))), (12, .int (((kRot (kRN sc wd i1 0) (nI 2)) ^^^ (kRot (kRN sc wd i1 0) (nI 13))) ^^^ (kRot (kRN sc wd i1 0) (nI 22)))), (11, .int (kT1 sc (kRN sc wd i1) i1)), (10, .int (((kRot (kRN sc wd i1 4) (nI 6)) ^^^ (kRot (kRN sc wd i1 4) (nI 11))) ^^^ (kRot (kRN sc wd i1 4) (nI 25)))), (0, .ref h), (1, .int (kRN sc wd i1 0)), (2, .int (kRN sc wd i1 1)), (9, .int (nI i1))]) hx hb dX2_stir_194 rfl hl (by decide) rfl (fun ls hl => ?_)
        refine lv_iload_n hx hb dX2_stir_195 rfl (lv_at hl 11 rfl) ?_
        refine lv_istore_n (lv' := [(2, .int (kRN sc wd i1 0)), (3, .int (kRN sc wd i1 1)), (4, .int (kRN sc wd i1 2)), (5, .int (kRN sc wd (i1 + 1) 4)), (6, .int (kRN sc wd i1 4)), (7, .int (kRN sc wd i1 5)), (8, .int (kRN sc wd i1 6)), (13, .int (kT2 (kRN sc wd i1))), (12, .int (((kRot (kRN sc wd i1 0) (nI 2)) ^^^ (kRot (kRN sc wd i1 0) (nI 13))) ^^^ (kRot (kRN sc wd i1 0) (nI 22)))), (11, .int (kT1 sc (kRN sc wd i1) i1)), (10, .int (((kRot (kRN sc wd i1 4) (nI 6)) ^^^ (kRot (kRN sc wd i1 4) (nI 11))) ^^^ (kRot (kRN sc wd i1 4) (nI 25)))), (0, .ref h), (1, .int (kRN sc wd i1 0)), (9, .int (nI i1))]) hx hb dX2_stir_196 rfl hl (by decide) rfl (fun ls hl => ?_)
        refine lv_iload hx hb dX2_stir_197 (lv_at hl 9 rfl) ?_
        refine lv_iload hx hb dX2_stir_199 (lv_at hl 7 rfl) ?_
        refine lv_iadd hx hb dX2_stir_201 ?_
        refine kt_i (v' := kRN sc wd (i1 + 1) 0) (rfl) ?_
        refine lv_istore_n (lv' := [(1, .int (kRN sc wd (i1 + 1) 0)), (2, .int (kRN sc wd i1 0)), (3, .int (kRN sc wd i1 1)), (4, .int (kRN sc wd i1 2)), (5, .int (kRN sc wd (i1 + 1) 4)), (6, .int (kRN sc wd i1 4)), (7, .int (kRN sc wd i1 5)), (8, .int (kRN sc wd i1 6)), (13, .int (kT2 (kRN sc wd i1))), (12, .int (((kRot (kRN sc wd i1 0) (nI 2)) ^^^ (kRot (kRN sc wd i1 0) (nI 13))) ^^^ (kRot (kRN sc wd i1 0) (nI 22)))), (11, .int (kT1 sc (kRN sc wd i1) i1)), (10, .int (((kRot (kRN sc wd i1 4) (nI 6)) ^^^ (kRot (kRN sc wd i1 4) (nI 11))) ^^^ (kRot (kRN sc wd i1 4) (nI 25)))), (0, .ref h), (9, .int (nI i1))]) hx hb dX2_stir_202 rfl hl (by decide) rfl (fun ls hl => ?_)
        refine lv_iinc (v := nI (i1 + 1)) (lv' := [(9, .int (nI (i1 + 1))), (1, .int (kRN sc wd (i1 + 1) 0)), (2, .int (kRN sc wd i1 0)), (3, .int (kRN sc wd i1 1)), (4, .int (kRN sc wd i1 2)), (5, .int (kRN sc wd (i1 + 1) 4)), (6, .int (kRN sc wd i1 4)), (7, .int (kRN sc wd i1 5)), (8, .int (kRN sc wd i1 6)), (13, .int (kT2 (kRN sc wd i1))), (12, .int (((kRot (kRN sc wd i1 0) (nI 2)) ^^^ (kRot (kRN sc wd i1 0) (nI 13))) ^^^ (kRot (kRN sc wd i1 0) (nI 22)))), (11, .int (kT1 sc (kRN sc wd i1) i1)), (10, .int (((kRot (kRN sc wd i1 4) (nI 6)) ^^^ (kRot (kRN sc wd i1 4) (nI 11))) ^^^ (kRot (kRN sc wd i1 4) (nI 25)))), (0, .ref h)]) hx hb dX2_stir_203 hl (k := 13) rfl (nI_1 _) (by decide) rfl (fun ls hl => ?_)
        refine lv_goto (tgt := 66) hx hb dX2_stir_206 (by decide) ?_
        exact ih_lr (i1 + 1) (by omega) (by omega) _ _ hP hD hS ls (lv_sub hl [13, 1, 2, 3, 4, 5, 6, 7, 8, 0] rfl)
  exact lr 65 0 (by omega) (by omega) _ _ hP hD hS ls (lv_sub hl [9, 8, 7, 6, 5, 4, 3, 2, 1, 0] rfl)
