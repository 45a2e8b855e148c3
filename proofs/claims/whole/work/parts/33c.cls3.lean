/-! ===== over the words of NoSuchElementException's throw as it is (kNsA) ===== -/
theorem iX5_signatureAt_X53 : ∀ w ∈ wsX50, w ∈ wsX5_signatureAt3 := by decide +kernel
theorem X5_signatureAt_hwd03 : (.fieldLink RX5 104 "SignatureSpans" "signatureCount" "I" : Cond) ∈ wsX5_signatureAt3 := by decide +kernel
theorem X5_signatureAt_hwd13 : (.fieldLink RX5 22 "SignatureSpans" "signatures" "[LSignatureSpans$Signature;" : Cond) ∈ wsX5_signatureAt3 := by decide +kernel
set_option maxHeartbeats 4000000 in
set_option maxRecDepth 100000 in
/-- signatureAt: there is one -/
theorem c_X5_signatureAt3 (l : Launch) (D : va_G) (h fa ap aa ac at9 ah sz cn : Nat) (sf : Int32) (i hs : Nat) (sg : Nat → Option Nat) (hi : i < cn) (hcn : cn ≤ 8) (hsg : sg i = some hs) : kM (S := Unit) l yX5_signatureAt wsX5_signatureAt3 ({ frames := 7, cells := 0, slots := 0, locals := 100 }) 0 0 D [.ref h, .int (nI i)] [(h, .inr (5, [.ref fa, .int (nI sz), .ref ap, .ref aa, .int (nI cn), .int sf, .ref ac, .ref at9, .ref ah])), (aa, .inl (D.1 24, 8, .inr (.inr (.inr (.inr sg)))))] (fun _ => some (.ref hs)) (fun _ => [(h, .inr (5, [.ref fa, .int (nI sz), .ref ap, .ref aa, .int (nI cn), .int sf, .ref ac, .ref at9, .ref ah])), (aa, .inl (D.1 24, 8, .inr (.inr (.inr (.inr sg)))))]) (fun _ => True) := by
  intro sz
  refine Met.ofW (cc := cX5_signatureAt) (maxL := 3) (ret := (some (.object "SignatureSpans$Signature"))) (by decide) rfl ?_
  intro p e s m args below meth c s₁ B hml hv
  obtain ⟨rfl, hsz, hP, hK, hD0, hE⟩ := hv
  have hx := B.exec
  have hb := B.bytes
  have hr := B.returns
  have hts := atoms_spec (ws := wsX5_signatureAt3) B.pre
  have hown : s.vm.findClass RX5 = some m.cls := findClass_of_methodNamed B.named
  have hlocks := B.notSynchronized
  subst hsz
  have hD := hD0.self (sz := s.heap.size)
  generalize hAe : va_A [(h, .inr (5, [.ref fa, .int (nI sz), .ref ap, .ref aa, .int (nI cn), .int sf, .ref ac, .ref at9, .ref ah])), (aa, .inl (D.1 24, 8, .inr (.inr (.inr (.inr sg)))))] s.heap.size = A at hD hE ⊢
  have hA : ∀ q : Nat, s.heap.size ≤ q → A q := fun q h => by rw [← hAe]; exact Or.inr h
  have hS : va_S A s.heap s.heap [] := va_S.rf
  have hl := lv_entry ([.ref h, .int (nI i)]) (n := 3) (Nat.le_of_ble_eq_true rfl)
  have inX5 : ∀ w ∈ wsX50, w ∈ wsX5_signatureAt3 := iX5_signatureAt_X53
  have hwd0 := hts (.fieldLink RX5 104 "SignatureSpans" "signatureCount" "I") X5_signatureAt_hwd03
  have hwd1 := hts (.fieldLink RX5 22 "SignatureSpans" "signatures" "[LSignatureSpans$Signature;") X5_signatureAt_hwd13
  refine kgenQ (fun Q hQ => ?_)
  rw [lg_entry_eq]
  generalize (lg_sl ([.ref h, .int (nI i)]) ++ List.replicate (3 - (lg_sl ([.ref h, .int (nI i)])).length) Slot.unset).toArray = ls at hl ⊢
  have hl : lv_has ls 3 [(0, .ref h), (1, .int (nI i))] := hl
  refine lv_iload_n hx hb dX5_signatureAt_0 rfl (lv_at hl 1 rfl) ?_
  refine kn_if_lt (tgt := 21) hx hb (by omega) dX5_signatureAt_1 (by decide) ?_
  refine lv_iload_n hx hb dX5_signatureAt_4 rfl (lv_at hl 1 rfl) ?_
  refine lv_aload_n hx hb dX5_signatureAt_5 rfl (lv_at hl 0 rfl) ?_
  refine va_get (D := D) (ci := 5) (v := .int (nI cn)) (C := RX5) (T := TX5) (N := 9) hx hb hts inX5 hown hK hP 0 rfl rfl 4 (by decide) hwd0 (fun _ h9 => h9) rfl dX5_signatureAt_6 ?_
  refine kn_icmp_ge (tgt := 21) hx hb (by omega) (by omega) dX5_signatureAt_9 (by decide) (fun c_9 => absurd c_9 (by omega)) (fun c_9 => ?_)
  refine lv_aload_n hx hb dX5_signatureAt_12 rfl (lv_at hl 0 rfl) ?_
  refine va_get (D := D) (ci := 5) (v := .ref aa) (C := RX5) (T := TX5) (N := 9) hx hb hts inX5 hown hK hP 0 rfl rfl 3 (by decide) hwd1 (fun _ h9 => h9) rfl dX5_signatureAt_13 ?_
  refine lv_iload_n hx hb dX5_signatureAt_16 rfl (lv_at hl 1 rfl) ?_
  refine kn_aald hx hb hK hP 1 4 rfl rfl (i := i) (by omega) (by decide) dX5_signatureAt_17 ?_
  refine kt_v (v' := .ref hs) (by rw [hsg]; rfl) ?_
  refine lv_goto (tgt := 22) hx hb dX5_signatureAt_18 (by decide) ?_
  refine lv_astore_n (lv' := [(2, .ref hs), (0, .ref h), (1, .int (nI i))]) hx hb dX5_signatureAt_22 rfl hl (by decide) rfl (fun ls hl => ?_)
  refine lv_aload_n hx hb dX5_signatureAt_23 rfl (lv_at hl 0 rfl) ?_
  refine lv_ifnonnull (tgt := 37) hx hb dX5_signatureAt_24 (by decide) ?_
  refine lv_aload_n hx hb dX5_signatureAt_37 rfl (lv_at hl 0 rfl) ?_
  rw [hQ]
  have hP9 : va_P D kC [(h, .inr (5, [.ref fa, .int (nI sz), .ref ap, .ref aa, .int (nI cn), .int sf, .ref ac, .ref at9, .ref ah])), (aa, .inl (D.1 24, 8, .inr (.inr (.inr (.inr sg)))))] _ := hP
  have hD9 : va_D A [(h, .inr (5, [.ref fa, .int (nI sz), .ref ap, .ref aa, .int (nI cn), .int sf, .ref ac, .ref at9, .ref ah])), (aa, .inl (D.1 24, 8, .inr (.inr (.inr (.inr sg)))))] := hD
  exact W.aret (v := .ref hs) hx hb hr (Or.inl ⟨_, rfl⟩) (Or.inr ⟨_, rfl⟩) (fun t ht hW => ⟨⟨(), rfl, trivial, by rw [ht]; exact hP9, va_K.moved hW.alike hK, hD9⟩, hS.F ht⟩) hS.2.2 dX5_signatureAt_38
theorem iX5_signatureAtno_X53 : ∀ w ∈ wsX50, w ∈ wsX5_signatureAt3 := by decide +kernel
theorem X5_signatureAtno_hwd03 : (.classLink RX5 243 "java/util/NoSuchElementException" : Cond) ∈ wsX5_signatureAt3 := by decide +kernel
theorem X5_signatureAtno_hwd13 : (.initialized "java/util/NoSuchElementException" : Cond) ∈ wsX5_signatureAt3 := by decide +kernel
theorem X5_signatureAtno_hwd23 : (.fieldLink RX5 104 "SignatureSpans" "signatureCount" "I" : Cond) ∈ wsX5_signatureAt3 := by decide +kernel
theorem xX5_signatureAtno_2473 : ∀ w ∈ (kNsA).filter goodWord, w ∈ wsX5_signatureAt3 := by decide +kernel
set_option maxHeartbeats 4000000 in
set_option maxRecDepth 100000 in
/-- signatureAt: there is none -/
theorem c_X5_signatureAt_no3 (l : Launch) (hl0 : l.stackTraces = false) (D : va_G) (h fa ap aa ac at9 ah sz cn : Nat) (sf : Int32) (x : Int32) (hno : x < 0 ∨ nI cn ≤ x) : kX (S := Unit) l yX5_signatureAt wsX5_signatureAt3 ({ frames := 7, cells := 1, slots := 6, locals := 100 }) 1 6 D [.ref h, .int x] [(h, .inr (5, [.ref fa, .int (nI sz), .ref ap, .ref aa, .int (nI cn), .int sf, .ref ac, .ref at9, .ref ah]))] (some kNse) (fun _ => none) (fun _ => [(h, .inr (5, [.ref fa, .int (nI sz), .ref ap, .ref aa, .int (nI cn), .int sf, .ref ac, .ref at9, .ref ah]))]) (fun _ => True) := by
  intro sz
  refine vx_ofW (cc := cX5_signatureAt) (maxL := 3) (ret := (some (.object "SignatureSpans$Signature"))) (by decide) rfl ?_
  intro p e s m args below meth c s₁ B hml hnoh hv
  obtain ⟨rfl, hsz, hP, hK, hD0, hE⟩ := hv
  have hx := B.exec
  have hb := B.bytes
  have hr := B.returns
  have hts := atoms_spec (ws := wsX5_signatureAt3) B.pre
  have hown : s.vm.findClass RX5 = some m.cls := findClass_of_methodNamed B.named
  have hlocks := B.notSynchronized
  subst hsz
  have hD := hD0.self (sz := s.heap.size)
  generalize hAe : va_A [(h, .inr (5, [.ref fa, .int (nI sz), .ref ap, .ref aa, .int (nI cn), .int sf, .ref ac, .ref at9, .ref ah]))] s.heap.size = A at hD hE ⊢
  have hA : ∀ q : Nat, s.heap.size ≤ q → A q := fun q h => by rw [← hAe]; exact Or.inr h
  have hS : va_S A s.heap s.heap [] := va_S.rf
  have hl := lv_entry ([.ref h, .int x]) (n := 3) (Nat.le_of_ble_eq_true rfl)
  have inX5 : ∀ w ∈ wsX50, w ∈ wsX5_signatureAt3 := iX5_signatureAtno_X53
  have hwd0 := hts (.classLink RX5 243 "java/util/NoSuchElementException") X5_signatureAtno_hwd03
  have hwd1 := hts (.initialized "java/util/NoSuchElementException") X5_signatureAtno_hwd13
  have hwd2 := hts (.fieldLink RX5 104 "SignatureSpans" "signatureCount" "I") X5_signatureAtno_hwd23
  have xw_247 := xX5_signatureAtno_2473
  refine kgenQ (fun Q hQ => ?_)
  rw [lg_entry_eq]
  generalize (lg_sl ([.ref h, .int x]) ++ List.replicate (3 - (lg_sl ([.ref h, .int x])).length) Slot.unset).toArray = ls at hl ⊢
  have hl : lv_has ls 3 [(0, .ref h), (1, .int x)] := hl
  refine lv_iload_n hx hb dX5_signatureAt_0 rfl (lv_at hl 1 rfl) ?_
  refine lv_if_lt (tgt := 21) hx hb dX5_signatureAt_1 (by decide) (fun c_1 => ?_) (fun c_1 => ?_)
  · refine lv_null hx hb dX5_signatureAt_21 ?_
    refine lv_astore_nN (lv' := [(2, .null), (0, .ref h), (1, .int x)]) hx hb dX5_signatureAt_22 rfl hl (by decide) rfl (fun ls hl => ?_)
    refine lv_aload_nN hx hb dX5_signatureAt_23 rfl (lv_at hl 0 rfl) ?_
    refine lv_ifnonnullN hx hb dX5_signatureAt_24 ?_
    rw [hQ]
    exact kx_throwN (ik := 243) (is := 245) hx hb hl0 hnoh hown hts hK hE hP hD hS hwd0 hwd1 (hE.2.2.2.1 (245, "no such signature") (by decide +kernel)) xw_247 (by decide +kernel) (by decide +kernel) (by rw [hml]; exact hl.1) dX5_signatureAt_27 dX5_signatureAt_30 dX5_signatureAt_31 dX5_signatureAt_33 dX5_signatureAt_36 (Nat.le_of_ble_eq_true rfl) (Nat.le_of_ble_eq_true rfl) ⟨Nat.le_of_ble_eq_true rfl, Nat.le_of_ble_eq_true rfl⟩ ⟨Nat.le_of_ble_eq_true rfl, Nat.le_of_ble_eq_true rfl⟩ hlocks (rfl)
  · refine lv_iload_n hx hb dX5_signatureAt_4 rfl (lv_at hl 1 rfl) ?_
    refine lv_aload_n hx hb dX5_signatureAt_5 rfl (lv_at hl 0 rfl) ?_
    refine va_get (D := D) (ci := 5) (v := .int (nI cn)) (C := RX5) (T := TX5) (N := 9) hx hb hts inX5 hown hK hP 0 rfl rfl 4 (by decide) hwd2 (fun _ h9 => h9) rfl dX5_signatureAt_6 ?_
    refine lv_icmp_ge (tgt := 21) hx hb dX5_signatureAt_9 (by decide) (fun c_9 => ?_) (fun c_9 => ?_)
    · refine lv_null hx hb dX5_signatureAt_21 ?_
      refine lv_astore_nN (lv' := [(2, .null), (0, .ref h), (1, .int x)]) hx hb dX5_signatureAt_22 rfl hl (by decide) rfl (fun ls hl => ?_)
      refine lv_aload_nN hx hb dX5_signatureAt_23 rfl (lv_at hl 0 rfl) ?_
      refine lv_ifnonnullN hx hb dX5_signatureAt_24 ?_
      rw [hQ]
      exact kx_throwN (ik := 243) (is := 245) hx hb hl0 hnoh hown hts hK hE hP hD hS hwd0 hwd1 (hE.2.2.2.1 (245, "no such signature") (by decide +kernel)) xw_247 (by decide +kernel) (by decide +kernel) (by rw [hml]; exact hl.1) dX5_signatureAt_27 dX5_signatureAt_30 dX5_signatureAt_31 dX5_signatureAt_33 dX5_signatureAt_36 (Nat.le_of_ble_eq_true rfl) (Nat.le_of_ble_eq_true rfl) ⟨Nat.le_of_ble_eq_true rfl, Nat.le_of_ble_eq_true rfl⟩ ⟨Nat.le_of_ble_eq_true rfl, Nat.le_of_ble_eq_true rfl⟩ hlocks (rfl)
    · exact absurd hno (fun q => q.elim c_1 c_9)
set_option maxHeartbeats 4000000 in
set_option maxRecDepth 100000 in
/-- no such signature -/
theorem c_X5_holds_no3 (l : Launch) (hl0 : l.stackTraces = false) (D : va_G) (h fa ap aa ac at9 ah sz cn : Nat) (sf : Int32) (x : Int32)  (hno : x < 0 ∨ nI cn ≤ x) : kX (S := Unit) l yX5_holds wsX5_holds3 ({ frames := 8, cells := 1, slots := 6, locals := 160 }) 1 6 D [.ref h, .int x] [(h, .inr (5, [.ref fa, .int (nI sz), .ref ap, .ref aa, .int (nI cn), .int sf, .ref ac, .ref at9, .ref ah]))] (some kNse) (fun _ => some (.int 0)) (fun _ => [(h, .inr (5, [.ref fa, .int (nI sz), .ref ap, .ref aa, .int (nI cn), .int sf, .ref ac, .ref at9, .ref ah]))]) (fun _ => True) := by
  intro sz
  refine vx_ofW (cc := cX5_holds) (maxL := 4) (ret := (some .int)) (by decide) rfl ?_
  intro p e s m args below meth c s₁ B hml hnoh hv
  obtain ⟨rfl, hsz, hP, hK, hD0, hE⟩ := hv
  have hx := B.exec
  have hb := B.bytes
  have hr := B.returns
  have hts := atoms_spec (ws := wsX5_holds3) B.pre
  have hown : s.vm.findClass RX5 = some m.cls := findClass_of_methodNamed B.named
  have hlocks := B.notSynchronized
  subst hsz
  have hD := hD0.self (sz := s.heap.size)
  generalize hAe : va_A [(h, .inr (5, [.ref fa, .int (nI sz), .ref ap, .ref aa, .int (nI cn), .int sf, .ref ac, .ref at9, .ref ah]))] s.heap.size = A at hD hE ⊢
  have hA : ∀ q : Nat, s.heap.size ≤ q → A q := fun q h => by rw [← hAe]; exact Or.inr h
  have hS : va_S A s.heap s.heap [] := va_S.rf
  have hl := lv_entry ([.ref h, .int x]) (n := 4) (Nat.le_of_ble_eq_true rfl)
  refine kgenQ (fun Q hQ => ?_)
  rw [lg_entry_eq]
  generalize (lg_sl ([.ref h, .int x]) ++ List.replicate (4 - (lg_sl ([.ref h, .int x])).length) Slot.unset).toArray = ls at hl ⊢
  have hl : lv_has ls 4 [(0, .ref h), (1, .int x)] := hl
  refine lv_aload_n hx hb dX5_holds_0 rfl (lv_at hl 0 rfl) ?_
  refine lv_iload_n hx hb dX5_holds_1 rfl (lv_at hl 1 rfl) ?_
  refine kxV (C := RX5) (As := [.int x]) (rest := []) (ws := [(h, .inr (5, [.ref fa, .int (nI sz), .ref ap, .ref aa, .int (nI cn), .int sf, .ref ac, .ref at9, .ref ah]))]) (wr := []) ⟨hx, hb, hml, hown, hts⟩ (c_X5_signatureAt_no3 l hl0 D h fa ap aa ac at9 ah sz cn sf x hno) (cwV 1 hts gX5_holds_X5_signatureAt3 rfl rfl rfl (by decide +kernel) ⟨Nat.le_of_ble_eq_true rfl, Nat.le_of_ble_eq_true rfl⟩) hK hE hP hD hS hA [0] [] rfl rfl rfl rfl (by decide) 0 5 rfl rfl rfl rfl hl.1 rfl (Nat.le_of_ble_eq_true rfl) dX5_holds_2 ⟨Nat.le_of_ble_eq_true rfl, Nat.le_of_ble_eq_true rfl⟩ (fun E ce qx H locs hthr hP hD hS hce hcv hcl => ?_) (fun _ H locs hthr hpo hP hD hS => ?_)
  · have hP : va_P D kC [(h, .inr (5, [.ref fa, .int (nI sz), .ref ap, .ref aa, .int (nI cn), .int sf, .ref ac, .ref at9, .ref ah]))] _ := hP
    have hD : va_D A [(h, .inr (5, [.ref fa, .int (nI sz), .ref ap, .ref aa, .int (nI cn), .int sf, .ref ac, .ref at9, .ref ah]))] := hD
    obtain rfl : kNse = E := Option.some.inj hthr
    rw [hQ]
    exact kx_out hnoh hlocks hK hP hD hS hce hcv hcl ⟨Nat.le_of_ble_eq_true rfl, Nat.le_of_ble_eq_true rfl⟩ rfl
  · cases hthr
set_option maxHeartbeats 4000000 in
set_option maxRecDepth 100000 in
/-- no such signature -/
theorem c_X5_span_no3 (l : Launch) (hl0 : l.stackTraces = false) (D : va_G) (h fa ap aa ac at9 ah sz cn : Nat) (sf : Int32) (x : Int32) (u : Int32) (v : Int32) (hno : x < 0 ∨ nI cn ≤ x) : kX (S := Unit) l yX5_span wsX5_span3 ({ frames := 8, cells := 1, slots := 6, locals := 160 }) 1 6 D [.ref h, .int x, .int u, .int v] [(h, .inr (5, [.ref fa, .int (nI sz), .ref ap, .ref aa, .int (nI cn), .int sf, .ref ac, .ref at9, .ref ah]))] (some kNse) (fun _ => some (.long 0)) (fun _ => [(h, .inr (5, [.ref fa, .int (nI sz), .ref ap, .ref aa, .int (nI cn), .int sf, .ref ac, .ref at9, .ref ah]))]) (fun _ => True) := by
  intro sz
  refine vx_ofW (cc := cX5_span) (maxL := 5) (ret := (some .long)) (by decide) rfl ?_
  intro p e s m args below meth c s₁ B hml hnoh hv
  obtain ⟨rfl, hsz, hP, hK, hD0, hE⟩ := hv
  have hx := B.exec
  have hb := B.bytes
  have hr := B.returns
  have hts := atoms_spec (ws := wsX5_span3) B.pre
  have hown : s.vm.findClass RX5 = some m.cls := findClass_of_methodNamed B.named
  have hlocks := B.notSynchronized
  subst hsz
  have hD := hD0.self (sz := s.heap.size)
  generalize hAe : va_A [(h, .inr (5, [.ref fa, .int (nI sz), .ref ap, .ref aa, .int (nI cn), .int sf, .ref ac, .ref at9, .ref ah]))] s.heap.size = A at hD hE ⊢
  have hA : ∀ q : Nat, s.heap.size ≤ q → A q := fun q h => by rw [← hAe]; exact Or.inr h
  have hS : va_S A s.heap s.heap [] := va_S.rf
  have hl := lv_entry ([.ref h, .int x, .int u, .int v]) (n := 5) (Nat.le_of_ble_eq_true rfl)
  refine kgenQ (fun Q hQ => ?_)
  rw [lg_entry_eq]
  generalize (lg_sl ([.ref h, .int x, .int u, .int v]) ++ List.replicate (5 - (lg_sl ([.ref h, .int x, .int u, .int v])).length) Slot.unset).toArray = ls at hl ⊢
  have hl : lv_has ls 5 [(0, .ref h), (1, .int x), (2, .int u), (3, .int v)] := hl
  refine lv_aload_n hx hb dX5_span_0 rfl (lv_at hl 0 rfl) ?_
  refine lv_iload_n hx hb dX5_span_1 rfl (lv_at hl 1 rfl) ?_
  refine kxV (C := RX5) (As := [.int x]) (rest := []) (ws := [(h, .inr (5, [.ref fa, .int (nI sz), .ref ap, .ref aa, .int (nI cn), .int sf, .ref ac, .ref at9, .ref ah]))]) (wr := []) ⟨hx, hb, hml, hown, hts⟩ (c_X5_signatureAt_no3 l hl0 D h fa ap aa ac at9 ah sz cn sf x hno) (cwV 1 hts gX5_span_X5_signatureAt3 rfl rfl rfl (by decide +kernel) ⟨Nat.le_of_ble_eq_true rfl, Nat.le_of_ble_eq_true rfl⟩) hK hE hP hD hS hA [0] [] rfl rfl rfl rfl (by decide) 0 5 rfl rfl rfl rfl hl.1 rfl (Nat.le_of_ble_eq_true rfl) dX5_span_2 ⟨Nat.le_of_ble_eq_true rfl, Nat.le_of_ble_eq_true rfl⟩ (fun E ce qx H locs hthr hP hD hS hce hcv hcl => ?_) (fun _ H locs hthr hpo hP hD hS => ?_)
  · have hP : va_P D kC [(h, .inr (5, [.ref fa, .int (nI sz), .ref ap, .ref aa, .int (nI cn), .int sf, .ref ac, .ref at9, .ref ah]))] _ := hP
    have hD : va_D A [(h, .inr (5, [.ref fa, .int (nI sz), .ref ap, .ref aa, .int (nI cn), .int sf, .ref ac, .ref at9, .ref ah]))] := hD
    obtain rfl : kNse = E := Option.some.inj hthr
    rw [hQ]
    exact kx_out hnoh hlocks hK hP hD hS hce hcv hcl ⟨Nat.le_of_ble_eq_true rfl, Nat.le_of_ble_eq_true rfl⟩ rfl
  · cases hthr
set_option maxHeartbeats 4000000 in
set_option maxRecDepth 100000 in
/-- no such signature -/
theorem c_X5_tell_no3 (l : Launch) (hl0 : l.stackTraces = false) (D : va_G) (h fa ap aa ac at9 ah sz cn : Nat) (sf : Int32) (x : Int32) (u : Int32) (v : Int64) (w : Int64) (hno : x < 0 ∨ nI cn ≤ x) : kX (S := Unit) l yX5_tell wsX5_tell3 ({ frames := 8, cells := 1, slots := 6, locals := 160 }) 1 6 D [.ref h, .int x, .int u, .long v, .long w] [(h, .inr (5, [.ref fa, .int (nI sz), .ref ap, .ref aa, .int (nI cn), .int sf, .ref ac, .ref at9, .ref ah]))] (some kNse) (fun _ => none) (fun _ => [(h, .inr (5, [.ref fa, .int (nI sz), .ref ap, .ref aa, .int (nI cn), .int sf, .ref ac, .ref at9, .ref ah]))]) (fun _ => True) := by
  intro sz
  refine vx_ofW (cc := cX5_tell) (maxL := 8) (ret := none) (by decide) rfl ?_
  intro p e s m args below meth c s₁ B hml hnoh hv
  obtain ⟨rfl, hsz, hP, hK, hD0, hE⟩ := hv
  have hx := B.exec
  have hb := B.bytes
  have hr := B.returns
  have hts := atoms_spec (ws := wsX5_tell3) B.pre
  have hown : s.vm.findClass RX5 = some m.cls := findClass_of_methodNamed B.named
  have hlocks := B.notSynchronized
  subst hsz
  have hD := hD0.self (sz := s.heap.size)
  generalize hAe : va_A [(h, .inr (5, [.ref fa, .int (nI sz), .ref ap, .ref aa, .int (nI cn), .int sf, .ref ac, .ref at9, .ref ah]))] s.heap.size = A at hD hE ⊢
  have hA : ∀ q : Nat, s.heap.size ≤ q → A q := fun q h => by rw [← hAe]; exact Or.inr h
  have hS : va_S A s.heap s.heap [] := va_S.rf
  have hl := lv_entry ([.ref h, .int x, .int u, .long v, .long w]) (n := 8) (Nat.le_of_ble_eq_true rfl)
  refine kgenQ (fun Q hQ => ?_)
  rw [lg_entry_eq]
  generalize (lg_sl ([.ref h, .int x, .int u, .long v, .long w]) ++ List.replicate (8 - (lg_sl ([.ref h, .int x, .int u, .long v, .long w])).length) Slot.unset).toArray = ls at hl ⊢
  have hl : lv_has ls 8 [(0, .ref h), (1, .int x), (2, .int u), (3, .long v), (5, .long w)] := hl
  refine lv_aload_n hx hb dX5_tell_0 rfl (lv_at hl 0 rfl) ?_
  refine lv_iload_n hx hb dX5_tell_1 rfl (lv_at hl 1 rfl) ?_
  refine kxV (C := RX5) (As := [.int x]) (rest := []) (ws := [(h, .inr (5, [.ref fa, .int (nI sz), .ref ap, .ref aa, .int (nI cn), .int sf, .ref ac, .ref at9, .ref ah]))]) (wr := []) ⟨hx, hb, hml, hown, hts⟩ (c_X5_signatureAt_no3 l hl0 D h fa ap aa ac at9 ah sz cn sf x hno) (cwV 1 hts gX5_tell_X5_signatureAt3 rfl rfl rfl (by decide +kernel) ⟨Nat.le_of_ble_eq_true rfl, Nat.le_of_ble_eq_true rfl⟩) hK hE hP hD hS hA [0] [] rfl rfl rfl rfl (by decide) 0 5 rfl rfl rfl rfl hl.1 rfl (Nat.le_of_ble_eq_true rfl) dX5_tell_2 ⟨Nat.le_of_ble_eq_true rfl, Nat.le_of_ble_eq_true rfl⟩ (fun E ce qx H locs hthr hP hD hS hce hcv hcl => ?_) (fun _ H locs hthr hpo hP hD hS => ?_)
  · have hP : va_P D kC [(h, .inr (5, [.ref fa, .int (nI sz), .ref ap, .ref aa, .int (nI cn), .int sf, .ref ac, .ref at9, .ref ah]))] _ := hP
    have hD : va_D A [(h, .inr (5, [.ref fa, .int (nI sz), .ref ap, .ref aa, .int (nI cn), .int sf, .ref ac, .ref at9, .ref ah]))] := hD
    obtain rfl : kNse = E := Option.some.inj hthr
    rw [hQ]
    exact kx_out hnoh hlocks hK hP hD hS hce hcv hcl ⟨Nat.le_of_ble_eq_true rfl, Nat.le_of_ble_eq_true rfl⟩ rfl
  · cases hthr
set_option maxHeartbeats 4000000 in
set_option maxRecDepth 100000 in
/-- no such signature -/
theorem c_X5_chain_no3 (l : Launch) (hl0 : l.stackTraces = false) (D : va_G) (h fa ap aa ac at9 ah sz cn : Nat) (sf : Int32) (x : Int32) (u : Int64) (v : Int64) (hno : x < 0 ∨ nI cn ≤ x) : kX (S := Unit) l yX5_chain wsX5_chain3 ({ frames := 8, cells := 1, slots := 6, locals := 160 }) 1 6 D [.ref h, .int x, .long u, .long v] [(h, .inr (5, [.ref fa, .int (nI sz), .ref ap, .ref aa, .int (nI cn), .int sf, .ref ac, .ref at9, .ref ah]))] (some kNse) (fun _ => some (.int 0)) (fun _ => [(h, .inr (5, [.ref fa, .int (nI sz), .ref ap, .ref aa, .int (nI cn), .int sf, .ref ac, .ref at9, .ref ah]))]) (fun _ => True) := by
  intro sz
  refine vx_ofW (cc := cX5_chain) (maxL := 7) (ret := (some .int)) (by decide) rfl ?_
  intro p e s m args below meth c s₁ B hml hnoh hv
  obtain ⟨rfl, hsz, hP, hK, hD0, hE⟩ := hv
  have hx := B.exec
  have hb := B.bytes
  have hr := B.returns
  have hts := atoms_spec (ws := wsX5_chain3) B.pre
  have hown : s.vm.findClass RX5 = some m.cls := findClass_of_methodNamed B.named
  have hlocks := B.notSynchronized
  subst hsz
  have hD := hD0.self (sz := s.heap.size)
  generalize hAe : va_A [(h, .inr (5, [.ref fa, .int (nI sz), .ref ap, .ref aa, .int (nI cn), .int sf, .ref ac, .ref at9, .ref ah]))] s.heap.size = A at hD hE ⊢
  have hA : ∀ q : Nat, s.heap.size ≤ q → A q := fun q h => by rw [← hAe]; exact Or.inr h
  have hS : va_S A s.heap s.heap [] := va_S.rf
  have hl := lv_entry ([.ref h, .int x, .long u, .long v]) (n := 7) (Nat.le_of_ble_eq_true rfl)
  refine kgenQ (fun Q hQ => ?_)
  rw [lg_entry_eq]
  generalize (lg_sl ([.ref h, .int x, .long u, .long v]) ++ List.replicate (7 - (lg_sl ([.ref h, .int x, .long u, .long v])).length) Slot.unset).toArray = ls at hl ⊢
  have hl : lv_has ls 7 [(0, .ref h), (1, .int x), (2, .long u), (4, .long v)] := hl
  refine lv_aload_n hx hb dX5_chain_0 rfl (lv_at hl 0 rfl) ?_
  refine lv_iload_n hx hb dX5_chain_1 rfl (lv_at hl 1 rfl) ?_
  refine kxV (C := RX5) (As := [.int x]) (rest := []) (ws := [(h, .inr (5, [.ref fa, .int (nI sz), .ref ap, .ref aa, .int (nI cn), .int sf, .ref ac, .ref at9, .ref ah]))]) (wr := []) ⟨hx, hb, hml, hown, hts⟩ (c_X5_signatureAt_no3 l hl0 D h fa ap aa ac at9 ah sz cn sf x hno) (cwV 1 hts gX5_chain_X5_signatureAt3 rfl rfl rfl (by decide +kernel) ⟨Nat.le_of_ble_eq_true rfl, Nat.le_of_ble_eq_true rfl⟩) hK hE hP hD hS hA [0] [] rfl rfl rfl rfl (by decide) 0 5 rfl rfl rfl rfl hl.1 rfl (Nat.le_of_ble_eq_true rfl) dX5_chain_2 ⟨Nat.le_of_ble_eq_true rfl, Nat.le_of_ble_eq_true rfl⟩ (fun E ce qx H locs hthr hP hD hS hce hcv hcl => ?_) (fun _ H locs hthr hpo hP hD hS => ?_)
  · have hP : va_P D kC [(h, .inr (5, [.ref fa, .int (nI sz), .ref ap, .ref aa, .int (nI cn), .int sf, .ref ac, .ref at9, .ref ah]))] _ := hP
    have hD : va_D A [(h, .inr (5, [.ref fa, .int (nI sz), .ref ap, .ref aa, .int (nI cn), .int sf, .ref ac, .ref at9, .ref ah]))] := hD
    obtain rfl : kNse = E := Option.some.inj hthr
    rw [hQ]
    exact kx_out hnoh hlocks hK hP hD hS hce hcv hcl ⟨Nat.le_of_ble_eq_true rfl, Nat.le_of_ble_eq_true rfl⟩ rfl
  · cases hthr
set_option maxHeartbeats 4000000 in
set_option maxRecDepth 100000 in
/-- no such signature -/
theorem c_X5_allow_no3 (l : Launch) (hl0 : l.stackTraces = false) (D : va_G) (h fa ap aa ac at9 ah sz cn : Nat) (sf : Int32) (x : Int32) (u : Int32) (hno : x < 0 ∨ nI cn ≤ x) : kX (S := Unit) l yX5_allow wsX5_allow3 ({ frames := 8, cells := 1, slots := 6, locals := 160 }) 1 6 D [.ref h, .int x, .int u] [(h, .inr (5, [.ref fa, .int (nI sz), .ref ap, .ref aa, .int (nI cn), .int sf, .ref ac, .ref at9, .ref ah]))] (some kNse) (fun _ => some (.int 0)) (fun _ => [(h, .inr (5, [.ref fa, .int (nI sz), .ref ap, .ref aa, .int (nI cn), .int sf, .ref ac, .ref at9, .ref ah]))]) (fun _ => True) := by
  intro sz
  refine vx_ofW (cc := cX5_allow) (maxL := 5) (ret := (some .int)) (by decide) rfl ?_
  intro p e s m args below meth c s₁ B hml hnoh hv
  obtain ⟨rfl, hsz, hP, hK, hD0, hE⟩ := hv
  have hx := B.exec
  have hb := B.bytes
  have hr := B.returns
  have hts := atoms_spec (ws := wsX5_allow3) B.pre
  have hown : s.vm.findClass RX5 = some m.cls := findClass_of_methodNamed B.named
  have hlocks := B.notSynchronized
  subst hsz
  have hD := hD0.self (sz := s.heap.size)
  generalize hAe : va_A [(h, .inr (5, [.ref fa, .int (nI sz), .ref ap, .ref aa, .int (nI cn), .int sf, .ref ac, .ref at9, .ref ah]))] s.heap.size = A at hD hE ⊢
  have hA : ∀ q : Nat, s.heap.size ≤ q → A q := fun q h => by rw [← hAe]; exact Or.inr h
  have hS : va_S A s.heap s.heap [] := va_S.rf
  have hl := lv_entry ([.ref h, .int x, .int u]) (n := 5) (Nat.le_of_ble_eq_true rfl)
  refine kgenQ (fun Q hQ => ?_)
  rw [lg_entry_eq]
  generalize (lg_sl ([.ref h, .int x, .int u]) ++ List.replicate (5 - (lg_sl ([.ref h, .int x, .int u])).length) Slot.unset).toArray = ls at hl ⊢
  have hl : lv_has ls 5 [(0, .ref h), (1, .int x), (2, .int u)] := hl
  refine lv_aload_n hx hb dX5_allow_0 rfl (lv_at hl 0 rfl) ?_
  refine lv_iload_n hx hb dX5_allow_1 rfl (lv_at hl 1 rfl) ?_
  refine kxV (C := RX5) (As := [.int x]) (rest := []) (ws := [(h, .inr (5, [.ref fa, .int (nI sz), .ref ap, .ref aa, .int (nI cn), .int sf, .ref ac, .ref at9, .ref ah]))]) (wr := []) ⟨hx, hb, hml, hown, hts⟩ (c_X5_signatureAt_no3 l hl0 D h fa ap aa ac at9 ah sz cn sf x hno) (cwV 1 hts gX5_allow_X5_signatureAt3 rfl rfl rfl (by decide +kernel) ⟨Nat.le_of_ble_eq_true rfl, Nat.le_of_ble_eq_true rfl⟩) hK hE hP hD hS hA [0] [] rfl rfl rfl rfl (by decide) 0 5 rfl rfl rfl rfl hl.1 rfl (Nat.le_of_ble_eq_true rfl) dX5_allow_2 ⟨Nat.le_of_ble_eq_true rfl, Nat.le_of_ble_eq_true rfl⟩ (fun E ce qx H locs hthr hP hD hS hce hcv hcl => ?_) (fun _ H locs hthr hpo hP hD hS => ?_)
  · have hP : va_P D kC [(h, .inr (5, [.ref fa, .int (nI sz), .ref ap, .ref aa, .int (nI cn), .int sf, .ref ac, .ref at9, .ref ah]))] _ := hP
    have hD : va_D A [(h, .inr (5, [.ref fa, .int (nI sz), .ref ap, .ref aa, .int (nI cn), .int sf, .ref ac, .ref at9, .ref ah]))] := hD
    obtain rfl : kNse = E := Option.some.inj hthr
    rw [hQ]
    exact kx_out hnoh hlocks hK hP hD hS hce hcv hcl ⟨Nat.le_of_ble_eq_true rfl, Nat.le_of_ble_eq_true rfl⟩ rfl
  · cases hthr
set_option maxHeartbeats 4000000 in
set_option maxRecDepth 100000 in
/-- no such signature -/
theorem c_X5_lock_no3 (l : Launch) (hl0 : l.stackTraces = false) (D : va_G) (h fa ap aa ac at9 ah sz cn : Nat) (sf : Int32) (x : Int32) (u : Int32) (hno : x < 0 ∨ nI cn ≤ x) : kX (S := Unit) l yX5_lock wsX5_lock3 ({ frames := 8, cells := 1, slots := 6, locals := 160 }) 1 6 D [.ref h, .int x, .int u] [(h, .inr (5, [.ref fa, .int (nI sz), .ref ap, .ref aa, .int (nI cn), .int sf, .ref ac, .ref at9, .ref ah]))] (some kNse) (fun _ => some (.int 0)) (fun _ => [(h, .inr (5, [.ref fa, .int (nI sz), .ref ap, .ref aa, .int (nI cn), .int sf, .ref ac, .ref at9, .ref ah]))]) (fun _ => True) := by
  intro sz
  refine vx_ofW (cc := cX5_lock) (maxL := 4) (ret := (some .int)) (by decide) rfl ?_
  intro p e s m args below meth c s₁ B hml hnoh hv
  obtain ⟨rfl, hsz, hP, hK, hD0, hE⟩ := hv
  have hx := B.exec
  have hb := B.bytes
  have hr := B.returns
  have hts := atoms_spec (ws := wsX5_lock3) B.pre
  have hown : s.vm.findClass RX5 = some m.cls := findClass_of_methodNamed B.named
  have hlocks := B.notSynchronized
  subst hsz
  have hD := hD0.self (sz := s.heap.size)
  generalize hAe : va_A [(h, .inr (5, [.ref fa, .int (nI sz), .ref ap, .ref aa, .int (nI cn), .int sf, .ref ac, .ref at9, .ref ah]))] s.heap.size = A at hD hE ⊢
  have hA : ∀ q : Nat, s.heap.size ≤ q → A q := fun q h => by rw [← hAe]; exact Or.inr h
  have hS : va_S A s.heap s.heap [] := va_S.rf
  have hl := lv_entry ([.ref h, .int x, .int u]) (n := 4) (Nat.le_of_ble_eq_true rfl)
  refine kgenQ (fun Q hQ => ?_)
  rw [lg_entry_eq]
  generalize (lg_sl ([.ref h, .int x, .int u]) ++ List.replicate (4 - (lg_sl ([.ref h, .int x, .int u])).length) Slot.unset).toArray = ls at hl ⊢
  have hl : lv_has ls 4 [(0, .ref h), (1, .int x), (2, .int u)] := hl
  refine lv_aload_n hx hb dX5_lock_0 rfl (lv_at hl 0 rfl) ?_
  refine lv_iload_n hx hb dX5_lock_1 rfl (lv_at hl 1 rfl) ?_
  refine kxV (C := RX5) (As := [.int x]) (rest := []) (ws := [(h, .inr (5, [.ref fa, .int (nI sz), .ref ap, .ref aa, .int (nI cn), .int sf, .ref ac, .ref at9, .ref ah]))]) (wr := []) ⟨hx, hb, hml, hown, hts⟩ (c_X5_signatureAt_no3 l hl0 D h fa ap aa ac at9 ah sz cn sf x hno) (cwV 1 hts gX5_lock_X5_signatureAt3 rfl rfl rfl (by decide +kernel) ⟨Nat.le_of_ble_eq_true rfl, Nat.le_of_ble_eq_true rfl⟩) hK hE hP hD hS hA [0] [] rfl rfl rfl rfl (by decide) 0 5 rfl rfl rfl rfl hl.1 rfl (Nat.le_of_ble_eq_true rfl) dX5_lock_2 ⟨Nat.le_of_ble_eq_true rfl, Nat.le_of_ble_eq_true rfl⟩ (fun E ce qx H locs hthr hP hD hS hce hcv hcl => ?_) (fun _ H locs hthr hpo hP hD hS => ?_)
  · have hP : va_P D kC [(h, .inr (5, [.ref fa, .int (nI sz), .ref ap, .ref aa, .int (nI cn), .int sf, .ref ac, .ref at9, .ref ah]))] _ := hP
    have hD : va_D A [(h, .inr (5, [.ref fa, .int (nI sz), .ref ap, .ref aa, .int (nI cn), .int sf, .ref ac, .ref at9, .ref ah]))] := hD
    obtain rfl : kNse = E := Option.some.inj hthr
    rw [hQ]
    exact kx_out hnoh hlocks hK hP hD hS hce hcv hcl ⟨Nat.le_of_ble_eq_true rfl, Nat.le_of_ble_eq_true rfl⟩ rfl
  · cases hthr
set_option maxHeartbeats 4000000 in
set_option maxRecDepth 100000 in
/-- no such signature -/
theorem c_X5_certify_no3 (l : Launch) (hl0 : l.stackTraces = false) (D : va_G) (h fa ap aa ac at9 ah sz cn : Nat) (sf : Int32) (x : Int32) (u : Int32) (hno : x < 0 ∨ nI cn ≤ x) : kX (S := Unit) l yX5_certify wsX5_certify3 ({ frames := 8, cells := 1, slots := 6, locals := 160 }) 1 6 D [.ref h, .int x, .int u] [(h, .inr (5, [.ref fa, .int (nI sz), .ref ap, .ref aa, .int (nI cn), .int sf, .ref ac, .ref at9, .ref ah]))] (some kNse) (fun _ => some (.int 0)) (fun _ => [(h, .inr (5, [.ref fa, .int (nI sz), .ref ap, .ref aa, .int (nI cn), .int sf, .ref ac, .ref at9, .ref ah]))]) (fun _ => True) := by
  intro sz
  refine vx_ofW (cc := cX5_certify) (maxL := 4) (ret := (some .int)) (by decide) rfl ?_
  intro p e s m args below meth c s₁ B hml hnoh hv
  obtain ⟨rfl, hsz, hP, hK, hD0, hE⟩ := hv
  have hx := B.exec
  have hb := B.bytes
  have hr := B.returns
  have hts := atoms_spec (ws := wsX5_certify3) B.pre
  have hown : s.vm.findClass RX5 = some m.cls := findClass_of_methodNamed B.named
  have hlocks := B.notSynchronized
  subst hsz
  have hD := hD0.self (sz := s.heap.size)
  generalize hAe : va_A [(h, .inr (5, [.ref fa, .int (nI sz), .ref ap, .ref aa, .int (nI cn), .int sf, .ref ac, .ref at9, .ref ah]))] s.heap.size = A at hD hE ⊢
  have hA : ∀ q : Nat, s.heap.size ≤ q → A q := fun q h => by rw [← hAe]; exact Or.inr h
  have hS : va_S A s.heap s.heap [] := va_S.rf
  have hl := lv_entry ([.ref h, .int x, .int u]) (n := 4) (Nat.le_of_ble_eq_true rfl)
  refine kgenQ (fun Q hQ => ?_)
  rw [lg_entry_eq]
  generalize (lg_sl ([.ref h, .int x, .int u]) ++ List.replicate (4 - (lg_sl ([.ref h, .int x, .int u])).length) Slot.unset).toArray = ls at hl ⊢
  have hl : lv_has ls 4 [(0, .ref h), (1, .int x), (2, .int u)] := hl
  refine lv_aload_n hx hb dX5_certify_0 rfl (lv_at hl 0 rfl) ?_
  refine lv_iload_n hx hb dX5_certify_1 rfl (lv_at hl 1 rfl) ?_
  refine kxV (C := RX5) (As := [.int x]) (rest := []) (ws := [(h, .inr (5, [.ref fa, .int (nI sz), .ref ap, .ref aa, .int (nI cn), .int sf, .ref ac, .ref at9, .ref ah]))]) (wr := []) ⟨hx, hb, hml, hown, hts⟩ (c_X5_signatureAt_no3 l hl0 D h fa ap aa ac at9 ah sz cn sf x hno) (cwV 1 hts gX5_certify_X5_signatureAt3 rfl rfl rfl (by decide +kernel) ⟨Nat.le_of_ble_eq_true rfl, Nat.le_of_ble_eq_true rfl⟩) hK hE hP hD hS hA [0] [] rfl rfl rfl rfl (by decide) 0 5 rfl rfl rfl rfl hl.1 rfl (Nat.le_of_ble_eq_true rfl) dX5_certify_2 ⟨Nat.le_of_ble_eq_true rfl, Nat.le_of_ble_eq_true rfl⟩ (fun E ce qx H locs hthr hP hD hS hce hcv hcl => ?_) (fun _ H locs hthr hpo hP hD hS => ?_)
  · have hP : va_P D kC [(h, .inr (5, [.ref fa, .int (nI sz), .ref ap, .ref aa, .int (nI cn), .int sf, .ref ac, .ref at9, .ref ah]))] _ := hP
    have hD : va_D A [(h, .inr (5, [.ref fa, .int (nI sz), .ref ap, .ref aa, .int (nI cn), .int sf, .ref ac, .ref at9, .ref ah]))] := hD
    obtain rfl : kNse = E := Option.some.inj hthr
    rw [hQ]
    exact kx_out hnoh hlocks hK hP hD hS hce hcv hcl ⟨Nat.le_of_ble_eq_true rfl, Nat.le_of_ble_eq_true rfl⟩ rfl
  · cases hthr
set_option maxHeartbeats 4000000 in
set_option maxRecDepth 100000 in
/-- no such signature -/
theorem c_X5_since_no3 (l : Launch) (hl0 : l.stackTraces = false) (D : va_G) (h fa ap aa ac at9 ah sz cn : Nat) (sf : Int32) (x : Int32) (u : Int32) (v : Int32) (hno : x < 0 ∨ nI cn ≤ x) : kX (S := Unit) l yX5_since wsX5_since3 ({ frames := 8, cells := 1, slots := 6, locals := 160 }) 1 6 D [.ref h, .int x, .int u, .int v] [(h, .inr (5, [.ref fa, .int (nI sz), .ref ap, .ref aa, .int (nI cn), .int sf, .ref ac, .ref at9, .ref ah]))] (some kNse) (fun _ => some (.int 0)) (fun _ => [(h, .inr (5, [.ref fa, .int (nI sz), .ref ap, .ref aa, .int (nI cn), .int sf, .ref ac, .ref at9, .ref ah]))]) (fun _ => True) := by
  intro sz
  refine vx_ofW (cc := cX5_since) (maxL := 7) (ret := (some .int)) (by decide) rfl ?_
  intro p e s m args below meth c s₁ B hml hnoh hv
  obtain ⟨rfl, hsz, hP, hK, hD0, hE⟩ := hv
  have hx := B.exec
  have hb := B.bytes
  have hr := B.returns
  have hts := atoms_spec (ws := wsX5_since3) B.pre
  have hown : s.vm.findClass RX5 = some m.cls := findClass_of_methodNamed B.named
  have hlocks := B.notSynchronized
  subst hsz
  have hD := hD0.self (sz := s.heap.size)
  generalize hAe : va_A [(h, .inr (5, [.ref fa, .int (nI sz), .ref ap, .ref aa, .int (nI cn), .int sf, .ref ac, .ref at9, .ref ah]))] s.heap.size = A at hD hE ⊢
  have hA : ∀ q : Nat, s.heap.size ≤ q → A q := fun q h => by rw [← hAe]; exact Or.inr h
  have hS : va_S A s.heap s.heap [] := va_S.rf
  have hl := lv_entry ([.ref h, .int x, .int u, .int v]) (n := 7) (Nat.le_of_ble_eq_true rfl)
  refine kgenQ (fun Q hQ => ?_)
  rw [lg_entry_eq]
  generalize (lg_sl ([.ref h, .int x, .int u, .int v]) ++ List.replicate (7 - (lg_sl ([.ref h, .int x, .int u, .int v])).length) Slot.unset).toArray = ls at hl ⊢
  have hl : lv_has ls 7 [(0, .ref h), (1, .int x), (2, .int u), (3, .int v)] := hl
  refine lv_aload_n hx hb dX5_since_0 rfl (lv_at hl 0 rfl) ?_
  refine lv_iload_n hx hb dX5_since_1 rfl (lv_at hl 1 rfl) ?_
  refine kxV (C := RX5) (As := [.int x]) (rest := []) (ws := [(h, .inr (5, [.ref fa, .int (nI sz), .ref ap, .ref aa, .int (nI cn), .int sf, .ref ac, .ref at9, .ref ah]))]) (wr := []) ⟨hx, hb, hml, hown, hts⟩ (c_X5_signatureAt_no3 l hl0 D h fa ap aa ac at9 ah sz cn sf x hno) (cwV 1 hts gX5_since_X5_signatureAt3 rfl rfl rfl (by decide +kernel) ⟨Nat.le_of_ble_eq_true rfl, Nat.le_of_ble_eq_true rfl⟩) hK hE hP hD hS hA [0] [] rfl rfl rfl rfl (by decide) 0 5 rfl rfl rfl rfl hl.1 rfl (Nat.le_of_ble_eq_true rfl) dX5_since_2 ⟨Nat.le_of_ble_eq_true rfl, Nat.le_of_ble_eq_true rfl⟩ (fun E ce qx H locs hthr hP hD hS hce hcv hcl => ?_) (fun _ H locs hthr hpo hP hD hS => ?_)
  · have hP : va_P D kC [(h, .inr (5, [.ref fa, .int (nI sz), .ref ap, .ref aa, .int (nI cn), .int sf, .ref ac, .ref at9, .ref ah]))] _ := hP
    have hD : va_D A [(h, .inr (5, [.ref fa, .int (nI sz), .ref ap, .ref aa, .int (nI cn), .int sf, .ref ac, .ref at9, .ref ah]))] := hD
    obtain rfl : kNse = E := Option.some.inj hthr
    rw [hQ]
    exact kx_out hnoh hlocks hK hP hD hS hce hcv hcl ⟨Nat.le_of_ble_eq_true rfl, Nat.le_of_ble_eq_true rfl⟩ rfl
  · cases hthr
set_option maxHeartbeats 4000000 in
set_option maxRecDepth 100000 in
/-- no such signature -/
theorem c_X5_digest_no3 (l : Launch) (hl0 : l.stackTraces = false) (D : va_G) (h fa ap aa ac at9 ah sz cn : Nat) (sf : Int32) (x : Int32) (u : Int32) (hno : x < 0 ∨ nI cn ≤ x) : kX (S := Unit) l yX5_digest wsX5_digest23 ({ frames := 8, cells := 1, slots := 6, locals := 160 }) 1 6 D [.ref h, .int x, .int u] [(h, .inr (5, [.ref fa, .int (nI sz), .ref ap, .ref aa, .int (nI cn), .int sf, .ref ac, .ref at9, .ref ah]))] (some kNse) (fun _ => some (.int 0)) (fun _ => [(h, .inr (5, [.ref fa, .int (nI sz), .ref ap, .ref aa, .int (nI cn), .int sf, .ref ac, .ref at9, .ref ah]))]) (fun _ => True) := by
  intro sz
  refine vx_ofW (cc := cX5_digest) (maxL := 4) (ret := (some .byte)) (by decide) rfl ?_
  intro p e s m args below meth c s₁ B hml hnoh hv
  obtain ⟨rfl, hsz, hP, hK, hD0, hE⟩ := hv
  have hx := B.exec
  have hb := B.bytes
  have hr := B.returns
  have hts := atoms_spec (ws := wsX5_digest23) B.pre
  have hown : s.vm.findClass RX5 = some m.cls := findClass_of_methodNamed B.named
  have hlocks := B.notSynchronized
  subst hsz
  have hD := hD0.self (sz := s.heap.size)
  generalize hAe : va_A [(h, .inr (5, [.ref fa, .int (nI sz), .ref ap, .ref aa, .int (nI cn), .int sf, .ref ac, .ref at9, .ref ah]))] s.heap.size = A at hD hE ⊢
  have hA : ∀ q : Nat, s.heap.size ≤ q → A q := fun q h => by rw [← hAe]; exact Or.inr h
  have hS : va_S A s.heap s.heap [] := va_S.rf
  have hl := lv_entry ([.ref h, .int x, .int u]) (n := 4) (Nat.le_of_ble_eq_true rfl)
  refine kgenQ (fun Q hQ => ?_)
  rw [lg_entry_eq]
  generalize (lg_sl ([.ref h, .int x, .int u]) ++ List.replicate (4 - (lg_sl ([.ref h, .int x, .int u])).length) Slot.unset).toArray = ls at hl ⊢
  have hl : lv_has ls 4 [(0, .ref h), (1, .int x), (2, .int u)] := hl
  refine lv_aload_n hx hb dX5_digest_0 rfl (lv_at hl 0 rfl) ?_
  refine lv_iload_n hx hb dX5_digest_1 rfl (lv_at hl 1 rfl) ?_
  refine kxV (C := RX5) (As := [.int x]) (rest := []) (ws := [(h, .inr (5, [.ref fa, .int (nI sz), .ref ap, .ref aa, .int (nI cn), .int sf, .ref ac, .ref at9, .ref ah]))]) (wr := []) ⟨hx, hb, hml, hown, hts⟩ (c_X5_signatureAt_no3 l hl0 D h fa ap aa ac at9 ah sz cn sf x hno) (cwV 1 hts gX5_digest2_X5_signatureAt3 rfl rfl rfl (by decide +kernel) ⟨Nat.le_of_ble_eq_true rfl, Nat.le_of_ble_eq_true rfl⟩) hK hE hP hD hS hA [0] [] rfl rfl rfl rfl (by decide) 0 5 rfl rfl rfl rfl hl.1 rfl (Nat.le_of_ble_eq_true rfl) dX5_digest_2 ⟨Nat.le_of_ble_eq_true rfl, Nat.le_of_ble_eq_true rfl⟩ (fun E ce qx H locs hthr hP hD hS hce hcv hcl => ?_) (fun _ H locs hthr hpo hP hD hS => ?_)
  · have hP : va_P D kC [(h, .inr (5, [.ref fa, .int (nI sz), .ref ap, .ref aa, .int (nI cn), .int sf, .ref ac, .ref at9, .ref ah]))] _ := hP
    have hD : va_D A [(h, .inr (5, [.ref fa, .int (nI sz), .ref ap, .ref aa, .int (nI cn), .int sf, .ref ac, .ref at9, .ref ah]))] := hD
    obtain rfl : kNse = E := Option.some.inj hthr
    rw [hQ]
    exact kx_out hnoh hlocks hK hP hD hS hce hcv hcl ⟨Nat.le_of_ble_eq_true rfl, Nat.le_of_ble_eq_true rfl⟩ rfl
  · cases hthr
theorem iX5_behindno_X53 : ∀ w ∈ wsX50, w ∈ wsX5_behind3 := by decide +kernel
theorem X5_behindno_hwd03 : (.fieldLink RX5 47 "SignatureSpans" "size" "I" : Cond) ∈ wsX5_behind3 := by decide +kernel
set_option maxHeartbeats 4000000 in
set_option maxRecDepth 100000 in
/-- no such signature -/
theorem c_X5_behind_no3 (l : Launch) (hl0 : l.stackTraces = false) (D : va_G) (h fa ap aa ac at9 ah sz cn : Nat) (sf : Int32) (x : Int32)  (hno : x < 0 ∨ nI cn ≤ x) : kX (S := Unit) l yX5_behind wsX5_behind3 ({ frames := 8, cells := 1, slots := 6, locals := 160 }) 1 6 D [.ref h, .int x] [(h, .inr (5, [.ref fa, .int (nI sz), .ref ap, .ref aa, .int (nI cn), .int sf, .ref ac, .ref at9, .ref ah]))] (some kNse) (fun _ => some (.long 0)) (fun _ => [(h, .inr (5, [.ref fa, .int (nI sz), .ref ap, .ref aa, .int (nI cn), .int sf, .ref ac, .ref at9, .ref ah]))]) (fun _ => True) := by
  intro sz
  refine vx_ofW (cc := cX5_behind) (maxL := 2) (ret := (some .long)) (by decide) rfl ?_
  intro p e s m args below meth c s₁ B hml hnoh hv
  obtain ⟨rfl, hsz, hP, hK, hD0, hE⟩ := hv
  have hx := B.exec
  have hb := B.bytes
  have hr := B.returns
  have hts := atoms_spec (ws := wsX5_behind3) B.pre
  have hown : s.vm.findClass RX5 = some m.cls := findClass_of_methodNamed B.named
  have hlocks := B.notSynchronized
  subst hsz
  have hD := hD0.self (sz := s.heap.size)
  generalize hAe : va_A [(h, .inr (5, [.ref fa, .int (nI sz), .ref ap, .ref aa, .int (nI cn), .int sf, .ref ac, .ref at9, .ref ah]))] s.heap.size = A at hD hE ⊢
  have hA : ∀ q : Nat, s.heap.size ≤ q → A q := fun q h => by rw [← hAe]; exact Or.inr h
  have hS : va_S A s.heap s.heap [] := va_S.rf
  have hl := lv_entry ([.ref h, .int x]) (n := 2) (Nat.le_of_ble_eq_true rfl)
  have inX5 : ∀ w ∈ wsX50, w ∈ wsX5_behind3 := iX5_behindno_X53
  have hwd0 := hts (.fieldLink RX5 47 "SignatureSpans" "size" "I") X5_behindno_hwd03
  refine kgenQ (fun Q hQ => ?_)
  rw [lg_entry_eq]
  generalize (lg_sl ([.ref h, .int x]) ++ List.replicate (2 - (lg_sl ([.ref h, .int x])).length) Slot.unset).toArray = ls at hl ⊢
  have hl : lv_has ls 2 [(0, .ref h), (1, .int x)] := hl
  refine lv_aload_n hx hb dX5_behind_0 rfl (lv_at hl 0 rfl) ?_
  refine va_get (D := D) (ci := 5) (v := .int (nI sz)) (C := RX5) (T := TX5) (N := 9) hx hb hts inX5 hown hK hP 0 rfl rfl 1 (by decide) hwd0 (fun _ h9 => h9) rfl dX5_behind_1 ?_
  refine lv_aload_n hx hb dX5_behind_4 rfl (lv_at hl 0 rfl) ?_
  refine lv_iload_n hx hb dX5_behind_5 rfl (lv_at hl 1 rfl) ?_
  refine kxV (C := RX5) (As := [.int x]) (rest := [.int (nI sz)]) (ws := [(h, .inr (5, [.ref fa, .int (nI sz), .ref ap, .ref aa, .int (nI cn), .int sf, .ref ac, .ref at9, .ref ah]))]) (wr := []) ⟨hx, hb, hml, hown, hts⟩ (c_X5_signatureAt_no3 l hl0 D h fa ap aa ac at9 ah sz cn sf x hno) (cwV 1 hts gX5_behind_X5_signatureAt3 rfl rfl rfl (by decide +kernel) ⟨Nat.le_of_ble_eq_true rfl, Nat.le_of_ble_eq_true rfl⟩) hK hE hP hD hS hA [0] [] rfl rfl rfl rfl (by decide) 0 5 rfl rfl rfl rfl hl.1 rfl (Nat.le_of_ble_eq_true rfl) dX5_behind_6 ⟨Nat.le_of_ble_eq_true rfl, Nat.le_of_ble_eq_true rfl⟩ (fun E ce qx H locs hthr hP hD hS hce hcv hcl => ?_) (fun _ H locs hthr hpo hP hD hS => ?_)
  · have hP : va_P D kC [(h, .inr (5, [.ref fa, .int (nI sz), .ref ap, .ref aa, .int (nI cn), .int sf, .ref ac, .ref at9, .ref ah]))] _ := hP
    have hD : va_D A [(h, .inr (5, [.ref fa, .int (nI sz), .ref ap, .ref aa, .int (nI cn), .int sf, .ref ac, .ref at9, .ref ah]))] := hD
    obtain rfl : kNse = E := Option.some.inj hthr
    rw [hQ]
    exact kx_out hnoh hlocks hK hP hD hS hce hcv hcl ⟨Nat.le_of_ble_eq_true rfl, Nat.le_of_ble_eq_true rfl⟩ rfl
  · cases hthr
theorem iX5_span_X33 : ∀ w ∈ wsX30, w ∈ wsX5_span3 := by decide +kernel
theorem X5_span_hwd03 : (.classLink RX5 58 "java/lang/IndexOutOfBoundsException" : Cond) ∈ wsX5_span3 := by decide +kernel
theorem X5_span_hwd13 : (.initialized "java/lang/IndexOutOfBoundsException" : Cond) ∈ wsX5_span3 := by decide +kernel
theorem X5_span_hwd23 : (.fieldLink RX5 161 "SignatureSpans$Signature" "spans" "[J" : Cond) ∈ wsX5_span3 := by decide +kernel
theorem xX5_span_623 : ∀ w ∈ (vx_atS RX5 62 "java/lang/IndexOutOfBoundsException" ["java/lang/RuntimeException", "java/lang/Exception"]).filter goodWord, w ∈ wsX5_span3 := by decide +kernel
set_option maxHeartbeats 4000000 in
set_option maxRecDepth 100000 in
/-- span -/
theorem c_X5_span3 (l : Launch) (hl0 : l.stackTraces = false) (D : va_G) (h fa ap aa ac at9 ah sz cn : Nat) (sf : Int32) (hs dw sa cf ct pa pb en cb cl lv : Nat) (ve ak lf : Int32) (ti : Int64) (i : Nat) (sg : Nat → Option Nat) (hi : i < cn) (hcn : cn ≤ 8) (hsg : sg i = some hs) (ss : Nat → Int64) (x y : Int32) : kX (S := Unit) l yX5_span wsX5_span3 ({ frames := 8, cells := 1, slots := 6, locals := 160 }) 1 6 D [.ref h, .int (nI i), .int x, .int y] [(h, .inr (5, [.ref fa, .int (nI sz), .ref ap, .ref aa, .int (nI cn), .int sf, .ref ac, .ref at9, .ref ah])), (aa, .inl (D.1 24, 8, .inr (.inr (.inr (.inr sg))))), (hs, .inr (3, [.int (nI pa), .int (nI pb), .int (nI en), .int ve, .long ti, .int (nI cb), .ref dw, .ref sa, .ref cf, .ref ct, .int (nI cl), .int ak, .int lf, .int (nI lv)])), (sa, .inl (D.1 23, 4, .inr (.inl ss)))] (kEx [kNse, kIob] (kcSpan x y)) (fun _ => some (.long (ss (2 * kN x + kN y)))) (fun _ => [(h, .inr (5, [.ref fa, .int (nI sz), .ref ap, .ref aa, .int (nI cn), .int sf, .ref ac, .ref at9, .ref ah])), (aa, .inl (D.1 24, 8, .inr (.inr (.inr (.inr sg))))), (hs, .inr (3, [.int (nI pa), .int (nI pb), .int (nI en), .int ve, .long ti, .int (nI cb), .ref dw, .ref sa, .ref cf, .ref ct, .int (nI cl), .int ak, .int lf, .int (nI lv)])), (sa, .inl (D.1 23, 4, .inr (.inl ss)))]) (fun _ => True) := by
  intro sz
  refine vx_ofW (cc := cX5_span) (maxL := 5) (ret := (some .long)) (by decide) rfl ?_
  intro p e s m args below meth c s₁ B hml hnoh hv
  obtain ⟨rfl, hsz, hP, hK, hD0, hE⟩ := hv
  have hx := B.exec
  have hb := B.bytes
  have hr := B.returns
  have hts := atoms_spec (ws := wsX5_span3) B.pre
  have hown : s.vm.findClass RX5 = some m.cls := findClass_of_methodNamed B.named
  have hlocks := B.notSynchronized
  subst hsz
  have hD := hD0.self (sz := s.heap.size)
  generalize hAe : va_A [(h, .inr (5, [.ref fa, .int (nI sz), .ref ap, .ref aa, .int (nI cn), .int sf, .ref ac, .ref at9, .ref ah])), (aa, .inl (D.1 24, 8, .inr (.inr (.inr (.inr sg))))), (hs, .inr (3, [.int (nI pa), .int (nI pb), .int (nI en), .int ve, .long ti, .int (nI cb), .ref dw, .ref sa, .ref cf, .ref ct, .int (nI cl), .int ak, .int lf, .int (nI lv)])), (sa, .inl (D.1 23, 4, .inr (.inl ss)))] s.heap.size = A at hD hE ⊢
  have hA : ∀ q : Nat, s.heap.size ≤ q → A q := fun q h => by rw [← hAe]; exact Or.inr h
  have hS : va_S A s.heap s.heap [] := va_S.rf
  have hl := lv_entry ([.ref h, .int (nI i), .int x, .int y]) (n := 5) (Nat.le_of_ble_eq_true rfl)
  have inX3 : ∀ w ∈ wsX30, w ∈ wsX5_span3 := iX5_span_X33
  have hwd0 := hts (.classLink RX5 58 "java/lang/IndexOutOfBoundsException") X5_span_hwd03
  have hwd1 := hts (.initialized "java/lang/IndexOutOfBoundsException") X5_span_hwd13
  have hwd2 := hts (.fieldLink RX5 161 "SignatureSpans$Signature" "spans" "[J") X5_span_hwd23
  have xw_62 := xX5_span_623
  refine kgenQ (fun Q hQ => ?_)
  rw [lg_entry_eq]
  generalize (lg_sl ([.ref h, .int (nI i), .int x, .int y]) ++ List.replicate (5 - (lg_sl ([.ref h, .int (nI i), .int x, .int y])).length) Slot.unset).toArray = ls at hl ⊢
  have hl : lv_has ls 5 [(0, .ref h), (1, .int (nI i)), (2, .int x), (3, .int y)] := hl
  refine lv_aload_n hx hb dX5_span_0 rfl (lv_at hl 0 rfl) ?_
  refine lv_iload_n hx hb dX5_span_1 rfl (lv_at hl 1 rfl) ?_
  refine kcV (C := RX5) (As := [.int (nI i)]) (rest := []) (ws := [(h, .inr (5, [.ref fa, .int (nI sz), .ref ap, .ref aa, .int (nI cn), .int sf, .ref ac, .ref at9, .ref ah])), (aa, .inl (D.1 24, 8, .inr (.inr (.inr (.inr sg)))))]) (wr := [(hs, .inr (3, [.int (nI pa), .int (nI pb), .int (nI en), .int ve, .long ti, .int (nI cb), .ref dw, .ref sa, .ref cf, .ref ct, .int (nI cl), .int ak, .int lf, .int (nI lv)])), (sa, .inl (D.1 23, 4, .inr (.inl ss)))]) ⟨hx, hb, hml, hown, hts⟩ (c_X5_signatureAt3 l D h fa ap aa ac at9 ah sz cn sf  i hs sg (by omega) (by omega) hsg) (cwV 1 hts gX5_span_X5_signatureAt3 rfl rfl rfl (by decide +kernel) ⟨Nat.le_of_ble_eq_true rfl, Nat.le_of_ble_eq_true rfl⟩) hK hE hP hD hS hA [0, 1] [2, 3] rfl rfl rfl rfl (by decide) 0 5 rfl rfl rfl rfl hl.1 rfl (Nat.le_of_ble_eq_true rfl) dX5_span_2 ⟨Nat.le_of_ble_eq_true rfl, Nat.le_of_ble_eq_true rfl⟩ (fun _ H locs hpo hP hD hS => ?_)
  have hP : va_P D kC [(hs, .inr (3, [.int (nI pa), .int (nI pb), .int (nI en), .int ve, .long ti, .int (nI cb), .ref dw, .ref sa, .ref cf, .ref ct, .int (nI cl), .int ak, .int lf, .int (nI lv)])), (sa, .inl (D.1 23, 4, .inr (.inl ss))), (h, .inr (5, [.ref fa, .int (nI sz), .ref ap, .ref aa, .int (nI cn), .int sf, .ref ac, .ref at9, .ref ah])), (aa, .inl (D.1 24, 8, .inr (.inr (.inr (.inr sg)))))] _ := hP
  have hD : va_D A [(hs, .inr (3, [.int (nI pa), .int (nI pb), .int (nI en), .int ve, .long ti, .int (nI cb), .ref dw, .ref sa, .ref cf, .ref ct, .int (nI cl), .int ak, .int lf, .int (nI lv)])), (sa, .inl (D.1 23, 4, .inr (.inl ss))), (h, .inr (5, [.ref fa, .int (nI sz), .ref ap, .ref aa, .int (nI cn), .int sf, .ref ac, .ref at9, .ref ah])), (aa, .inl (D.1 24, 8, .inr (.inr (.inr (.inr sg)))))] := hD
  refine W.eq (g2 := F0 m 5 ls [.ref hs]) rfl ?_
  refine W.widen (k := 0) (n := 0) (Nat.le_of_ble_eq_true rfl) (Nat.le_of_ble_eq_true rfl) ?_
  refine lv_astore (lv' := [(4, .ref hs), (0, .ref h), (1, .int (nI i)), (2, .int x), (3, .int y)]) hx hb dX5_span_5 hl (by decide) rfl (fun ls hl => ?_)
  refine lv_iload_n hx hb dX5_span_7 rfl (lv_at hl 3 rfl) ?_
  refine lv_if_lt (tgt := 25) hx hb dX5_span_8 (by decide) (fun c_8 => ?_) (fun c_8 => ?_)
  · rw [hQ]
    exact kx_throw (E := "java/lang/IndexOutOfBoundsException") (names := ["java/lang/RuntimeException", "java/lang/Exception"]) (ik := 58) (is := 159) (ic := 62) hx hb hl0 hnoh hown hts hK hE (hP.sub [2, 3, 0, 1] rfl) (hD.sub [2, 3, 0, 1] (by decide) rfl) hS hwd0 hwd1 (hE.2.2.2.1 (159, "no such span or side") (by decide +kernel)) xw_62 (by decide +kernel) (by decide +kernel) (by decide +kernel) (by decide +kernel) (by rw [hml]; exact hl.1) dX5_span_25 dX5_span_28 dX5_span_29 dX5_span_31 dX5_span_34 (Nat.le_of_ble_eq_true rfl) (Nat.le_of_ble_eq_true rfl) ⟨Nat.le_of_ble_eq_true rfl, Nat.le_of_ble_eq_true rfl⟩ ⟨Nat.le_of_ble_eq_true rfl, Nat.le_of_ble_eq_true rfl⟩ hlocks (by rw [show kcSpan x y = 2 from if_neg (fun q => (of_decide_eq_true q.1).1 c_8)]; rfl)
  · refine lv_iload_n hx hb dX5_span_11 rfl (lv_at hl 3 rfl) ?_
    refine lv_iconst (v := nI 1) hx hb dX5_span_12 (by decide) ?_
    refine lv_icmp_gt (tgt := 25) hx hb dX5_span_13 (by decide) (fun c_13 => ?_) (fun c_13 => ?_)
    · rw [hQ]
      exact kx_throw (E := "java/lang/IndexOutOfBoundsException") (names := ["java/lang/RuntimeException", "java/lang/Exception"]) (ik := 58) (is := 159) (ic := 62) hx hb hl0 hnoh hown hts hK hE (hP.sub [2, 3, 0, 1] rfl) (hD.sub [2, 3, 0, 1] (by decide) rfl) hS hwd0 hwd1 (hE.2.2.2.1 (159, "no such span or side") (by decide +kernel)) xw_62 (by decide +kernel) (by decide +kernel) (by decide +kernel) (by decide +kernel) (by rw [hml]; exact hl.1) dX5_span_25 dX5_span_28 dX5_span_29 dX5_span_31 dX5_span_34 (Nat.le_of_ble_eq_true rfl) (Nat.le_of_ble_eq_true rfl) ⟨Nat.le_of_ble_eq_true rfl, Nat.le_of_ble_eq_true rfl⟩ ⟨Nat.le_of_ble_eq_true rfl, Nat.le_of_ble_eq_true rfl⟩ hlocks (by rw [show kcSpan x y = 2 from if_neg (fun q => (of_decide_eq_true q.1).2 c_13)]; rfl)
    · refine lv_iload_n hx hb dX5_span_16 rfl (lv_at hl 4 rfl) ?_
      refine lv_if_lt (tgt := 25) hx hb dX5_span_17 (by decide) (fun c_17 => ?_) (fun c_17 => ?_)
      · rw [hQ]
        exact kx_throw (E := "java/lang/IndexOutOfBoundsException") (names := ["java/lang/RuntimeException", "java/lang/Exception"]) (ik := 58) (is := 159) (ic := 62) hx hb hl0 hnoh hown hts hK hE (hP.sub [2, 3, 0, 1] rfl) (hD.sub [2, 3, 0, 1] (by decide) rfl) hS hwd0 hwd1 (hE.2.2.2.1 (159, "no such span or side") (by decide +kernel)) xw_62 (by decide +kernel) (by decide +kernel) (by decide +kernel) (by decide +kernel) (by rw [hml]; exact hl.1) dX5_span_25 dX5_span_28 dX5_span_29 dX5_span_31 dX5_span_34 (Nat.le_of_ble_eq_true rfl) (Nat.le_of_ble_eq_true rfl) ⟨Nat.le_of_ble_eq_true rfl, Nat.le_of_ble_eq_true rfl⟩ ⟨Nat.le_of_ble_eq_true rfl, Nat.le_of_ble_eq_true rfl⟩ hlocks (by rw [show kcSpan x y = 2 from if_neg (fun q => (of_decide_eq_true q.2).1 c_17)]; rfl)
      · refine lv_iload_n hx hb dX5_span_20 rfl (lv_at hl 4 rfl) ?_
        refine lv_iconst (v := nI 1) hx hb dX5_span_21 (by decide) ?_
        refine lv_icmp_le (tgt := 35) hx hb dX5_span_22 (by decide) (fun c_22 => ?_) (fun c_22 => ?_)
        · obtain ⟨a, ha9, hxa⟩ := kNat_le (x := x) (n := 1) (by omega) c_8 c_13
          obtain ⟨b, hb9, hyb⟩ := kNat_le (x := y) (n := 1) (by omega) c_17 (Int32.not_lt.mpr c_22)
          have hax : kN x = a := by rw [hxa]; exact kN_nI (by omega)
          have hby : kN y = b := by rw [hyb]; exact kN_nI (by omega)
          refine lv_aload hx hb dX5_span_35 (lv_at hl 0 rfl) ?_
          refine va_get (D := D) (ci := 3) (v := .ref sa) (C := RX3) (T := TX3) (N := 14) hx hb hts inX3 hown hK hP 0 rfl rfl 7 (by decide) hwd2 (fun _ h9 => h9) rfl dX5_span_37 ?_
          refine lv_iconst (v := nI 2) hx hb dX5_span_40 (by decide) ?_
          refine lv_iload_n hx hb dX5_span_41 rfl (lv_at hl 3 rfl) ?_
          refine kt_i (v' := nI a) hxa ?_
          refine kn_imul hx hb dX5_span_42 ?_
          refine lv_iload_n hx hb dX5_span_43 rfl (lv_at hl 4 rfl) ?_
          refine kt_i (v' := nI b) hyb ?_
          refine kn_iadd hx hb dX5_span_44 ?_
          refine kn_lald hx hb hK hP 1 3 rfl rfl (i := 2 * a + b) (by omega) (by decide) dX5_span_45 ?_
          rw [hQ]
          refine vx_ret ?_
          refine W.widen (k := 1) (n := 6) (Nat.le_of_ble_eq_true rfl) (Nat.le_of_ble_eq_true rfl) ?_
          have hP9 : va_P D kC [(h, .inr (5, [.ref fa, .int (nI sz), .ref ap, .ref aa, .int (nI cn), .int sf, .ref ac, .ref at9, .ref ah])), (aa, .inl (D.1 24, 8, .inr (.inr (.inr (.inr sg))))), (hs, .inr (3, [.int (nI pa), .int (nI pb), .int (nI en), .int ve, .long ti, .int (nI cb), .ref dw, .ref sa, .ref cf, .ref ct, .int (nI cl), .int ak, .int lf, .int (nI lv)])), (sa, .inl (D.1 23, 4, .inr (.inl ss)))] _ := (hP.sub [2, 3, 0, 1] rfl)
          have hD9 : va_D A [(h, .inr (5, [.ref fa, .int (nI sz), .ref ap, .ref aa, .int (nI cn), .int sf, .ref ac, .ref at9, .ref ah])), (aa, .inl (D.1 24, 8, .inr (.inr (.inr (.inr sg))))), (hs, .inr (3, [.int (nI pa), .int (nI pb), .int (nI en), .int ve, .long ti, .int (nI cb), .ref dw, .ref sa, .ref cf, .ref ct, .int (nI cl), .int ak, .int lf, .int (nI lv)])), (sa, .inl (D.1 23, 4, .inr (.inl ss)))] := (hD.sub [2, 3, 0, 1] (by decide) rfl)
          exact W.lret (v := ss (2 * a + b)) hx hb hr (fun t ht hW => ⟨by rw [show kcSpan x y = 0 from if_pos ⟨decide_eq_true ⟨c_8, c_13⟩, decide_eq_true ⟨c_17, Int32.not_lt.mpr c_22⟩⟩]; rfl, ⟨⟨(), congrArg (fun z => Outcome.returned (some (Value.long z))) (by rw [hax, hby]), trivial, by rw [ht]; exact hP9, va_K.moved hW.alike hK, hD9⟩, hS.F ht⟩⟩) hS.2.2 dX5_span_46
        · rw [hQ]
          exact kx_throw (E := "java/lang/IndexOutOfBoundsException") (names := ["java/lang/RuntimeException", "java/lang/Exception"]) (ik := 58) (is := 159) (ic := 62) hx hb hl0 hnoh hown hts hK hE (hP.sub [2, 3, 0, 1] rfl) (hD.sub [2, 3, 0, 1] (by decide) rfl) hS hwd0 hwd1 (hE.2.2.2.1 (159, "no such span or side") (by decide +kernel)) xw_62 (by decide +kernel) (by decide +kernel) (by decide +kernel) (by decide +kernel) (by rw [hml]; exact hl.1) dX5_span_25 dX5_span_28 dX5_span_29 dX5_span_31 dX5_span_34 (Nat.le_of_ble_eq_true rfl) (Nat.le_of_ble_eq_true rfl) ⟨Nat.le_of_ble_eq_true rfl, Nat.le_of_ble_eq_true rfl⟩ ⟨Nat.le_of_ble_eq_true rfl, Nat.le_of_ble_eq_true rfl⟩ hlocks (by rw [show kcSpan x y = 2 from if_neg (fun q => c_22 (Int32.not_lt.mp (of_decide_eq_true q.2).2))]; rfl)
theorem iX5_tell_X33 : ∀ w ∈ wsX30, w ∈ wsX5_tell3 := by decide +kernel
theorem X5_tell_hwd03 : (.classLink RX5 58 "java/lang/IndexOutOfBoundsException" : Cond) ∈ wsX5_tell3 := by decide +kernel
theorem X5_tell_hwd13 : (.initialized "java/lang/IndexOutOfBoundsException" : Cond) ∈ wsX5_tell3 := by decide +kernel
theorem X5_tell_hwd23 : (.fieldLink RX5 161 "SignatureSpans$Signature" "spans" "[J" : Cond) ∈ wsX5_tell3 := by decide +kernel
theorem xX5_tell_623 : ∀ w ∈ (vx_atS RX5 62 "java/lang/IndexOutOfBoundsException" ["java/lang/RuntimeException", "java/lang/Exception"]).filter goodWord, w ∈ wsX5_tell3 := by decide +kernel
set_option maxHeartbeats 4000000 in
set_option maxRecDepth 100000 in
/-- tell -/
theorem c_X5_tell3 (l : Launch) (hl0 : l.stackTraces = false) (D : va_G) (h fa ap aa ac at9 ah sz cn : Nat) (sf : Int32) (hs dw sa cf ct pa pb en cb cl lv : Nat) (ve ak lf : Int32) (ti : Int64) (i : Nat) (sg : Nat → Option Nat) (hi : i < cn) (hcn : cn ≤ 8) (hsg : sg i = some hs) (ss : Nat → Int64) (x : Int32) (u v : Int64) : kX (S := Unit) l yX5_tell wsX5_tell3 ({ frames := 8, cells := 1, slots := 6, locals := 160 }) 1 6 D [.ref h, .int (nI i), .int x, .long u, .long v] [(h, .inr (5, [.ref fa, .int (nI sz), .ref ap, .ref aa, .int (nI cn), .int sf, .ref ac, .ref at9, .ref ah])), (aa, .inl (D.1 24, 8, .inr (.inr (.inr (.inr sg))))), (hs, .inr (3, [.int (nI pa), .int (nI pb), .int (nI en), .int ve, .long ti, .int (nI cb), .ref dw, .ref sa, .ref cf, .ref ct, .int (nI cl), .int ak, .int lf, .int (nI lv)])), (sa, .inl (D.1 23, 4, .inr (.inl ss)))] (kEx [kNse, kIob] (kcTell x)) (fun _ => none) (fun _ => [(h, .inr (5, [.ref fa, .int (nI sz), .ref ap, .ref aa, .int (nI cn), .int sf, .ref ac, .ref at9, .ref ah])), (aa, .inl (D.1 24, 8, .inr (.inr (.inr (.inr sg))))), (hs, .inr (3, [.int (nI pa), .int (nI pb), .int (nI en), .int ve, .long ti, .int (nI cb), .ref dw, .ref sa, .ref cf, .ref ct, .int (nI cl), .int ak, .int lf, .int (nI lv)])), (sa, .inl (D.1 23, 4, .inr (.inl (vp_updL (vp_updL ss (2 * kN x) u) (2 * kN x + 1) v))))]) (fun _ => True) := by
  intro sz
  refine vx_ofW (cc := cX5_tell) (maxL := 8) (ret := none) (by decide) rfl ?_
  intro p e s m args below meth c s₁ B hml hnoh hv
  obtain ⟨rfl, hsz, hP, hK, hD0, hE⟩ := hv
  have hx := B.exec
  have hb := B.bytes
  have hr := B.returns
  have hts := atoms_spec (ws := wsX5_tell3) B.pre
  have hown : s.vm.findClass RX5 = some m.cls := findClass_of_methodNamed B.named
  have hlocks := B.notSynchronized
  subst hsz
  have hD := hD0.self (sz := s.heap.size)
  generalize hAe : va_A [(h, .inr (5, [.ref fa, .int (nI sz), .ref ap, .ref aa, .int (nI cn), .int sf, .ref ac, .ref at9, .ref ah])), (aa, .inl (D.1 24, 8, .inr (.inr (.inr (.inr sg))))), (hs, .inr (3, [.int (nI pa), .int (nI pb), .int (nI en), .int ve, .long ti, .int (nI cb), .ref dw, .ref sa, .ref cf, .ref ct, .int (nI cl), .int ak, .int lf, .int (nI lv)])), (sa, .inl (D.1 23, 4, .inr (.inl ss)))] s.heap.size = A at hD hE ⊢
  have hA : ∀ q : Nat, s.heap.size ≤ q → A q := fun q h => by rw [← hAe]; exact Or.inr h
  have hS : va_S A s.heap s.heap [] := va_S.rf
  have hl := lv_entry ([.ref h, .int (nI i), .int x, .long u, .long v]) (n := 8) (Nat.le_of_ble_eq_true rfl)
  have inX3 : ∀ w ∈ wsX30, w ∈ wsX5_tell3 := iX5_tell_X33
  have hwd0 := hts (.classLink RX5 58 "java/lang/IndexOutOfBoundsException") X5_tell_hwd03
  have hwd1 := hts (.initialized "java/lang/IndexOutOfBoundsException") X5_tell_hwd13
  have hwd2 := hts (.fieldLink RX5 161 "SignatureSpans$Signature" "spans" "[J") X5_tell_hwd23
  have xw_62 := xX5_tell_623
  refine kgenQ (fun Q hQ => ?_)
  rw [lg_entry_eq]
  generalize (lg_sl ([.ref h, .int (nI i), .int x, .long u, .long v]) ++ List.replicate (8 - (lg_sl ([.ref h, .int (nI i), .int x, .long u, .long v])).length) Slot.unset).toArray = ls at hl ⊢
  have hl : lv_has ls 8 [(0, .ref h), (1, .int (nI i)), (2, .int x), (3, .long u), (5, .long v)] := hl
  refine lv_aload_n hx hb dX5_tell_0 rfl (lv_at hl 0 rfl) ?_
  refine lv_iload_n hx hb dX5_tell_1 rfl (lv_at hl 1 rfl) ?_
  refine kcV (C := RX5) (As := [.int (nI i)]) (rest := []) (ws := [(h, .inr (5, [.ref fa, .int (nI sz), .ref ap, .ref aa, .int (nI cn), .int sf, .ref ac, .ref at9, .ref ah])), (aa, .inl (D.1 24, 8, .inr (.inr (.inr (.inr sg)))))]) (wr := [(hs, .inr (3, [.int (nI pa), .int (nI pb), .int (nI en), .int ve, .long ti, .int (nI cb), .ref dw, .ref sa, .ref cf, .ref ct, .int (nI cl), .int ak, .int lf, .int (nI lv)])), (sa, .inl (D.1 23, 4, .inr (.inl ss)))]) ⟨hx, hb, hml, hown, hts⟩ (c_X5_signatureAt3 l D h fa ap aa ac at9 ah sz cn sf  i hs sg (by omega) (by omega) hsg) (cwV 1 hts gX5_tell_X5_signatureAt3 rfl rfl rfl (by decide +kernel) ⟨Nat.le_of_ble_eq_true rfl, Nat.le_of_ble_eq_true rfl⟩) hK hE hP hD hS hA [0, 1] [2, 3] rfl rfl rfl rfl (by decide) 0 5 rfl rfl rfl rfl hl.1 rfl (Nat.le_of_ble_eq_true rfl) dX5_tell_2 ⟨Nat.le_of_ble_eq_true rfl, Nat.le_of_ble_eq_true rfl⟩ (fun _ H locs hpo hP hD hS => ?_)
  have hP : va_P D kC [(hs, .inr (3, [.int (nI pa), .int (nI pb), .int (nI en), .int ve, .long ti, .int (nI cb), .ref dw, .ref sa, .ref cf, .ref ct, .int (nI cl), .int ak, .int lf, .int (nI lv)])), (sa, .inl (D.1 23, 4, .inr (.inl ss))), (h, .inr (5, [.ref fa, .int (nI sz), .ref ap, .ref aa, .int (nI cn), .int sf, .ref ac, .ref at9, .ref ah])), (aa, .inl (D.1 24, 8, .inr (.inr (.inr (.inr sg)))))] _ := hP
  have hD : va_D A [(hs, .inr (3, [.int (nI pa), .int (nI pb), .int (nI en), .int ve, .long ti, .int (nI cb), .ref dw, .ref sa, .ref cf, .ref ct, .int (nI cl), .int ak, .int lf, .int (nI lv)])), (sa, .inl (D.1 23, 4, .inr (.inl ss))), (h, .inr (5, [.ref fa, .int (nI sz), .ref ap, .ref aa, .int (nI cn), .int sf, .ref ac, .ref at9, .ref ah])), (aa, .inl (D.1 24, 8, .inr (.inr (.inr (.inr sg)))))] := hD
  refine W.eq (g2 := F0 m 5 ls [.ref hs]) rfl ?_
  refine W.widen (k := 0) (n := 0) (Nat.le_of_ble_eq_true rfl) (Nat.le_of_ble_eq_true rfl) ?_
  refine lv_astore (lv' := [(7, .ref hs), (0, .ref h), (1, .int (nI i)), (2, .int x), (3, .long u), (5, .long v)]) hx hb dX5_tell_5 hl (by decide) rfl (fun ls hl => ?_)
  refine lv_iload_n hx hb dX5_tell_7 rfl (lv_at hl 3 rfl) ?_
  refine lv_if_lt (tgt := 16) hx hb dX5_tell_8 (by decide) (fun c_8 => ?_) (fun c_8 => ?_)
  · rw [hQ]
    exact kx_throw (E := "java/lang/IndexOutOfBoundsException") (names := ["java/lang/RuntimeException", "java/lang/Exception"]) (ik := 58) (is := 165) (ic := 62) hx hb hl0 hnoh hown hts hK hE (hP.sub [2, 3, 0, 1] rfl) (hD.sub [2, 3, 0, 1] (by decide) rfl) hS hwd0 hwd1 (hE.2.2.2.1 (165, "no such span") (by decide +kernel)) xw_62 (by decide +kernel) (by decide +kernel) (by decide +kernel) (by decide +kernel) (by rw [hml]; exact hl.1) dX5_tell_16 dX5_tell_19 dX5_tell_20 dX5_tell_22 dX5_tell_25 (Nat.le_of_ble_eq_true rfl) (Nat.le_of_ble_eq_true rfl) ⟨Nat.le_of_ble_eq_true rfl, Nat.le_of_ble_eq_true rfl⟩ ⟨Nat.le_of_ble_eq_true rfl, Nat.le_of_ble_eq_true rfl⟩ hlocks (by rw [show kcTell x = 2 from if_neg (fun q => (of_decide_eq_true q).1 c_8)]; rfl)
  · refine lv_iload_n hx hb dX5_tell_11 rfl (lv_at hl 3 rfl) ?_
    refine lv_iconst (v := nI 1) hx hb dX5_tell_12 (by decide) ?_
    refine lv_icmp_le (tgt := 26) hx hb dX5_tell_13 (by decide) (fun c_13 => ?_) (fun c_13 => ?_)
    · obtain ⟨a, ha9, hxa⟩ := kNat_le (x := x) (n := 1) (by omega) c_8 (Int32.not_lt.mpr c_13)
      have hax : kN x = a := by rw [hxa]; exact kN_nI (by omega)
      refine lv_aload hx hb dX5_tell_26 (lv_at hl 0 rfl) ?_
      refine va_get (D := D) (ci := 3) (v := .ref sa) (C := RX3) (T := TX3) (N := 14) hx hb hts inX3 hown hK hP 0 rfl rfl 7 (by decide) hwd2 (fun _ h9 => h9) rfl dX5_tell_28 ?_
      refine lv_iconst (v := nI 2) hx hb dX5_tell_31 (by decide) ?_
      refine lv_iload_n hx hb dX5_tell_32 rfl (lv_at hl 3 rfl) ?_
      refine kt_i (v' := nI a) hxa ?_
      refine kn_imul hx hb dX5_tell_33 ?_
      refine lv_lload_n hx hb dX5_tell_34 rfl (lv_at hl 4 rfl) ?_
      refine kn_last hx hb hK hP hD hS 1 3 rfl rfl (i := 2 * a) (by omega) (by decide) dX5_tell_35 (fun H locs hP hD hS => ?_)
      have hP : va_P D kC [(hs, .inr (3, [.int (nI pa), .int (nI pb), .int (nI en), .int ve, .long ti, .int (nI cb), .ref dw, .ref sa, .ref cf, .ref ct, .int (nI cl), .int ak, .int lf, .int (nI lv)])), (sa, .inl (D.1 23, 4, .inr (.inl (vp_updL ss (2 * a) u)))), (h, .inr (5, [.ref fa, .int (nI sz), .ref ap, .ref aa, .int (nI cn), .int sf, .ref ac, .ref at9, .ref ah])), (aa, .inl (D.1 24, 8, .inr (.inr (.inr (.inr sg)))))] _ := hP
      have hD : va_D A [(hs, .inr (3, [.int (nI pa), .int (nI pb), .int (nI en), .int ve, .long ti, .int (nI cb), .ref dw, .ref sa, .ref cf, .ref ct, .int (nI cl), .int ak, .int lf, .int (nI lv)])), (sa, .inl (D.1 23, 4, .inr (.inl (vp_updL ss (2 * a) u)))), (h, .inr (5, [.ref fa, .int (nI sz), .ref ap, .ref aa, .int (nI cn), .int sf, .ref ac, .ref at9, .ref ah])), (aa, .inl (D.1 24, 8, .inr (.inr (.inr (.inr sg)))))] := hD
      refine lv_aload hx hb dX5_tell_36 (lv_at hl 0 rfl) ?_
      refine va_get (D := D) (ci := 3) (v := .ref sa) (C := RX3) (T := TX3) (N := 14) hx hb hts inX3 hown hK hP 0 rfl rfl 7 (by decide) hwd2 (fun _ h9 => h9) rfl dX5_tell_38 ?_
      refine lv_iconst (v := nI 2) hx hb dX5_tell_41 (by decide) ?_
      refine lv_iload_n hx hb dX5_tell_42 rfl (lv_at hl 3 rfl) ?_
      refine kt_i (v' := nI a) hxa ?_
      refine kn_imul hx hb dX5_tell_43 ?_
      refine lv_iconst (v := nI 1) hx hb dX5_tell_44 (by decide) ?_
      refine kn_iadd hx hb dX5_tell_45 ?_
      refine lv_lload hx hb dX5_tell_46 (lv_at hl 5 rfl) ?_
      refine kn_last hx hb hK hP hD hS 1 3 rfl rfl (i := 2 * a + 1) (by omega) (by decide) dX5_tell_48 (fun H locs hP hD hS => ?_)
      have hP : va_P D kC [(hs, .inr (3, [.int (nI pa), .int (nI pb), .int (nI en), .int ve, .long ti, .int (nI cb), .ref dw, .ref sa, .ref cf, .ref ct, .int (nI cl), .int ak, .int lf, .int (nI lv)])), (sa, .inl (D.1 23, 4, .inr (.inl (vp_updL (vp_updL ss (2 * a) u) (2 * a + 1) v)))), (h, .inr (5, [.ref fa, .int (nI sz), .ref ap, .ref aa, .int (nI cn), .int sf, .ref ac, .ref at9, .ref ah])), (aa, .inl (D.1 24, 8, .inr (.inr (.inr (.inr sg)))))] _ := hP
      have hD : va_D A [(hs, .inr (3, [.int (nI pa), .int (nI pb), .int (nI en), .int ve, .long ti, .int (nI cb), .ref dw, .ref sa, .ref cf, .ref ct, .int (nI cl), .int ak, .int lf, .int (nI lv)])), (sa, .inl (D.1 23, 4, .inr (.inl (vp_updL (vp_updL ss (2 * a) u) (2 * a + 1) v)))), (h, .inr (5, [.ref fa, .int (nI sz), .ref ap, .ref aa, .int (nI cn), .int sf, .ref ac, .ref at9, .ref ah])), (aa, .inl (D.1 24, 8, .inr (.inr (.inr (.inr sg)))))] := hD
      rw [hQ]
      refine vx_ret ?_
      refine W.widen (k := 1) (n := 6) (Nat.le_of_ble_eq_true rfl) (Nat.le_of_ble_eq_true rfl) ?_
      have hP9 : va_P D kC [(h, .inr (5, [.ref fa, .int (nI sz), .ref ap, .ref aa, .int (nI cn), .int sf, .ref ac, .ref at9, .ref ah])), (aa, .inl (D.1 24, 8, .inr (.inr (.inr (.inr sg))))), (hs, .inr (3, [.int (nI pa), .int (nI pb), .int (nI en), .int ve, .long ti, .int (nI cb), .ref dw, .ref sa, .ref cf, .ref ct, .int (nI cl), .int ak, .int lf, .int (nI lv)])), (sa, .inl (D.1 23, 4, .inr (.inl (vp_updL (vp_updL ss (2 * kN x) u) (2 * kN x + 1) v))))] H := by rw [hax]; exact (hP.sub [2, 3, 0, 1] rfl)
      have hD9 : va_D A [(h, .inr (5, [.ref fa, .int (nI sz), .ref ap, .ref aa, .int (nI cn), .int sf, .ref ac, .ref at9, .ref ah])), (aa, .inl (D.1 24, 8, .inr (.inr (.inr (.inr sg))))), (hs, .inr (3, [.int (nI pa), .int (nI pb), .int (nI en), .int ve, .long ti, .int (nI cb), .ref dw, .ref sa, .ref cf, .ref ct, .int (nI cl), .int ak, .int lf, .int (nI lv)])), (sa, .inl (D.1 23, 4, .inr (.inl (vp_updL (vp_updL ss (2 * kN x) u) (2 * kN x + 1) v))))] := by rw [hax]; exact (hD.sub [2, 3, 0, 1] (by decide) rfl)
      exact W.vret hx hb hr (fun t ht hW => ⟨by rw [show kcTell x = 0 from if_pos (decide_eq_true ⟨c_8, Int32.not_lt.mpr c_13⟩)]; rfl, ⟨⟨(), rfl, trivial, by rw [ht]; exact hP9, va_K.moved hW.alike hK, hD9⟩, hS.F ht⟩⟩) hS.2.2 dX5_tell_49
    · rw [hQ]
      exact kx_throw (E := "java/lang/IndexOutOfBoundsException") (names := ["java/lang/RuntimeException", "java/lang/Exception"]) (ik := 58) (is := 165) (ic := 62) hx hb hl0 hnoh hown hts hK hE (hP.sub [2, 3, 0, 1] rfl) (hD.sub [2, 3, 0, 1] (by decide) rfl) hS hwd0 hwd1 (hE.2.2.2.1 (165, "no such span") (by decide +kernel)) xw_62 (by decide +kernel) (by decide +kernel) (by decide +kernel) (by decide +kernel) (by rw [hml]; exact hl.1) dX5_tell_16 dX5_tell_19 dX5_tell_20 dX5_tell_22 dX5_tell_25 (Nat.le_of_ble_eq_true rfl) (Nat.le_of_ble_eq_true rfl) ⟨Nat.le_of_ble_eq_true rfl, Nat.le_of_ble_eq_true rfl⟩ ⟨Nat.le_of_ble_eq_true rfl, Nat.le_of_ble_eq_true rfl⟩ hlocks (by rw [show kcTell x = 2 from if_neg (fun q => c_13 (Int32.not_lt.mp (of_decide_eq_true q).2))]; rfl)
theorem iX5_chain_X33 : ∀ w ∈ wsX30, w ∈ wsX5_chain3 := by decide +kernel
theorem X5_chain_hwd03 : (.fieldLink RX5 169 "SignatureSpans$Signature" "chainLength" "I" : Cond) ∈ wsX5_chain3 := by decide +kernel
theorem X5_chain_hwd13 : (.classLink RX5 51 "java/lang/UnsupportedOperationException" : Cond) ∈ wsX5_chain3 := by decide +kernel
theorem X5_chain_hwd23 : (.initialized "java/lang/UnsupportedOperationException" : Cond) ∈ wsX5_chain3 := by decide +kernel
theorem X5_chain_hwd33 : (.classLink RX5 63 "java/lang/IllegalArgumentException" : Cond) ∈ wsX5_chain3 := by decide +kernel
theorem X5_chain_hwd43 : (.initialized "java/lang/IllegalArgumentException" : Cond) ∈ wsX5_chain3 := by decide +kernel
theorem xX5_chain_553 : ∀ w ∈ (vx_atS RX5 55 "java/lang/UnsupportedOperationException" ["java/lang/RuntimeException", "java/lang/Exception"]).filter goodWord, w ∈ wsX5_chain3 := by decide +kernel
theorem xX5_chain_673 : ∀ w ∈ (vx_atS RX5 67 "java/lang/IllegalArgumentException" ["java/lang/RuntimeException", "java/lang/Exception"]).filter goodWord, w ∈ wsX5_chain3 := by decide +kernel
set_option maxHeartbeats 4000000 in
set_option maxRecDepth 100000 in
/-- chain -/
theorem c_X5_chain3 (l : Launch) (hl0 : l.stackTraces = false) (D : va_G) (h fa ap aa ac at9 ah sz cn : Nat) (sf : Int32) (hs dw sa cf ct pa pb en cb cl lv : Nat) (ve ak lf : Int32) (ti : Int64) (i : Nat) (sg : Nat → Option Nat) (hi : i < cn) (hcn : cn ≤ 8) (hsg : sg i = some hs) (f9 t9 : Nat → Int64) (u v : Int64) (hcl : cl ≤ 4) : kX (S := Unit) l yX5_chain wsX5_chain3 ({ frames := 8, cells := 1, slots := 6, locals := 160 }) 1 6 D [.ref h, .int (nI i), .long u, .long v] [(h, .inr (5, [.ref fa, .int (nI sz), .ref ap, .ref aa, .int (nI cn), .int sf, .ref ac, .ref at9, .ref ah])), (aa, .inl (D.1 24, 8, .inr (.inr (.inr (.inr sg))))), (hs, .inr (3, [.int (nI pa), .int (nI pb), .int (nI en), .int ve, .long ti, .int (nI cb), .ref dw, .ref sa, .ref cf, .ref ct, .int (nI cl), .int ak, .int lf, .int (nI lv)])), (cf, .inl (D.1 23, 4, .inr (.inl f9))), (ct, .inl (D.1 23, 4, .inr (.inl t9)))] (kEx [kNse, kIae, kUoe] (kcChain u v cl)) (fun _ => some (.int (nI (cl + 1)))) (fun _ => [(h, .inr (5, [.ref fa, .int (nI sz), .ref ap, .ref aa, .int (nI cn), .int sf, .ref ac, .ref at9, .ref ah])), (aa, .inl (D.1 24, 8, .inr (.inr (.inr (.inr sg))))), (hs, .inr (3, [.int (nI pa), .int (nI pb), .int (nI en), .int ve, .long ti, .int (nI cb), .ref dw, .ref sa, .ref cf, .ref ct, .int (nI (cl + 1)), .int ak, .int lf, .int (nI lv)])), (cf, .inl (D.1 23, 4, .inr (.inl (vp_updL f9 cl u)))), (ct, .inl (D.1 23, 4, .inr (.inl (vp_updL t9 cl v))))]) (fun _ => True) := by
  intro sz
  refine vx_ofW (cc := cX5_chain) (maxL := 7) (ret := (some .int)) (by decide) rfl ?_
  intro p e s m args below meth c s₁ B hml hnoh hv
  obtain ⟨rfl, hsz, hP, hK, hD0, hE⟩ := hv
  have hx := B.exec
  have hb := B.bytes
  have hr := B.returns
  have hts := atoms_spec (ws := wsX5_chain3) B.pre
  have hown : s.vm.findClass RX5 = some m.cls := findClass_of_methodNamed B.named
  have hlocks := B.notSynchronized
  subst hsz
  have hD := hD0.self (sz := s.heap.size)
  generalize hAe : va_A [(h, .inr (5, [.ref fa, .int (nI sz), .ref ap, .ref aa, .int (nI cn), .int sf, .ref ac, .ref at9, .ref ah])), (aa, .inl (D.1 24, 8, .inr (.inr (.inr (.inr sg))))), (hs, .inr (3, [.int (nI pa), .int (nI pb), .int (nI en), .int ve, .long ti, .int (nI cb), .ref dw, .ref sa, .ref cf, .ref ct, .int (nI cl), .int ak, .int lf, .int (nI lv)])), (cf, .inl (D.1 23, 4, .inr (.inl f9))), (ct, .inl (D.1 23, 4, .inr (.inl t9)))] s.heap.size = A at hD hE ⊢
  have hA : ∀ q : Nat, s.heap.size ≤ q → A q := fun q h => by rw [← hAe]; exact Or.inr h
  have hS : va_S A s.heap s.heap [] := va_S.rf
  have hl := lv_entry ([.ref h, .int (nI i), .long u, .long v]) (n := 7) (Nat.le_of_ble_eq_true rfl)
  have inX3 : ∀ w ∈ wsX30, w ∈ wsX5_chain3 := iX5_chain_X33
  have hwd0 := hts (.fieldLink RX5 169 "SignatureSpans$Signature" "chainLength" "I") X5_chain_hwd03
  have hwd1 := hts (.classLink RX5 51 "java/lang/UnsupportedOperationException") X5_chain_hwd13
  have hwd2 := hts (.initialized "java/lang/UnsupportedOperationException") X5_chain_hwd23
  have hwd3 := hts (.classLink RX5 63 "java/lang/IllegalArgumentException") X5_chain_hwd33
  have hwd4 := hts (.initialized "java/lang/IllegalArgumentException") X5_chain_hwd43
  have xw_55 := xX5_chain_553
  have xw_67 := xX5_chain_673
  refine kgenQ (fun Q hQ => ?_)
  rw [lg_entry_eq]
  generalize (lg_sl ([.ref h, .int (nI i), .long u, .long v]) ++ List.replicate (7 - (lg_sl ([.ref h, .int (nI i), .long u, .long v])).length) Slot.unset).toArray = ls at hl ⊢
  have hl : lv_has ls 7 [(0, .ref h), (1, .int (nI i)), (2, .long u), (4, .long v)] := hl
  refine lv_aload_n hx hb dX5_chain_0 rfl (lv_at hl 0 rfl) ?_
  refine lv_iload_n hx hb dX5_chain_1 rfl (lv_at hl 1 rfl) ?_
  refine kcV (C := RX5) (As := [.int (nI i)]) (rest := []) (ws := [(h, .inr (5, [.ref fa, .int (nI sz), .ref ap, .ref aa, .int (nI cn), .int sf, .ref ac, .ref at9, .ref ah])), (aa, .inl (D.1 24, 8, .inr (.inr (.inr (.inr sg)))))]) (wr := [(hs, .inr (3, [.int (nI pa), .int (nI pb), .int (nI en), .int ve, .long ti, .int (nI cb), .ref dw, .ref sa, .ref cf, .ref ct, .int (nI cl), .int ak, .int lf, .int (nI lv)])), (cf, .inl (D.1 23, 4, .inr (.inl f9))), (ct, .inl (D.1 23, 4, .inr (.inl t9)))]) ⟨hx, hb, hml, hown, hts⟩ (c_X5_signatureAt3 l D h fa ap aa ac at9 ah sz cn sf  i hs sg (by omega) (by omega) hsg) (cwV 1 hts gX5_chain_X5_signatureAt3 rfl rfl rfl (by decide +kernel) ⟨Nat.le_of_ble_eq_true rfl, Nat.le_of_ble_eq_true rfl⟩) hK hE hP hD hS hA [0, 1] [2, 3, 4] rfl rfl rfl rfl (by decide) 0 5 rfl rfl rfl rfl hl.1 rfl (Nat.le_of_ble_eq_true rfl) dX5_chain_2 ⟨Nat.le_of_ble_eq_true rfl, Nat.le_of_ble_eq_true rfl⟩ (fun _ H locs hpo hP hD hS => ?_)
  have hP : va_P D kC [(hs, .inr (3, [.int (nI pa), .int (nI pb), .int (nI en), .int ve, .long ti, .int (nI cb), .ref dw, .ref sa, .ref cf, .ref ct, .int (nI cl), .int ak, .int lf, .int (nI lv)])), (cf, .inl (D.1 23, 4, .inr (.inl f9))), (ct, .inl (D.1 23, 4, .inr (.inl t9))), (h, .inr (5, [.ref fa, .int (nI sz), .ref ap, .ref aa, .int (nI cn), .int sf, .ref ac, .ref at9, .ref ah])), (aa, .inl (D.1 24, 8, .inr (.inr (.inr (.inr sg)))))] _ := hP
  have hD : va_D A [(hs, .inr (3, [.int (nI pa), .int (nI pb), .int (nI en), .int ve, .long ti, .int (nI cb), .ref dw, .ref sa, .ref cf, .ref ct, .int (nI cl), .int ak, .int lf, .int (nI lv)])), (cf, .inl (D.1 23, 4, .inr (.inl f9))), (ct, .inl (D.1 23, 4, .inr (.inl t9))), (h, .inr (5, [.ref fa, .int (nI sz), .ref ap, .ref aa, .int (nI cn), .int sf, .ref ac, .ref at9, .ref ah])), (aa, .inl (D.1 24, 8, .inr (.inr (.inr (.inr sg)))))] := hD
  refine W.eq (g2 := F0 m 5 ls [.ref hs]) rfl ?_
  refine W.widen (k := 0) (n := 0) (Nat.le_of_ble_eq_true rfl) (Nat.le_of_ble_eq_true rfl) ?_
  refine lv_astore (lv' := [(6, .ref hs), (0, .ref h), (1, .int (nI i)), (2, .long u), (4, .long v)]) hx hb dX5_chain_5 hl (by decide) rfl (fun ls hl => ?_)
  refine lv_lload hx hb dX5_chain_7 (lv_at hl 4 rfl) ?_
  refine lv_lload_n hx hb dX5_chain_9 rfl (lv_at hl 3 rfl) ?_
  refine W.lcmp hx hb dX5_chain_10 ?_
  refine lv_if_ge (tgt := 24) hx hb dX5_chain_11 (by decide) (fun c_11 => ?_) (fun c_11 => ?_)
  · have c_11 := (lg_cmp_ge _ _).mp c_11
    refine lv_aload hx hb dX5_chain_24 (lv_at hl 0 rfl) ?_
    refine va_get (D := D) (ci := 3) (v := .int (nI cl)) (C := RX3) (T := TX3) (N := 14) hx hb hts inX3 hown hK hP 0 rfl rfl 10 (by decide) hwd0 (fun _ h9 => h9) rfl dX5_chain_26 ?_
    refine lv_iconst (v := nI 4) hx hb dX5_chain_29 (by decide) ?_
    refine kn_icmp_lt (tgt := 43) hx hb (by omega) (by omega) dX5_chain_30 (by decide) (fun c_30 => ?_) (fun c_30 => ?_)
    · refine lv_aload hx hb dX5_chain_43 (lv_at hl 0 rfl) ?_
      refine lv_lload_n hx hb dX5_chain_45 rfl (lv_at hl 3 rfl) ?_
      refine lv_lload hx hb dX5_chain_46 (lv_at hl 4 rfl) ?_
      refine kcV (C := RX3) (As := [.long u, .long v]) (rest := []) (ws := [(hs, .inr (3, [.int (nI pa), .int (nI pb), .int (nI en), .int ve, .long ti, .int (nI cb), .ref dw, .ref sa, .ref cf, .ref ct, .int (nI cl), .int ak, .int lf, .int (nI lv)])), (cf, .inl (D.1 23, 4, .inr (.inl f9))), (ct, .inl (D.1 23, 4, .inr (.inl t9)))]) (wr := [(h, .inr (5, [.ref fa, .int (nI sz), .ref ap, .ref aa, .int (nI cn), .int sf, .ref ac, .ref at9, .ref ah])), (aa, .inl (D.1 24, 8, .inr (.inr (.inr (.inr sg)))))]) ⟨hx, hb, hml, hown, hts⟩ (c_X3_putChainRow l D hs dw sa cf ct pa pb en cb cl lv ve ak lf ti u v f9 t9 (by omega)) (cwV 2 hts gX5_chain_X3_putChainRow3 rfl rfl rfl (by decide +kernel) ⟨Nat.le_of_ble_eq_true rfl, Nat.le_of_ble_eq_true rfl⟩) hK hE hP hD hS hA [0, 1, 2] [3, 4] rfl rfl rfl rfl (by decide) 0 3 rfl rfl rfl rfl hl.1 rfl (Nat.le_of_ble_eq_true rfl) dX5_chain_48 ⟨Nat.le_of_ble_eq_true rfl, Nat.le_of_ble_eq_true rfl⟩ (fun _ H locs hpo hP hD hS => ?_)
      have hP : va_P D kC [(h, .inr (5, [.ref fa, .int (nI sz), .ref ap, .ref aa, .int (nI cn), .int sf, .ref ac, .ref at9, .ref ah])), (aa, .inl (D.1 24, 8, .inr (.inr (.inr (.inr sg))))), (hs, .inr (3, [.int (nI pa), .int (nI pb), .int (nI en), .int ve, .long ti, .int (nI cb), .ref dw, .ref sa, .ref cf, .ref ct, .int (nI (cl + 1)), .int ak, .int lf, .int (nI lv)])), (cf, .inl (D.1 23, 4, .inr (.inl (vp_updL f9 cl u)))), (ct, .inl (D.1 23, 4, .inr (.inl (vp_updL t9 cl v))))] _ := hP
      have hD : va_D A [(h, .inr (5, [.ref fa, .int (nI sz), .ref ap, .ref aa, .int (nI cn), .int sf, .ref ac, .ref at9, .ref ah])), (aa, .inl (D.1 24, 8, .inr (.inr (.inr (.inr sg))))), (hs, .inr (3, [.int (nI pa), .int (nI pb), .int (nI en), .int ve, .long ti, .int (nI cb), .ref dw, .ref sa, .ref cf, .ref ct, .int (nI (cl + 1)), .int ak, .int lf, .int (nI lv)])), (cf, .inl (D.1 23, 4, .inr (.inl (vp_updL f9 cl u)))), (ct, .inl (D.1 23, 4, .inr (.inl (vp_updL t9 cl v))))] := hD
      refine W.eq (g2 := F0 m 51 ls [.int (nI (cl + 1))]) rfl ?_
      refine W.widen (k := 0) (n := 0) (Nat.le_of_ble_eq_true rfl) (Nat.le_of_ble_eq_true rfl) ?_
      rw [hQ]
      refine vx_ret ?_
      refine W.widen (k := 1) (n := 6) (Nat.le_of_ble_eq_true rfl) (Nat.le_of_ble_eq_true rfl) ?_
      have hP9 : va_P D kC [(h, .inr (5, [.ref fa, .int (nI sz), .ref ap, .ref aa, .int (nI cn), .int sf, .ref ac, .ref at9, .ref ah])), (aa, .inl (D.1 24, 8, .inr (.inr (.inr (.inr sg))))), (hs, .inr (3, [.int (nI pa), .int (nI pb), .int (nI en), .int ve, .long ti, .int (nI cb), .ref dw, .ref sa, .ref cf, .ref ct, .int (nI (cl + 1)), .int ak, .int lf, .int (nI lv)])), (cf, .inl (D.1 23, 4, .inr (.inl (vp_updL f9 cl u)))), (ct, .inl (D.1 23, 4, .inr (.inl (vp_updL t9 cl v))))] _ := hP
      have hD9 : va_D A [(h, .inr (5, [.ref fa, .int (nI sz), .ref ap, .ref aa, .int (nI cn), .int sf, .ref ac, .ref at9, .ref ah])), (aa, .inl (D.1 24, 8, .inr (.inr (.inr (.inr sg))))), (hs, .inr (3, [.int (nI pa), .int (nI pb), .int (nI en), .int ve, .long ti, .int (nI cb), .ref dw, .ref sa, .ref cf, .ref ct, .int (nI (cl + 1)), .int ak, .int lf, .int (nI lv)])), (cf, .inl (D.1 23, 4, .inr (.inl (vp_updL f9 cl u)))), (ct, .inl (D.1 23, 4, .inr (.inl (vp_updL t9 cl v))))] := hD
      exact W.iret (v := nI (cl + 1)) hx hb hr (fun t ht hW => ⟨by rw [show kcChain u v cl = 0 from (if_neg (Int64.not_lt.mpr c_11)).trans (if_neg (by omega))]; rfl, ⟨⟨(), rfl, trivial, by rw [ht]; exact hP9, va_K.moved hW.alike hK, hD9⟩, hS.F ht⟩⟩) hS.2.2 dX5_chain_51
    · rw [hQ]
      exact kx_throw (E := "java/lang/UnsupportedOperationException") (names := ["java/lang/RuntimeException", "java/lang/Exception"]) (ik := 51) (is := 172) (ic := 55) hx hb hl0 hnoh hown hts hK hE (hP.sub [3, 4, 0, 1, 2] rfl) (hD.sub [3, 4, 0, 1, 2] (by decide) rfl) hS hwd1 hwd2 (hE.2.2.2.1 (172, "no room in the chain") (by decide +kernel)) xw_55 (by decide +kernel) (by decide +kernel) (by decide +kernel) (by decide +kernel) (by rw [hml]; exact hl.1) dX5_chain_33 dX5_chain_36 dX5_chain_37 dX5_chain_39 dX5_chain_42 (Nat.le_of_ble_eq_true rfl) (Nat.le_of_ble_eq_true rfl) ⟨Nat.le_of_ble_eq_true rfl, Nat.le_of_ble_eq_true rfl⟩ ⟨Nat.le_of_ble_eq_true rfl, Nat.le_of_ble_eq_true rfl⟩ hlocks (by rw [show kcChain u v cl = 3 from (if_neg (Int64.not_lt.mpr c_11)).trans (if_pos (by omega))]; rfl)
  · have c_11 := fun h9 => c_11 ((lg_cmp_ge _ _).mpr h9)
    rw [hQ]
    exact kx_throw (E := "java/lang/IllegalArgumentException") (names := ["java/lang/RuntimeException", "java/lang/Exception"]) (ik := 63) (is := 167) (ic := 67) hx hb hl0 hnoh hown hts hK hE (hP.sub [3, 4, 0, 1, 2] rfl) (hD.sub [3, 4, 0, 1, 2] (by decide) rfl) hS hwd3 hwd4 (hE.2.2.2.1 (167, "the row ends before it begins") (by decide +kernel)) xw_67 (by decide +kernel) (by decide +kernel) (by decide +kernel) (by decide +kernel) (by rw [hml]; exact hl.1) dX5_chain_14 dX5_chain_17 dX5_chain_18 dX5_chain_20 dX5_chain_23 (Nat.le_of_ble_eq_true rfl) (Nat.le_of_ble_eq_true rfl) ⟨Nat.le_of_ble_eq_true rfl, Nat.le_of_ble_eq_true rfl⟩ ⟨Nat.le_of_ble_eq_true rfl, Nat.le_of_ble_eq_true rfl⟩ hlocks (by rw [show kcChain u v cl = 2 from if_pos (Int64.not_le.mp c_11)]; rfl)
theorem iX5_allow_X33 : ∀ w ∈ wsX30, w ∈ wsX5_allow3 := by decide +kernel
theorem X5_allow_hwd03 : (.fieldLink RX5 182 "SignatureSpans$Signature" "allowedKinds" "I" : Cond) ∈ wsX5_allow3 := by decide +kernel
set_option maxHeartbeats 4000000 in
set_option maxRecDepth 100000 in
/-- allow -/
theorem c_X5_allow3 (l : Launch) (D : va_G) (h fa ap aa ac at9 ah sz cn : Nat) (sf : Int32) (hs dw sa cf ct pa pb en cb cl lv : Nat) (ve ak lf : Int32) (ti : Int64) (i : Nat) (sg : Nat → Option Nat) (hi : i < cn) (hcn : cn ≤ 8) (hsg : sg i = some hs) (u : Int32) : kM (S := Unit) l yX5_allow wsX5_allow3 ({ frames := 8, cells := 0, slots := 0, locals := 160 }) 0 0 D [.ref h, .int (nI i), .int u] [(h, .inr (5, [.ref fa, .int (nI sz), .ref ap, .ref aa, .int (nI cn), .int sf, .ref ac, .ref at9, .ref ah])), (aa, .inl (D.1 24, 8, .inr (.inr (.inr (.inr sg))))), (hs, .inr (3, [.int (nI pa), .int (nI pb), .int (nI en), .int ve, .long ti, .int (nI cb), .ref dw, .ref sa, .ref cf, .ref ct, .int (nI cl), .int ak, .int lf, .int (nI lv)]))] (fun _ => some (.int ak)) (fun _ => [(h, .inr (5, [.ref fa, .int (nI sz), .ref ap, .ref aa, .int (nI cn), .int sf, .ref ac, .ref at9, .ref ah])), (aa, .inl (D.1 24, 8, .inr (.inr (.inr (.inr sg))))), (hs, .inr (3, [.int (nI pa), .int (nI pb), .int (nI en), .int ve, .long ti, .int (nI cb), .ref dw, .ref sa, .ref cf, .ref ct, .int (nI cl), .int (u &&& nI 15), .int lf, .int (nI lv)]))]) (fun _ => True) := by
  intro sz
  refine Met.ofW (cc := cX5_allow) (maxL := 5) (ret := (some .int)) (by decide) rfl ?_
  intro p e s m args below meth c s₁ B hml hv
  obtain ⟨rfl, hsz, hP, hK, hD0, hE⟩ := hv
  have hx := B.exec
  have hb := B.bytes
  have hr := B.returns
  have hts := atoms_spec (ws := wsX5_allow3) B.pre
  have hown : s.vm.findClass RX5 = some m.cls := findClass_of_methodNamed B.named
  have hlocks := B.notSynchronized
  subst hsz
  have hD := hD0.self (sz := s.heap.size)
  generalize hAe : va_A [(h, .inr (5, [.ref fa, .int (nI sz), .ref ap, .ref aa, .int (nI cn), .int sf, .ref ac, .ref at9, .ref ah])), (aa, .inl (D.1 24, 8, .inr (.inr (.inr (.inr sg))))), (hs, .inr (3, [.int (nI pa), .int (nI pb), .int (nI en), .int ve, .long ti, .int (nI cb), .ref dw, .ref sa, .ref cf, .ref ct, .int (nI cl), .int ak, .int lf, .int (nI lv)]))] s.heap.size = A at hD hE ⊢
  have hA : ∀ q : Nat, s.heap.size ≤ q → A q := fun q h => by rw [← hAe]; exact Or.inr h
  have hS : va_S A s.heap s.heap [] := va_S.rf
  have hl := lv_entry ([.ref h, .int (nI i), .int u]) (n := 5) (Nat.le_of_ble_eq_true rfl)
  have inX3 : ∀ w ∈ wsX30, w ∈ wsX5_allow3 := iX5_allow_X33
  have hwd0 := hts (.fieldLink RX5 182 "SignatureSpans$Signature" "allowedKinds" "I") X5_allow_hwd03
  refine kgenQ (fun Q hQ => ?_)
  rw [lg_entry_eq]
  generalize (lg_sl ([.ref h, .int (nI i), .int u]) ++ List.replicate (5 - (lg_sl ([.ref h, .int (nI i), .int u])).length) Slot.unset).toArray = ls at hl ⊢
  have hl : lv_has ls 5 [(0, .ref h), (1, .int (nI i)), (2, .int u)] := hl
  refine lv_aload_n hx hb dX5_allow_0 rfl (lv_at hl 0 rfl) ?_
  refine lv_iload_n hx hb dX5_allow_1 rfl (lv_at hl 1 rfl) ?_
  refine kcV (C := RX5) (As := [.int (nI i)]) (rest := []) (ws := [(h, .inr (5, [.ref fa, .int (nI sz), .ref ap, .ref aa, .int (nI cn), .int sf, .ref ac, .ref at9, .ref ah])), (aa, .inl (D.1 24, 8, .inr (.inr (.inr (.inr sg)))))]) (wr := [(hs, .inr (3, [.int (nI pa), .int (nI pb), .int (nI en), .int ve, .long ti, .int (nI cb), .ref dw, .ref sa, .ref cf, .ref ct, .int (nI cl), .int ak, .int lf, .int (nI lv)]))]) ⟨hx, hb, hml, hown, hts⟩ (c_X5_signatureAt3 l D h fa ap aa ac at9 ah sz cn sf  i hs sg (by omega) (by omega) hsg) (cwV 1 hts gX5_allow_X5_signatureAt3 rfl rfl rfl (by decide +kernel) ⟨Nat.le_of_ble_eq_true rfl, Nat.le_of_ble_eq_true rfl⟩) hK hE hP hD hS hA [0, 1] [2] rfl rfl rfl rfl (by decide) 0 5 rfl rfl rfl rfl hl.1 rfl (Nat.le_of_ble_eq_true rfl) dX5_allow_2 ⟨Nat.le_of_ble_eq_true rfl, Nat.le_of_ble_eq_true rfl⟩ (fun _ H locs hpo hP hD hS => ?_)
  have hP : va_P D kC [(hs, .inr (3, [.int (nI pa), .int (nI pb), .int (nI en), .int ve, .long ti, .int (nI cb), .ref dw, .ref sa, .ref cf, .ref ct, .int (nI cl), .int ak, .int lf, .int (nI lv)])), (h, .inr (5, [.ref fa, .int (nI sz), .ref ap, .ref aa, .int (nI cn), .int sf, .ref ac, .ref at9, .ref ah])), (aa, .inl (D.1 24, 8, .inr (.inr (.inr (.inr sg)))))] _ := hP
  have hD : va_D A [(hs, .inr (3, [.int (nI pa), .int (nI pb), .int (nI en), .int ve, .long ti, .int (nI cb), .ref dw, .ref sa, .ref cf, .ref ct, .int (nI cl), .int ak, .int lf, .int (nI lv)])), (h, .inr (5, [.ref fa, .int (nI sz), .ref ap, .ref aa, .int (nI cn), .int sf, .ref ac, .ref at9, .ref ah])), (aa, .inl (D.1 24, 8, .inr (.inr (.inr (.inr sg)))))] := hD
  refine W.eq (g2 := F0 m 5 ls [.ref hs]) rfl ?_
  refine W.widen (k := 0) (n := 0) (Nat.le_of_ble_eq_true rfl) (Nat.le_of_ble_eq_true rfl) ?_
  refine lv_astore_n (lv' := [(3, .ref hs), (0, .ref h), (1, .int (nI i)), (2, .int u)]) hx hb dX5_allow_5 rfl hl (by decide) rfl (fun ls hl => ?_)
  refine lv_aload_n hx hb dX5_allow_6 rfl (lv_at hl 0 rfl) ?_
  refine va_get (D := D) (ci := 3) (v := .int ak) (C := RX3) (T := TX3) (N := 14) hx hb hts inX3 hown hK hP 0 rfl rfl 11 (by decide) hwd0 (fun _ h9 => h9) rfl dX5_allow_7 ?_
  refine lv_istore (lv' := [(4, .int ak), (3, .ref hs), (0, .ref h), (1, .int (nI i)), (2, .int u)]) hx hb dX5_allow_10 hl (by decide) rfl (fun ls hl => ?_)
  refine lv_aload_n hx hb dX5_allow_12 rfl (lv_at hl 1 rfl) ?_
  refine lv_iload_n hx hb dX5_allow_13 rfl (lv_at hl 4 rfl) ?_
  refine lv_bipush (v := nI 15) hx hb dX5_allow_14 (by decide) ?_
  refine lv_iand hx hb dX5_allow_16 ?_
  refine va_put (D := D) (ci := 3) (v := .int (u &&& (nI 15))) (ty := .int) (C := RX3) (T := TX3) (N := 14) hx hb hts inX3 tyX3 tyX3_ok nmX3 hown hK hP hD hS 0 rfl rfl 11 (by decide) hwd0 (fun _ h9 => h9) rfl (by decide +kernel) rfl rfl (Nat.le_of_ble_eq_true rfl) dX5_allow_17 (fun H locs hP hD hS => ?_)
  have hP : va_P D kC [(hs, .inr (3, [.int (nI pa), .int (nI pb), .int (nI en), .int ve, .long ti, .int (nI cb), .ref dw, .ref sa, .ref cf, .ref ct, .int (nI cl), .int (u &&& (nI 15)), .int lf, .int (nI lv)])), (h, .inr (5, [.ref fa, .int (nI sz), .ref ap, .ref aa, .int (nI cn), .int sf, .ref ac, .ref at9, .ref ah])), (aa, .inl (D.1 24, 8, .inr (.inr (.inr (.inr sg)))))] _ := hP
  have hD : va_D A [(hs, .inr (3, [.int (nI pa), .int (nI pb), .int (nI en), .int ve, .long ti, .int (nI cb), .ref dw, .ref sa, .ref cf, .ref ct, .int (nI cl), .int (u &&& (nI 15)), .int lf, .int (nI lv)])), (h, .inr (5, [.ref fa, .int (nI sz), .ref ap, .ref aa, .int (nI cn), .int sf, .ref ac, .ref at9, .ref ah])), (aa, .inl (D.1 24, 8, .inr (.inr (.inr (.inr sg)))))] := hD
  refine lv_iload hx hb dX5_allow_20 (lv_at hl 0 rfl) ?_
  rw [hQ]
  have hP9 : va_P D kC [(h, .inr (5, [.ref fa, .int (nI sz), .ref ap, .ref aa, .int (nI cn), .int sf, .ref ac, .ref at9, .ref ah])), (aa, .inl (D.1 24, 8, .inr (.inr (.inr (.inr sg))))), (hs, .inr (3, [.int (nI pa), .int (nI pb), .int (nI en), .int ve, .long ti, .int (nI cb), .ref dw, .ref sa, .ref cf, .ref ct, .int (nI cl), .int (u &&& nI 15), .int lf, .int (nI lv)]))] _ := (hP.sub [1, 2, 0] rfl)
  have hD9 : va_D A [(h, .inr (5, [.ref fa, .int (nI sz), .ref ap, .ref aa, .int (nI cn), .int sf, .ref ac, .ref at9, .ref ah])), (aa, .inl (D.1 24, 8, .inr (.inr (.inr (.inr sg))))), (hs, .inr (3, [.int (nI pa), .int (nI pb), .int (nI en), .int ve, .long ti, .int (nI cb), .ref dw, .ref sa, .ref cf, .ref ct, .int (nI cl), .int (u &&& nI 15), .int lf, .int (nI lv)]))] := (hD.sub [1, 2, 0] (by decide) rfl)
  exact W.iret (v := ak) hx hb hr (fun t ht hW => ⟨⟨(), rfl, trivial, by rw [ht]; exact hP9, va_K.moved hW.alike hK, hD9⟩, hS.F ht⟩) hS.2.2 dX5_allow_22
theorem iX5_lock_X33 : ∀ w ∈ wsX30, w ∈ wsX5_lock3 := by decide +kernel
theorem X5_lock_hwd03 : (.fieldLink RX5 187 "SignatureSpans$Signature" "lockedFields" "I" : Cond) ∈ wsX5_lock3 := by decide +kernel
theorem X5_lock_hwd13 : (.classLink RX5 63 "java/lang/IllegalArgumentException" : Cond) ∈ wsX5_lock3 := by decide +kernel
theorem X5_lock_hwd23 : (.initialized "java/lang/IllegalArgumentException" : Cond) ∈ wsX5_lock3 := by decide +kernel
theorem xX5_lock_673 : ∀ w ∈ (vx_atS RX5 67 "java/lang/IllegalArgumentException" ["java/lang/RuntimeException", "java/lang/Exception"]).filter goodWord, w ∈ wsX5_lock3 := by decide +kernel
set_option maxHeartbeats 4000000 in
set_option maxRecDepth 100000 in
/-- lock -/
theorem c_X5_lock3 (l : Launch) (hl0 : l.stackTraces = false) (D : va_G) (h fa ap aa ac at9 ah sz cn : Nat) (sf : Int32) (hs dw sa cf ct pa pb en cb cl lv : Nat) (ve ak lf : Int32) (ti : Int64) (i : Nat) (sg : Nat → Option Nat) (hi : i < cn) (hcn : cn ≤ 8) (hsg : sg i = some hs) (u : Int32) : kX (S := Unit) l yX5_lock wsX5_lock3 ({ frames := 8, cells := 1, slots := 6, locals := 160 }) 1 6 D [.ref h, .int (nI i), .int u] [(h, .inr (5, [.ref fa, .int (nI sz), .ref ap, .ref aa, .int (nI cn), .int sf, .ref ac, .ref at9, .ref ah])), (aa, .inl (D.1 24, 8, .inr (.inr (.inr (.inr sg))))), (hs, .inr (3, [.int (nI pa), .int (nI pb), .int (nI en), .int ve, .long ti, .int (nI cb), .ref dw, .ref sa, .ref cf, .ref ct, .int (nI cl), .int ak, .int lf, .int (nI lv)]))] (kEx [kNse, kIae] (kcLock u)) (fun _ => some (.int (kB (!kBit lf (kN u))))) (fun _ => [(h, .inr (5, [.ref fa, .int (nI sz), .ref ap, .ref aa, .int (nI cn), .int sf, .ref ac, .ref at9, .ref ah])), (aa, .inl (D.1 24, 8, .inr (.inr (.inr (.inr sg))))), (hs, .inr (3, [.int (nI pa), .int (nI pb), .int (nI en), .int ve, .long ti, .int (nI cb), .ref dw, .ref sa, .ref cf, .ref ct, .int (nI cl), .int ak, .int (kLkF lf (kN u)), .int (nI lv)]))]) (fun _ => True) := by
  intro sz
  refine vx_ofW (cc := cX5_lock) (maxL := 4) (ret := (some .int)) (by decide) rfl ?_
  intro p e s m args below meth c s₁ B hml hnoh hv
  obtain ⟨rfl, hsz, hP, hK, hD0, hE⟩ := hv
  have hx := B.exec
  have hb := B.bytes
  have hr := B.returns
  have hts := atoms_spec (ws := wsX5_lock3) B.pre
  have hown : s.vm.findClass RX5 = some m.cls := findClass_of_methodNamed B.named
  have hlocks := B.notSynchronized
  subst hsz
  have hD := hD0.self (sz := s.heap.size)
  generalize hAe : va_A [(h, .inr (5, [.ref fa, .int (nI sz), .ref ap, .ref aa, .int (nI cn), .int sf, .ref ac, .ref at9, .ref ah])), (aa, .inl (D.1 24, 8, .inr (.inr (.inr (.inr sg))))), (hs, .inr (3, [.int (nI pa), .int (nI pb), .int (nI en), .int ve, .long ti, .int (nI cb), .ref dw, .ref sa, .ref cf, .ref ct, .int (nI cl), .int ak, .int lf, .int (nI lv)]))] s.heap.size = A at hD hE ⊢
  have hA : ∀ q : Nat, s.heap.size ≤ q → A q := fun q h => by rw [← hAe]; exact Or.inr h
  have hS : va_S A s.heap s.heap [] := va_S.rf
  have hl := lv_entry ([.ref h, .int (nI i), .int u]) (n := 4) (Nat.le_of_ble_eq_true rfl)
  have inX3 : ∀ w ∈ wsX30, w ∈ wsX5_lock3 := iX5_lock_X33
  have hwd0 := hts (.fieldLink RX5 187 "SignatureSpans$Signature" "lockedFields" "I") X5_lock_hwd03
  have hwd1 := hts (.classLink RX5 63 "java/lang/IllegalArgumentException") X5_lock_hwd13
  have hwd2 := hts (.initialized "java/lang/IllegalArgumentException") X5_lock_hwd23
  have xw_67 := xX5_lock_673
  refine kgenQ (fun Q hQ => ?_)
  rw [lg_entry_eq]
  generalize (lg_sl ([.ref h, .int (nI i), .int u]) ++ List.replicate (4 - (lg_sl ([.ref h, .int (nI i), .int u])).length) Slot.unset).toArray = ls at hl ⊢
  have hl : lv_has ls 4 [(0, .ref h), (1, .int (nI i)), (2, .int u)] := hl
  refine lv_aload_n hx hb dX5_lock_0 rfl (lv_at hl 0 rfl) ?_
  refine lv_iload_n hx hb dX5_lock_1 rfl (lv_at hl 1 rfl) ?_
  refine kcV (C := RX5) (As := [.int (nI i)]) (rest := []) (ws := [(h, .inr (5, [.ref fa, .int (nI sz), .ref ap, .ref aa, .int (nI cn), .int sf, .ref ac, .ref at9, .ref ah])), (aa, .inl (D.1 24, 8, .inr (.inr (.inr (.inr sg)))))]) (wr := [(hs, .inr (3, [.int (nI pa), .int (nI pb), .int (nI en), .int ve, .long ti, .int (nI cb), .ref dw, .ref sa, .ref cf, .ref ct, .int (nI cl), .int ak, .int lf, .int (nI lv)]))]) ⟨hx, hb, hml, hown, hts⟩ (c_X5_signatureAt3 l D h fa ap aa ac at9 ah sz cn sf  i hs sg (by omega) (by omega) hsg) (cwV 1 hts gX5_lock_X5_signatureAt3 rfl rfl rfl (by decide +kernel) ⟨Nat.le_of_ble_eq_true rfl, Nat.le_of_ble_eq_true rfl⟩) hK hE hP hD hS hA [0, 1] [2] rfl rfl rfl rfl (by decide) 0 5 rfl rfl rfl rfl hl.1 rfl (Nat.le_of_ble_eq_true rfl) dX5_lock_2 ⟨Nat.le_of_ble_eq_true rfl, Nat.le_of_ble_eq_true rfl⟩ (fun _ H locs hpo hP hD hS => ?_)
  have hP : va_P D kC [(hs, .inr (3, [.int (nI pa), .int (nI pb), .int (nI en), .int ve, .long ti, .int (nI cb), .ref dw, .ref sa, .ref cf, .ref ct, .int (nI cl), .int ak, .int lf, .int (nI lv)])), (h, .inr (5, [.ref fa, .int (nI sz), .ref ap, .ref aa, .int (nI cn), .int sf, .ref ac, .ref at9, .ref ah])), (aa, .inl (D.1 24, 8, .inr (.inr (.inr (.inr sg)))))] _ := hP
  have hD : va_D A [(hs, .inr (3, [.int (nI pa), .int (nI pb), .int (nI en), .int ve, .long ti, .int (nI cb), .ref dw, .ref sa, .ref cf, .ref ct, .int (nI cl), .int ak, .int lf, .int (nI lv)])), (h, .inr (5, [.ref fa, .int (nI sz), .ref ap, .ref aa, .int (nI cn), .int sf, .ref ac, .ref at9, .ref ah])), (aa, .inl (D.1 24, 8, .inr (.inr (.inr (.inr sg)))))] := hD
  refine W.eq (g2 := F0 m 5 ls [.ref hs]) rfl ?_
  refine W.widen (k := 0) (n := 0) (Nat.le_of_ble_eq_true rfl) (Nat.le_of_ble_eq_true rfl) ?_
  refine lv_astore_n (lv' := [(3, .ref hs), (0, .ref h), (1, .int (nI i)), (2, .int u)]) hx hb dX5_lock_5 rfl hl (by decide) rfl (fun ls hl => ?_)
  refine lv_iload_n hx hb dX5_lock_6 rfl (lv_at hl 3 rfl) ?_
  refine kcS (As := [.int u]) (rest := []) (ws := []) (wr := [(hs, .inr (3, [.int (nI pa), .int (nI pb), .int (nI en), .int ve, .long ti, .int (nI cb), .ref dw, .ref sa, .ref cf, .ref ct, .int (nI cl), .int ak, .int lf, .int (nI lv)])), (h, .inr (5, [.ref fa, .int (nI sz), .ref ap, .ref aa, .int (nI cn), .int sf, .ref ac, .ref at9, .ref ah])), (aa, .inl (D.1 24, 8, .inr (.inr (.inr (.inr sg)))))]) ⟨hx, hb, hml, hown, hts⟩ (c_X5_isField l D u) (va_cwS 1 hts gX5_lock_X5_isField3 rfl rfl rfl (by decide +kernel) ⟨Nat.le_of_ble_eq_true rfl, Nat.le_of_ble_eq_true rfl⟩) hK hE hP hD hS hA [] [0, 1, 2] rfl rfl rfl rfl (by decide) rfl hl.1 rfl (Nat.le_of_ble_eq_true rfl) dX5_lock_7 ⟨Nat.le_of_ble_eq_true rfl, Nat.le_of_ble_eq_true rfl⟩ (fun _ H locs hpo hP hD hS => ?_)
  have hP : va_P D kC [(hs, .inr (3, [.int (nI pa), .int (nI pb), .int (nI en), .int ve, .long ti, .int (nI cb), .ref dw, .ref sa, .ref cf, .ref ct, .int (nI cl), .int ak, .int lf, .int (nI lv)])), (h, .inr (5, [.ref fa, .int (nI sz), .ref ap, .ref aa, .int (nI cn), .int sf, .ref ac, .ref at9, .ref ah])), (aa, .inl (D.1 24, 8, .inr (.inr (.inr (.inr sg)))))] _ := hP
  have hD : va_D A [(hs, .inr (3, [.int (nI pa), .int (nI pb), .int (nI en), .int ve, .long ti, .int (nI cb), .ref dw, .ref sa, .ref cf, .ref ct, .int (nI cl), .int ak, .int lf, .int (nI lv)])), (h, .inr (5, [.ref fa, .int (nI sz), .ref ap, .ref aa, .int (nI cn), .int sf, .ref ac, .ref at9, .ref ah])), (aa, .inl (D.1 24, 8, .inr (.inr (.inr (.inr sg)))))] := hD
  refine W.eq (g2 := F0 m 10 ls [.int (kB (kIsF u))]) rfl ?_
  refine W.widen (k := 0) (n := 0) (Nat.le_of_ble_eq_true rfl) (Nat.le_of_ble_eq_true rfl) ?_
  refine lv_if_ne (tgt := 23) hx hb dX5_lock_10 (by decide) (fun c_10 => ?_) (fun c_10 => ?_)
  · have c_10 := kB_n0.mp c_10
    obtain ⟨b, hb9, hub⟩ := kNat_lt (x := u) (n := 20) (by omega) (of_decide_eq_true c_10).1 (of_decide_eq_true c_10).2
    have hbu : kN u = b := by rw [hub]; exact kN_nI (by omega)
    refine lv_aload_n hx hb dX5_lock_23 rfl (lv_at hl 0 rfl) ?_
    refine va_get (D := D) (ci := 3) (v := .int lf) (C := RX3) (T := TX3) (N := 14) hx hb hts inX3 hown hK hP 0 rfl rfl 12 (by decide) hwd0 (fun _ h9 => h9) rfl dX5_lock_24 ?_
    refine lv_iload_n hx hb dX5_lock_27 rfl (lv_at hl 3 rfl) ?_
    refine kt_i (v' := nI b) hub ?_
    refine kcS (As := [.int lf, .int (nI b)]) (rest := []) (ws := []) (wr := [(hs, .inr (3, [.int (nI pa), .int (nI pb), .int (nI en), .int ve, .long ti, .int (nI cb), .ref dw, .ref sa, .ref cf, .ref ct, .int (nI cl), .int ak, .int lf, .int (nI lv)])), (h, .inr (5, [.ref fa, .int (nI sz), .ref ap, .ref aa, .int (nI cn), .int sf, .ref ac, .ref at9, .ref ah])), (aa, .inl (D.1 24, 8, .inr (.inr (.inr (.inr sg)))))]) ⟨hx, hb, hml, hown, hts⟩ (c_X5_hasField l D lf b) (va_cwS 2 hts gX5_lock_X5_hasField3 rfl rfl rfl (by decide +kernel) ⟨Nat.le_of_ble_eq_true rfl, Nat.le_of_ble_eq_true rfl⟩) hK hE hP hD hS hA [] [0, 1, 2] rfl rfl rfl rfl (by decide) rfl hl.1 rfl (Nat.le_of_ble_eq_true rfl) dX5_lock_28 ⟨Nat.le_of_ble_eq_true rfl, Nat.le_of_ble_eq_true rfl⟩ (fun _ H locs hpo hP hD hS => ?_)
    have hP : va_P D kC [(hs, .inr (3, [.int (nI pa), .int (nI pb), .int (nI en), .int ve, .long ti, .int (nI cb), .ref dw, .ref sa, .ref cf, .ref ct, .int (nI cl), .int ak, .int lf, .int (nI lv)])), (h, .inr (5, [.ref fa, .int (nI sz), .ref ap, .ref aa, .int (nI cn), .int sf, .ref ac, .ref at9, .ref ah])), (aa, .inl (D.1 24, 8, .inr (.inr (.inr (.inr sg)))))] _ := hP
    have hD : va_D A [(hs, .inr (3, [.int (nI pa), .int (nI pb), .int (nI en), .int ve, .long ti, .int (nI cb), .ref dw, .ref sa, .ref cf, .ref ct, .int (nI cl), .int ak, .int lf, .int (nI lv)])), (h, .inr (5, [.ref fa, .int (nI sz), .ref ap, .ref aa, .int (nI cn), .int sf, .ref ac, .ref at9, .ref ah])), (aa, .inl (D.1 24, 8, .inr (.inr (.inr (.inr sg)))))] := hD
    refine W.eq (g2 := F0 m 31 ls [.int (kB (kBit lf b))]) rfl ?_
    refine W.widen (k := 0) (n := 0) (Nat.le_of_ble_eq_true rfl) (Nat.le_of_ble_eq_true rfl) ?_
    refine lv_if_eq (tgt := 36) hx hb dX5_lock_31 (by decide) (fun c_31 => ?_) (fun c_31 => ?_)
    · have c_31 := kB_e0.mp c_31
      refine lv_aload_n hx hb dX5_lock_36 rfl (lv_at hl 0 rfl) ?_
      refine lv_dup hx hb dX5_lock_37 rfl ?_
      refine va_get (D := D) (ci := 3) (v := .int lf) (C := RX3) (T := TX3) (N := 14) hx hb hts inX3 hown hK hP 0 rfl rfl 12 (by decide) hwd0 (fun _ h9 => h9) rfl dX5_lock_38 ?_
      refine lv_iconst (v := nI 1) hx hb dX5_lock_41 (by decide) ?_
      refine lv_iload_n hx hb dX5_lock_42 rfl (lv_at hl 3 rfl) ?_
      refine kt_i (v' := nI b) hub ?_
      refine lv_ishl hx hb dX5_lock_43 ?_
      refine lv_ior hx hb dX5_lock_44 ?_
      refine va_put (D := D) (ci := 3) (v := .int (lf ||| ((nI 1) <<< ((nI b) &&& 31)))) (ty := .int) (C := RX3) (T := TX3) (N := 14) hx hb hts inX3 tyX3 tyX3_ok nmX3 hown hK hP hD hS 0 rfl rfl 12 (by decide) hwd0 (fun _ h9 => h9) rfl (by decide +kernel) rfl rfl (Nat.le_of_ble_eq_true rfl) dX5_lock_45 (fun H locs hP hD hS => ?_)
      have hP : va_P D kC [(hs, .inr (3, [.int (nI pa), .int (nI pb), .int (nI en), .int ve, .long ti, .int (nI cb), .ref dw, .ref sa, .ref cf, .ref ct, .int (nI cl), .int ak, .int (lf ||| ((nI 1) <<< ((nI b) &&& 31))), .int (nI lv)])), (h, .inr (5, [.ref fa, .int (nI sz), .ref ap, .ref aa, .int (nI cn), .int sf, .ref ac, .ref at9, .ref ah])), (aa, .inl (D.1 24, 8, .inr (.inr (.inr (.inr sg)))))] _ := hP
      have hD : va_D A [(hs, .inr (3, [.int (nI pa), .int (nI pb), .int (nI en), .int ve, .long ti, .int (nI cb), .ref dw, .ref sa, .ref cf, .ref ct, .int (nI cl), .int ak, .int (lf ||| ((nI 1) <<< ((nI b) &&& 31))), .int (nI lv)])), (h, .inr (5, [.ref fa, .int (nI sz), .ref ap, .ref aa, .int (nI cn), .int sf, .ref ac, .ref at9, .ref ah])), (aa, .inl (D.1 24, 8, .inr (.inr (.inr (.inr sg)))))] := hD
      refine lv_iconst (v := nI 1) hx hb dX5_lock_48 (by decide) ?_
      rw [hQ]
      refine vx_ret ?_
      refine W.widen (k := 1) (n := 6) (Nat.le_of_ble_eq_true rfl) (Nat.le_of_ble_eq_true rfl) ?_
      have hP9 : va_P D kC [(h, .inr (5, [.ref fa, .int (nI sz), .ref ap, .ref aa, .int (nI cn), .int sf, .ref ac, .ref at9, .ref ah])), (aa, .inl (D.1 24, 8, .inr (.inr (.inr (.inr sg))))), (hs, .inr (3, [.int (nI pa), .int (nI pb), .int (nI en), .int ve, .long ti, .int (nI cb), .ref dw, .ref sa, .ref cf, .ref ct, .int (nI cl), .int ak, .int (kLkF lf (kN u)), .int (nI lv)]))] H := by rw [hbu, show kLkF lf b = lf ||| (nI 1 <<< (nI b &&& 31)) from if_neg (by rw [c_31]; decide)]; exact (hP.sub [1, 2, 0] rfl)
      have hD9 : va_D A [(h, .inr (5, [.ref fa, .int (nI sz), .ref ap, .ref aa, .int (nI cn), .int sf, .ref ac, .ref at9, .ref ah])), (aa, .inl (D.1 24, 8, .inr (.inr (.inr (.inr sg))))), (hs, .inr (3, [.int (nI pa), .int (nI pb), .int (nI en), .int ve, .long ti, .int (nI cb), .ref dw, .ref sa, .ref cf, .ref ct, .int (nI cl), .int ak, .int (kLkF lf (kN u)), .int (nI lv)]))] := by rw [hbu, show kLkF lf b = lf ||| (nI 1 <<< (nI b &&& 31)) from if_neg (by rw [c_31]; decide)]; exact (hD.sub [1, 2, 0] (by decide) rfl)
      exact W.iret (v := nI 1) hx hb hr (fun t ht hW => ⟨by rw [show kcLock u = 0 from if_pos c_10]; rfl, ⟨⟨(), congrArg (fun z => Outcome.returned (some (Value.int z))) (kB_t (by rw [hbu, c_31]; rfl)), trivial, by rw [ht]; exact hP9, va_K.moved hW.alike hK, hD9⟩, hS.F ht⟩⟩) hS.2.2 dX5_lock_49
    · have c_31 := kB_n0.mp c_31
      refine lv_iconst (v := nI 0) hx hb dX5_lock_34 (by decide) ?_
      rw [hQ]
      refine vx_ret ?_
      refine W.widen (k := 1) (n := 6) (Nat.le_of_ble_eq_true rfl) (Nat.le_of_ble_eq_true rfl) ?_
      have hP9 : va_P D kC [(h, .inr (5, [.ref fa, .int (nI sz), .ref ap, .ref aa, .int (nI cn), .int sf, .ref ac, .ref at9, .ref ah])), (aa, .inl (D.1 24, 8, .inr (.inr (.inr (.inr sg))))), (hs, .inr (3, [.int (nI pa), .int (nI pb), .int (nI en), .int ve, .long ti, .int (nI cb), .ref dw, .ref sa, .ref cf, .ref ct, .int (nI cl), .int ak, .int (kLkF lf (kN u)), .int (nI lv)]))] H := by rw [hbu, show kLkF lf b = lf from if_pos c_31]; exact (hP.sub [1, 2, 0] rfl)
      have hD9 : va_D A [(h, .inr (5, [.ref fa, .int (nI sz), .ref ap, .ref aa, .int (nI cn), .int sf, .ref ac, .ref at9, .ref ah])), (aa, .inl (D.1 24, 8, .inr (.inr (.inr (.inr sg))))), (hs, .inr (3, [.int (nI pa), .int (nI pb), .int (nI en), .int ve, .long ti, .int (nI cb), .ref dw, .ref sa, .ref cf, .ref ct, .int (nI cl), .int ak, .int (kLkF lf (kN u)), .int (nI lv)]))] := by rw [hbu, show kLkF lf b = lf from if_pos c_31]; exact (hD.sub [1, 2, 0] (by decide) rfl)
      exact W.iret (v := nI 0) hx hb hr (fun t ht hW => ⟨by rw [show kcLock u = 0 from if_pos c_10]; rfl, ⟨⟨(), congrArg (fun z => Outcome.returned (some (Value.int z))) (kB_f (by rw [hbu, c_31]; rfl)), trivial, by rw [ht]; exact hP9, va_K.moved hW.alike hK, hD9⟩, hS.F ht⟩⟩) hS.2.2 dX5_lock_35
  · have c_10 := kB_e0.mp c_10
    rw [hQ]
    exact kx_throw (E := "java/lang/IllegalArgumentException") (names := ["java/lang/RuntimeException", "java/lang/Exception"]) (ik := 63) (is := 185) (ic := 67) hx hb hl0 hnoh hown hts hK hE (hP.sub [1, 2, 0] rfl) (hD.sub [1, 2, 0] (by decide) rfl) hS hwd1 hwd2 (hE.2.2.2.1 (185, "no such field") (by decide +kernel)) xw_67 (by decide +kernel) (by decide +kernel) (by decide +kernel) (by decide +kernel) (by rw [hml]; exact hl.1) dX5_lock_13 dX5_lock_16 dX5_lock_17 dX5_lock_19 dX5_lock_22 (Nat.le_of_ble_eq_true rfl) (Nat.le_of_ble_eq_true rfl) ⟨Nat.le_of_ble_eq_true rfl, Nat.le_of_ble_eq_true rfl⟩ ⟨Nat.le_of_ble_eq_true rfl, Nat.le_of_ble_eq_true rfl⟩ hlocks (by rw [show kcLock u = 2 from if_neg (fun q => by rw [c_10] at q; cases q)]; rfl)
theorem iX5_certify_X33 : ∀ w ∈ wsX30, w ∈ wsX5_certify3 := by decide +kernel
theorem X5_certify_hwd03 : (.classLink RX5 63 "java/lang/IllegalArgumentException" : Cond) ∈ wsX5_certify3 := by decide +kernel
theorem X5_certify_hwd13 : (.initialized "java/lang/IllegalArgumentException" : Cond) ∈ wsX5_certify3 := by decide +kernel
theorem X5_certify_hwd23 : (.fieldLink RX5 192 "SignatureSpans$Signature" "level" "I" : Cond) ∈ wsX5_certify3 := by decide +kernel
theorem xX5_certify_673 : ∀ w ∈ (vx_atS RX5 67 "java/lang/IllegalArgumentException" ["java/lang/RuntimeException", "java/lang/Exception"]).filter goodWord, w ∈ wsX5_certify3 := by decide +kernel
set_option maxHeartbeats 4000000 in
set_option maxRecDepth 100000 in
/-- certify -/
theorem c_X5_certify3 (l : Launch) (hl0 : l.stackTraces = false) (D : va_G) (h fa ap aa ac at9 ah sz cn : Nat) (sf : Int32) (hs dw sa cf ct pa pb en cb cl lv : Nat) (ve ak lf : Int32) (ti : Int64) (i : Nat) (sg : Nat → Option Nat) (hi : i < cn) (hcn : cn ≤ 8) (hsg : sg i = some hs) (u : Int32) (hlv : lv ≤ 3) : kX (S := Unit) l yX5_certify wsX5_certify3 ({ frames := 8, cells := 1, slots := 6, locals := 160 }) 1 6 D [.ref h, .int (nI i), .int u] [(h, .inr (5, [.ref fa, .int (nI sz), .ref ap, .ref aa, .int (nI cn), .int sf, .ref ac, .ref at9, .ref ah])), (aa, .inl (D.1 24, 8, .inr (.inr (.inr (.inr sg))))), (hs, .inr (3, [.int (nI pa), .int (nI pb), .int (nI en), .int ve, .long ti, .int (nI cb), .ref dw, .ref sa, .ref cf, .ref ct, .int (nI cl), .int ak, .int lf, .int (nI lv)]))] (kEx [kNse, kIae] (kcCert u)) (fun _ => some (.int (kB (decide (i = 0 ∧ lv = 0))))) (fun _ => [(h, .inr (5, [.ref fa, .int (nI sz), .ref ap, .ref aa, .int (nI cn), .int sf, .ref ac, .ref at9, .ref ah])), (aa, .inl (D.1 24, 8, .inr (.inr (.inr (.inr sg))))), (hs, .inr (3, [.int (nI pa), .int (nI pb), .int (nI en), .int ve, .long ti, .int (nI cb), .ref dw, .ref sa, .ref cf, .ref ct, .int (nI cl), .int ak, .int lf, .int (nI (kCtL i lv (kN u)))]))]) (fun _ => True) := by
  intro sz
  refine vx_ofW (cc := cX5_certify) (maxL := 4) (ret := (some .int)) (by decide) rfl ?_
  intro p e s m args below meth c s₁ B hml hnoh hv
  obtain ⟨rfl, hsz, hP, hK, hD0, hE⟩ := hv
  have hx := B.exec
  have hb := B.bytes
  have hr := B.returns
  have hts := atoms_spec (ws := wsX5_certify3) B.pre
  have hown : s.vm.findClass RX5 = some m.cls := findClass_of_methodNamed B.named
  have hlocks := B.notSynchronized
  subst hsz
  have hD := hD0.self (sz := s.heap.size)
  generalize hAe : va_A [(h, .inr (5, [.ref fa, .int (nI sz), .ref ap, .ref aa, .int (nI cn), .int sf, .ref ac, .ref at9, .ref ah])), (aa, .inl (D.1 24, 8, .inr (.inr (.inr (.inr sg))))), (hs, .inr (3, [.int (nI pa), .int (nI pb), .int (nI en), .int ve, .long ti, .int (nI cb), .ref dw, .ref sa, .ref cf, .ref ct, .int (nI cl), .int ak, .int lf, .int (nI lv)]))] s.heap.size = A at hD hE ⊢
  have hA : ∀ q : Nat, s.heap.size ≤ q → A q := fun q h => by rw [← hAe]; exact Or.inr h
  have hS : va_S A s.heap s.heap [] := va_S.rf
  have hl := lv_entry ([.ref h, .int (nI i), .int u]) (n := 4) (Nat.le_of_ble_eq_true rfl)
  have inX3 : ∀ w ∈ wsX30, w ∈ wsX5_certify3 := iX5_certify_X33
  have hwd0 := hts (.classLink RX5 63 "java/lang/IllegalArgumentException") X5_certify_hwd03
  have hwd1 := hts (.initialized "java/lang/IllegalArgumentException") X5_certify_hwd13
  have hwd2 := hts (.fieldLink RX5 192 "SignatureSpans$Signature" "level" "I") X5_certify_hwd23
  have xw_67 := xX5_certify_673
  refine kgenQ (fun Q hQ => ?_)
  rw [lg_entry_eq]
  generalize (lg_sl ([.ref h, .int (nI i), .int u]) ++ List.replicate (4 - (lg_sl ([.ref h, .int (nI i), .int u])).length) Slot.unset).toArray = ls at hl ⊢
  have hl : lv_has ls 4 [(0, .ref h), (1, .int (nI i)), (2, .int u)] := hl
  refine lv_aload_n hx hb dX5_certify_0 rfl (lv_at hl 0 rfl) ?_
  refine lv_iload_n hx hb dX5_certify_1 rfl (lv_at hl 1 rfl) ?_
  refine kcV (C := RX5) (As := [.int (nI i)]) (rest := []) (ws := [(h, .inr (5, [.ref fa, .int (nI sz), .ref ap, .ref aa, .int (nI cn), .int sf, .ref ac, .ref at9, .ref ah])), (aa, .inl (D.1 24, 8, .inr (.inr (.inr (.inr sg)))))]) (wr := [(hs, .inr (3, [.int (nI pa), .int (nI pb), .int (nI en), .int ve, .long ti, .int (nI cb), .ref dw, .ref sa, .ref cf, .ref ct, .int (nI cl), .int ak, .int lf, .int (nI lv)]))]) ⟨hx, hb, hml, hown, hts⟩ (c_X5_signatureAt3 l D h fa ap aa ac at9 ah sz cn sf  i hs sg (by omega) (by omega) hsg) (cwV 1 hts gX5_certify_X5_signatureAt3 rfl rfl rfl (by decide +kernel) ⟨Nat.le_of_ble_eq_true rfl, Nat.le_of_ble_eq_true rfl⟩) hK hE hP hD hS hA [0, 1] [2] rfl rfl rfl rfl (by decide) 0 5 rfl rfl rfl rfl hl.1 rfl (Nat.le_of_ble_eq_true rfl) dX5_certify_2 ⟨Nat.le_of_ble_eq_true rfl, Nat.le_of_ble_eq_true rfl⟩ (fun _ H locs hpo hP hD hS => ?_)
  have hP : va_P D kC [(hs, .inr (3, [.int (nI pa), .int (nI pb), .int (nI en), .int ve, .long ti, .int (nI cb), .ref dw, .ref sa, .ref cf, .ref ct, .int (nI cl), .int ak, .int lf, .int (nI lv)])), (h, .inr (5, [.ref fa, .int (nI sz), .ref ap, .ref aa, .int (nI cn), .int sf, .ref ac, .ref at9, .ref ah])), (aa, .inl (D.1 24, 8, .inr (.inr (.inr (.inr sg)))))] _ := hP
  have hD : va_D A [(hs, .inr (3, [.int (nI pa), .int (nI pb), .int (nI en), .int ve, .long ti, .int (nI cb), .ref dw, .ref sa, .ref cf, .ref ct, .int (nI cl), .int ak, .int lf, .int (nI lv)])), (h, .inr (5, [.ref fa, .int (nI sz), .ref ap, .ref aa, .int (nI cn), .int sf, .ref ac, .ref at9, .ref ah])), (aa, .inl (D.1 24, 8, .inr (.inr (.inr (.inr sg)))))] := hD
  refine W.eq (g2 := F0 m 5 ls [.ref hs]) rfl ?_
  refine W.widen (k := 0) (n := 0) (Nat.le_of_ble_eq_true rfl) (Nat.le_of_ble_eq_true rfl) ?_
  refine lv_astore_n (lv' := [(3, .ref hs), (0, .ref h), (1, .int (nI i)), (2, .int u)]) hx hb dX5_certify_5 rfl hl (by decide) rfl (fun ls hl => ?_)
  refine lv_iload_n hx hb dX5_certify_6 rfl (lv_at hl 3 rfl) ?_
  refine lv_iconst (v := nI 1) hx hb dX5_certify_7 (by decide) ?_
  refine lv_icmp_lt (tgt := 16) hx hb dX5_certify_8 (by decide) (fun c_8 => ?_) (fun c_8 => ?_)
  · rw [hQ]
    exact kx_throw (E := "java/lang/IllegalArgumentException") (names := ["java/lang/RuntimeException", "java/lang/Exception"]) (ik := 63) (is := 190) (ic := 67) hx hb hl0 hnoh hown hts hK hE (hP.sub [1, 2, 0] rfl) (hD.sub [1, 2, 0] (by decide) rfl) hS hwd0 hwd1 (hE.2.2.2.1 (190, "no such level") (by decide +kernel)) xw_67 (by decide +kernel) (by decide +kernel) (by decide +kernel) (by decide +kernel) (by rw [hml]; exact hl.1) dX5_certify_16 dX5_certify_19 dX5_certify_20 dX5_certify_22 dX5_certify_25 (Nat.le_of_ble_eq_true rfl) (Nat.le_of_ble_eq_true rfl) ⟨Nat.le_of_ble_eq_true rfl, Nat.le_of_ble_eq_true rfl⟩ ⟨Nat.le_of_ble_eq_true rfl, Nat.le_of_ble_eq_true rfl⟩ hlocks (by rw [show kcCert u = 2 from if_pos (Or.inl c_8)]; rfl)
  · refine lv_iload_n hx hb dX5_certify_11 rfl (lv_at hl 3 rfl) ?_
    refine lv_iconst (v := nI 3) hx hb dX5_certify_12 (by decide) ?_
    refine lv_icmp_le (tgt := 26) hx hb dX5_certify_13 (by decide) (fun c_13 => ?_) (fun c_13 => ?_)
    · have hu0 : ¬ u < 0 := fun q => c_8 (Int32.lt_trans q (by decide))
      obtain ⟨b, hb9, hub⟩ := kNat_le (x := u) (n := 3) (by omega) hu0 (Int32.not_lt.mpr c_13)
      have hbu : kN u = b := by rw [hub]; exact kN_nI (by omega)
      refine lv_iload_n hx hb dX5_certify_26 rfl (lv_at hl 2 rfl) ?_
      refine kn_if_ne (tgt := 37) hx hb (by omega) dX5_certify_27 (by decide) (fun c_27 => ?_) (fun c_27 => ?_)
      · refine lv_iconst (v := nI 0) hx hb dX5_certify_37 (by decide) ?_
        rw [hQ]
        refine vx_ret ?_
        refine W.widen (k := 1) (n := 6) (Nat.le_of_ble_eq_true rfl) (Nat.le_of_ble_eq_true rfl) ?_
        have hP9 : va_P D kC [(h, .inr (5, [.ref fa, .int (nI sz), .ref ap, .ref aa, .int (nI cn), .int sf, .ref ac, .ref at9, .ref ah])), (aa, .inl (D.1 24, 8, .inr (.inr (.inr (.inr sg))))), (hs, .inr (3, [.int (nI pa), .int (nI pb), .int (nI en), .int ve, .long ti, .int (nI cb), .ref dw, .ref sa, .ref cf, .ref ct, .int (nI cl), .int ak, .int lf, .int (nI (kCtL i lv (kN u)))]))] H := by rw [hbu, show kCtL i lv b = lv from if_neg (by omega)]; exact (hP.sub [1, 2, 0] rfl)
        have hD9 : va_D A [(h, .inr (5, [.ref fa, .int (nI sz), .ref ap, .ref aa, .int (nI cn), .int sf, .ref ac, .ref at9, .ref ah])), (aa, .inl (D.1 24, 8, .inr (.inr (.inr (.inr sg))))), (hs, .inr (3, [.int (nI pa), .int (nI pb), .int (nI en), .int ve, .long ti, .int (nI cb), .ref dw, .ref sa, .ref cf, .ref ct, .int (nI cl), .int ak, .int lf, .int (nI (kCtL i lv (kN u)))]))] := by rw [hbu, show kCtL i lv b = lv from if_neg (by omega)]; exact (hD.sub [1, 2, 0] (by decide) rfl)
        exact W.iret (v := nI 0) hx hb hr (fun t ht hW => ⟨by rw [show kcCert u = 0 from if_neg (fun q => q.elim c_8 (Int32.not_lt.mpr c_13))]; rfl, ⟨⟨(), congrArg (fun z => Outcome.returned (some (Value.int z))) (kB_f (decide_eq_false (by omega))), trivial, by rw [ht]; exact hP9, va_K.moved hW.alike hK, hD9⟩, hS.F ht⟩⟩) hS.2.2 dX5_certify_38
      · refine lv_aload_n hx hb dX5_certify_30 rfl (lv_at hl 0 rfl) ?_
        refine va_get (D := D) (ci := 3) (v := .int (nI lv)) (C := RX3) (T := TX3) (N := 14) hx hb hts inX3 hown hK hP 0 rfl rfl 13 (by decide) hwd2 (fun _ h9 => h9) rfl dX5_certify_31 ?_
        refine kn_if_eq (tgt := 39) hx hb (by omega) dX5_certify_34 (by decide) (fun c_34 => ?_) (fun c_34 => ?_)
        · refine lv_aload_n hx hb dX5_certify_39 rfl (lv_at hl 0 rfl) ?_
          refine lv_iload_n hx hb dX5_certify_40 rfl (lv_at hl 3 rfl) ?_
          refine kt_i (v' := nI b) hub ?_
          refine va_put (D := D) (ci := 3) (v := .int (nI b)) (ty := .int) (C := RX3) (T := TX3) (N := 14) hx hb hts inX3 tyX3 tyX3_ok nmX3 hown hK hP hD hS 0 rfl rfl 13 (by decide) hwd2 (fun _ h9 => h9) rfl (by decide +kernel) rfl rfl (Nat.le_of_ble_eq_true rfl) dX5_certify_41 (fun H locs hP hD hS => ?_)
          have hP : va_P D kC [(hs, .inr (3, [.int (nI pa), .int (nI pb), .int (nI en), .int ve, .long ti, .int (nI cb), .ref dw, .ref sa, .ref cf, .ref ct, .int (nI cl), .int ak, .int lf, .int (nI b)])), (h, .inr (5, [.ref fa, .int (nI sz), .ref ap, .ref aa, .int (nI cn), .int sf, .ref ac, .ref at9, .ref ah])), (aa, .inl (D.1 24, 8, .inr (.inr (.inr (.inr sg)))))] _ := hP
          have hD : va_D A [(hs, .inr (3, [.int (nI pa), .int (nI pb), .int (nI en), .int ve, .long ti, .int (nI cb), .ref dw, .ref sa, .ref cf, .ref ct, .int (nI cl), .int ak, .int lf, .int (nI b)])), (h, .inr (5, [.ref fa, .int (nI sz), .ref ap, .ref aa, .int (nI cn), .int sf, .ref ac, .ref at9, .ref ah])), (aa, .inl (D.1 24, 8, .inr (.inr (.inr (.inr sg)))))] := hD
          refine lv_iconst (v := nI 1) hx hb dX5_certify_44 (by decide) ?_
          rw [hQ]
          refine vx_ret ?_
          refine W.widen (k := 1) (n := 6) (Nat.le_of_ble_eq_true rfl) (Nat.le_of_ble_eq_true rfl) ?_
          have hP9 : va_P D kC [(h, .inr (5, [.ref fa, .int (nI sz), .ref ap, .ref aa, .int (nI cn), .int sf, .ref ac, .ref at9, .ref ah])), (aa, .inl (D.1 24, 8, .inr (.inr (.inr (.inr sg))))), (hs, .inr (3, [.int (nI pa), .int (nI pb), .int (nI en), .int ve, .long ti, .int (nI cb), .ref dw, .ref sa, .ref cf, .ref ct, .int (nI cl), .int ak, .int lf, .int (nI (kCtL i lv (kN u)))]))] H := by rw [hbu, show kCtL i lv b = b from if_pos (by omega)]; exact (hP.sub [1, 2, 0] rfl)
          have hD9 : va_D A [(h, .inr (5, [.ref fa, .int (nI sz), .ref ap, .ref aa, .int (nI cn), .int sf, .ref ac, .ref at9, .ref ah])), (aa, .inl (D.1 24, 8, .inr (.inr (.inr (.inr sg))))), (hs, .inr (3, [.int (nI pa), .int (nI pb), .int (nI en), .int ve, .long ti, .int (nI cb), .ref dw, .ref sa, .ref cf, .ref ct, .int (nI cl), .int ak, .int lf, .int (nI (kCtL i lv (kN u)))]))] := by rw [hbu, show kCtL i lv b = b from if_pos (by omega)]; exact (hD.sub [1, 2, 0] (by decide) rfl)
          exact W.iret (v := nI 1) hx hb hr (fun t ht hW => ⟨by rw [show kcCert u = 0 from if_neg (fun q => q.elim c_8 (Int32.not_lt.mpr c_13))]; rfl, ⟨⟨(), congrArg (fun z => Outcome.returned (some (Value.int z))) (kB_t (decide_eq_true (by omega))), trivial, by rw [ht]; exact hP9, va_K.moved hW.alike hK, hD9⟩, hS.F ht⟩⟩) hS.2.2 dX5_certify_45
        · refine lv_iconst (v := nI 0) hx hb dX5_certify_37 (by decide) ?_
          rw [hQ]
          refine vx_ret ?_
          refine W.widen (k := 1) (n := 6) (Nat.le_of_ble_eq_true rfl) (Nat.le_of_ble_eq_true rfl) ?_
          have hP9 : va_P D kC [(h, .inr (5, [.ref fa, .int (nI sz), .ref ap, .ref aa, .int (nI cn), .int sf, .ref ac, .ref at9, .ref ah])), (aa, .inl (D.1 24, 8, .inr (.inr (.inr (.inr sg))))), (hs, .inr (3, [.int (nI pa), .int (nI pb), .int (nI en), .int ve, .long ti, .int (nI cb), .ref dw, .ref sa, .ref cf, .ref ct, .int (nI cl), .int ak, .int lf, .int (nI (kCtL i lv (kN u)))]))] H := by rw [hbu, show kCtL i lv b = lv from if_neg (by omega)]; exact (hP.sub [1, 2, 0] rfl)
          have hD9 : va_D A [(h, .inr (5, [.ref fa, .int (nI sz), .ref ap, .ref aa, .int (nI cn), .int sf, .ref ac, .ref at9, .ref ah])), (aa, .inl (D.1 24, 8, .inr (.inr (.inr (.inr sg))))), (hs, .inr (3, [.int (nI pa), .int (nI pb), .int (nI en), .int ve, .long ti, .int (nI cb), .ref dw, .ref sa, .ref cf, .ref ct, .int (nI cl), .int ak, .int lf, .int (nI (kCtL i lv (kN u)))]))] := by rw [hbu, show kCtL i lv b = lv from if_neg (by omega)]; exact (hD.sub [1, 2, 0] (by decide) rfl)
          exact W.iret (v := nI 0) hx hb hr (fun t ht hW => ⟨by rw [show kcCert u = 0 from if_neg (fun q => q.elim c_8 (Int32.not_lt.mpr c_13))]; rfl, ⟨⟨(), congrArg (fun z => Outcome.returned (some (Value.int z))) (kB_f (decide_eq_false (by omega))), trivial, by rw [ht]; exact hP9, va_K.moved hW.alike hK, hD9⟩, hS.F ht⟩⟩) hS.2.2 dX5_certify_38
    · rw [hQ]
      exact kx_throw (E := "java/lang/IllegalArgumentException") (names := ["java/lang/RuntimeException", "java/lang/Exception"]) (ik := 63) (is := 190) (ic := 67) hx hb hl0 hnoh hown hts hK hE (hP.sub [1, 2, 0] rfl) (hD.sub [1, 2, 0] (by decide) rfl) hS hwd0 hwd1 (hE.2.2.2.1 (190, "no such level") (by decide +kernel)) xw_67 (by decide +kernel) (by decide +kernel) (by decide +kernel) (by decide +kernel) (by rw [hml]; exact hl.1) dX5_certify_16 dX5_certify_19 dX5_certify_20 dX5_certify_22 dX5_certify_25 (Nat.le_of_ble_eq_true rfl) (Nat.le_of_ble_eq_true rfl) ⟨Nat.le_of_ble_eq_true rfl, Nat.le_of_ble_eq_true rfl⟩ ⟨Nat.le_of_ble_eq_true rfl, Nat.le_of_ble_eq_true rfl⟩ hlocks (by rw [show kcCert u = 2 from if_pos (Or.inr (Int32.not_le.mp c_13))]; rfl)
theorem iX5_since_X03 : ∀ w ∈ wsX00, w ∈ wsX5_since3 := by decide +kernel
theorem iX5_since_X33 : ∀ w ∈ wsX30, w ∈ wsX5_since3 := by decide +kernel
theorem iX5_since_X53 : ∀ w ∈ wsX50, w ∈ wsX5_since3 := by decide +kernel
theorem X5_since_hwd03 : (.fieldLink RX5 29 "SignatureSpans" "changes" "LSignatureSpans$Changes;" : Cond) ∈ wsX5_since3 := by decide +kernel
theorem X5_since_hwd13 : (.fieldLink RX5 107 "SignatureSpans$Changes" "count" "I" : Cond) ∈ wsX5_since3 := by decide +kernel
theorem X5_since_hwd23 : (.fieldLink RX5 195 "SignatureSpans$Signature" "changesBefore" "I" : Cond) ∈ wsX5_since3 := by decide +kernel
theorem X5_since_hwd33 : (.classLink RX5 58 "java/lang/IndexOutOfBoundsException" : Cond) ∈ wsX5_since3 := by decide +kernel
theorem X5_since_hwd43 : (.initialized "java/lang/IndexOutOfBoundsException" : Cond) ∈ wsX5_since3 := by decide +kernel
theorem X5_since_hwd53 : (.fieldLink RX5 200 "SignatureSpans$Changes" "kinds" "[I" : Cond) ∈ wsX5_since3 := by decide +kernel
theorem X5_since_hwd63 : (.fieldLink RX5 203 "SignatureSpans$Changes" "fields" "[I" : Cond) ∈ wsX5_since3 := by decide +kernel
theorem xX5_since_623 : ∀ w ∈ (vx_atS RX5 62 "java/lang/IndexOutOfBoundsException" ["java/lang/RuntimeException", "java/lang/Exception"]).filter goodWord, w ∈ wsX5_since3 := by decide +kernel
set_option maxHeartbeats 4000000 in
set_option maxRecDepth 100000 in
/-- since -/
theorem c_X5_since3 (l : Launch) (hl0 : l.stackTraces = false) (D : va_G) (h fa ap aa ac at9 ah sz cn : Nat) (sf : Int32) (hs dw sa cf ct pa pb en cb cl lv : Nat) (ve ak lf : Int32) (ti : Int64) (i : Nat) (sg : Nat → Option Nat) (hi : i < cn) (hcn : cn ≤ 8) (hsg : sg i = some hs) (ck cg ch : Nat) (kd fd : Nat → Nat) (x w : Int32) (hcb : cb ≤ ch) (hch : ch ≤ 40) (hlv : lv ≤ 3) (hkd : ∀ k, k < ch → kd k < 4) : kX (S := Unit) l yX5_since wsX5_since3 ({ frames := 9, cells := 1, slots := 6, locals := 220 }) 1 6 D [.ref h, .int (nI i), .int x, .int w] [(h, .inr (5, [.ref fa, .int (nI sz), .ref ap, .ref aa, .int (nI cn), .int sf, .ref ac, .ref at9, .ref ah])), (aa, .inl (D.1 24, 8, .inr (.inr (.inr (.inr sg))))), (hs, .inr (3, [.int (nI pa), .int (nI pb), .int (nI en), .int ve, .long ti, .int (nI cb), .ref dw, .ref sa, .ref cf, .ref ct, .int (nI cl), .int ak, .int lf, .int (nI lv)])), (ac, .inr (0, [.ref ck, .ref cg, .int (nI ch)])), (ck, .inl (D.1 20, 40, .inl (fun j => nI (kd j)))), (cg, .inl (D.1 20, 40, .inl (fun j => nI (fd j))))] (kEx [kNse, kIob] (kcSince x w (ch - cb))) (fun _ => some (.int (kaSince x w ch cb kd fd ak lv (kBit lf)))) (fun _ => [(h, .inr (5, [.ref fa, .int (nI sz), .ref ap, .ref aa, .int (nI cn), .int sf, .ref ac, .ref at9, .ref ah])), (aa, .inl (D.1 24, 8, .inr (.inr (.inr (.inr sg))))), (hs, .inr (3, [.int (nI pa), .int (nI pb), .int (nI en), .int ve, .long ti, .int (nI cb), .ref dw, .ref sa, .ref cf, .ref ct, .int (nI cl), .int ak, .int lf, .int (nI lv)])), (ac, .inr (0, [.ref ck, .ref cg, .int (nI ch)])), (ck, .inl (D.1 20, 40, .inl (fun j => nI (kd j)))), (cg, .inl (D.1 20, 40, .inl (fun j => nI (fd j))))]) (fun _ => True) := by
  intro sz
  refine vx_ofW (cc := cX5_since) (maxL := 7) (ret := (some .int)) (by decide) rfl ?_
  intro p e s m args below meth c s₁ B hml hnoh hv
  obtain ⟨rfl, hsz, hP, hK, hD0, hE⟩ := hv
  have hx := B.exec
  have hb := B.bytes
  have hr := B.returns
  have hts := atoms_spec (ws := wsX5_since3) B.pre
  have hown : s.vm.findClass RX5 = some m.cls := findClass_of_methodNamed B.named
  have hlocks := B.notSynchronized
  subst hsz
  have hD := hD0.self (sz := s.heap.size)
  generalize hAe : va_A [(h, .inr (5, [.ref fa, .int (nI sz), .ref ap, .ref aa, .int (nI cn), .int sf, .ref ac, .ref at9, .ref ah])), (aa, .inl (D.1 24, 8, .inr (.inr (.inr (.inr sg))))), (hs, .inr (3, [.int (nI pa), .int (nI pb), .int (nI en), .int ve, .long ti, .int (nI cb), .ref dw, .ref sa, .ref cf, .ref ct, .int (nI cl), .int ak, .int lf, .int (nI lv)])), (ac, .inr (0, [.ref ck, .ref cg, .int (nI ch)])), (ck, .inl (D.1 20, 40, .inl (fun j => nI (kd j)))), (cg, .inl (D.1 20, 40, .inl (fun j => nI (fd j))))] s.heap.size = A at hD hE ⊢
  have hA : ∀ q : Nat, s.heap.size ≤ q → A q := fun q h => by rw [← hAe]; exact Or.inr h
  have hS : va_S A s.heap s.heap [] := va_S.rf
  have hl := lv_entry ([.ref h, .int (nI i), .int x, .int w]) (n := 7) (Nat.le_of_ble_eq_true rfl)
  have inX0 : ∀ w ∈ wsX00, w ∈ wsX5_since3 := iX5_since_X03
  have inX3 : ∀ w ∈ wsX30, w ∈ wsX5_since3 := iX5_since_X33
  have inX5 : ∀ w ∈ wsX50, w ∈ wsX5_since3 := iX5_since_X53
  have hwd0 := hts (.fieldLink RX5 29 "SignatureSpans" "changes" "LSignatureSpans$Changes;") X5_since_hwd03
  have hwd1 := hts (.fieldLink RX5 107 "SignatureSpans$Changes" "count" "I") X5_since_hwd13
  have hwd2 := hts (.fieldLink RX5 195 "SignatureSpans$Signature" "changesBefore" "I") X5_since_hwd23
  have hwd3 := hts (.classLink RX5 58 "java/lang/IndexOutOfBoundsException") X5_since_hwd33
  have hwd4 := hts (.initialized "java/lang/IndexOutOfBoundsException") X5_since_hwd43
  have hwd5 := hts (.fieldLink RX5 200 "SignatureSpans$Changes" "kinds" "[I") X5_since_hwd53
  have hwd6 := hts (.fieldLink RX5 203 "SignatureSpans$Changes" "fields" "[I") X5_since_hwd63
  have xw_62 := xX5_since_623
  refine kgenQ (fun Q hQ => ?_)
  rw [lg_entry_eq]
  generalize (lg_sl ([.ref h, .int (nI i), .int x, .int w]) ++ List.replicate (7 - (lg_sl ([.ref h, .int (nI i), .int x, .int w])).length) Slot.unset).toArray = ls at hl ⊢
  have hl : lv_has ls 7 [(0, .ref h), (1, .int (nI i)), (2, .int x), (3, .int w)] := hl
  refine lv_aload_n hx hb dX5_since_0 rfl (lv_at hl 0 rfl) ?_
  refine lv_iload_n hx hb dX5_since_1 rfl (lv_at hl 1 rfl) ?_
  refine kcV (C := RX5) (As := [.int (nI i)]) (rest := []) (ws := [(h, .inr (5, [.ref fa, .int (nI sz), .ref ap, .ref aa, .int (nI cn), .int sf, .ref ac, .ref at9, .ref ah])), (aa, .inl (D.1 24, 8, .inr (.inr (.inr (.inr sg)))))]) (wr := [(hs, .inr (3, [.int (nI pa), .int (nI pb), .int (nI en), .int ve, .long ti, .int (nI cb), .ref dw, .ref sa, .ref cf, .ref ct, .int (nI cl), .int ak, .int lf, .int (nI lv)])), (ac, .inr (0, [.ref ck, .ref cg, .int (nI ch)])), (ck, .inl (D.1 20, 40, .inl (fun j => nI (kd j)))), (cg, .inl (D.1 20, 40, .inl (fun j => nI (fd j))))]) ⟨hx, hb, hml, hown, hts⟩ (c_X5_signatureAt3 l D h fa ap aa ac at9 ah sz cn sf  i hs sg (by omega) (by omega) hsg) (cwV 1 hts gX5_since_X5_signatureAt3 rfl rfl rfl (by decide +kernel) ⟨Nat.le_of_ble_eq_true rfl, Nat.le_of_ble_eq_true rfl⟩) hK hE hP hD hS hA [0, 1] [2, 3, 4, 5] rfl rfl rfl rfl (by decide) 0 5 rfl rfl rfl rfl hl.1 rfl (Nat.le_of_ble_eq_true rfl) dX5_since_2 ⟨Nat.le_of_ble_eq_true rfl, Nat.le_of_ble_eq_true rfl⟩ (fun _ H locs hpo hP hD hS => ?_)
  have hP : va_P D kC [(hs, .inr (3, [.int (nI pa), .int (nI pb), .int (nI en), .int ve, .long ti, .int (nI cb), .ref dw, .ref sa, .ref cf, .ref ct, .int (nI cl), .int ak, .int lf, .int (nI lv)])), (ac, .inr (0, [.ref ck, .ref cg, .int (nI ch)])), (ck, .inl (D.1 20, 40, .inl (fun j => nI (kd j)))), (cg, .inl (D.1 20, 40, .inl (fun j => nI (fd j)))), (h, .inr (5, [.ref fa, .int (nI sz), .ref ap, .ref aa, .int (nI cn), .int sf, .ref ac, .ref at9, .ref ah])), (aa, .inl (D.1 24, 8, .inr (.inr (.inr (.inr sg)))))] _ := hP
  have hD : va_D A [(hs, .inr (3, [.int (nI pa), .int (nI pb), .int (nI en), .int ve, .long ti, .int (nI cb), .ref dw, .ref sa, .ref cf, .ref ct, .int (nI cl), .int ak, .int lf, .int (nI lv)])), (ac, .inr (0, [.ref ck, .ref cg, .int (nI ch)])), (ck, .inl (D.1 20, 40, .inl (fun j => nI (kd j)))), (cg, .inl (D.1 20, 40, .inl (fun j => nI (fd j)))), (h, .inr (5, [.ref fa, .int (nI sz), .ref ap, .ref aa, .int (nI cn), .int sf, .ref ac, .ref at9, .ref ah])), (aa, .inl (D.1 24, 8, .inr (.inr (.inr (.inr sg)))))] := hD
  refine W.eq (g2 := F0 m 5 ls [.ref hs]) rfl ?_
  refine W.widen (k := 0) (n := 0) (Nat.le_of_ble_eq_true rfl) (Nat.le_of_ble_eq_true rfl) ?_
  refine lv_astore (lv' := [(4, .ref hs), (0, .ref h), (1, .int (nI i)), (2, .int x), (3, .int w)]) hx hb dX5_since_5 hl (by decide) rfl (fun ls hl => ?_)
  refine lv_aload_n hx hb dX5_since_7 rfl (lv_at hl 1 rfl) ?_
  refine va_get (D := D) (ci := 5) (v := .ref ac) (C := RX5) (T := TX5) (N := 9) hx hb hts inX5 hown hK hP 4 rfl rfl 6 (by decide) hwd0 (fun _ h9 => h9) rfl dX5_since_8 ?_
  refine va_get (D := D) (ci := 0) (v := .int (nI ch)) (C := RX0) (T := TX0) (N := 3) hx hb hts inX0 hown hK hP 1 rfl rfl 2 (by decide) hwd1 (fun _ h9 => h9) rfl dX5_since_11 ?_
  refine lv_aload hx hb dX5_since_14 (lv_at hl 0 rfl) ?_
  refine va_get (D := D) (ci := 3) (v := .int (nI cb)) (C := RX3) (T := TX3) (N := 14) hx hb hts inX3 hown hK hP 0 rfl rfl 5 (by decide) hwd2 (fun _ h9 => h9) rfl dX5_since_16 ?_
  refine kn_isub hx hb (by omega) dX5_since_19 ?_
  refine lv_istore (lv' := [(5, .int (nI (ch - cb))), (4, .ref hs), (0, .ref h), (1, .int (nI i)), (2, .int x), (3, .int w)]) hx hb dX5_since_20 hl (by decide) rfl (fun ls hl => ?_)
  refine lv_iload_n hx hb dX5_since_22 rfl (lv_at hl 4 rfl) ?_
  refine lv_iconst (v := (-1 : Int32)) hx hb dX5_since_23 (by decide) ?_
  refine lv_icmp_ne (tgt := 30) hx hb dX5_since_24 (by decide) (fun c_24 => ?_) (fun c_24 => ?_)
  · refine lv_iload_n hx hb dX5_since_30 rfl (lv_at hl 4 rfl) ?_
    refine lv_if_lt (tgt := 49) hx hb dX5_since_31 (by decide) (fun c_31 => ?_) (fun c_31 => ?_)
    · rw [hQ]
      exact kx_throw (E := "java/lang/IndexOutOfBoundsException") (names := ["java/lang/RuntimeException", "java/lang/Exception"]) (ik := 58) (is := 198) (ic := 62) hx hb hl0 hnoh hown hts hK hE (hP.sub [4, 5, 0, 1, 2, 3] rfl) (hD.sub [4, 5, 0, 1, 2, 3] (by decide) rfl) hS hwd3 hwd4 (hE.2.2.2.1 (198, "no such change, or nothing of it") (by decide +kernel)) xw_62 (by decide +kernel) (by decide +kernel) (by decide +kernel) (by decide +kernel) (by rw [hml]; exact hl.1) dX5_since_49 dX5_since_52 dX5_since_53 dX5_since_55 dX5_since_58 (Nat.le_of_ble_eq_true rfl) (Nat.le_of_ble_eq_true rfl) ⟨Nat.le_of_ble_eq_true rfl, Nat.le_of_ble_eq_true rfl⟩ ⟨Nat.le_of_ble_eq_true rfl, Nat.le_of_ble_eq_true rfl⟩ hlocks (by rw [show kcSince x w (ch - cb) = 2 from (if_neg c_24).trans (if_pos (Or.inl c_31))]; rfl)
    · refine lv_iload_n hx hb dX5_since_34 rfl (lv_at hl 4 rfl) ?_
      refine lv_iload hx hb dX5_since_35 (lv_at hl 0 rfl) ?_
      refine lv_icmp_ge (tgt := 49) hx hb dX5_since_37 (by decide) (fun c_37 => ?_) (fun c_37 => ?_)
      · rw [hQ]
        exact kx_throw (E := "java/lang/IndexOutOfBoundsException") (names := ["java/lang/RuntimeException", "java/lang/Exception"]) (ik := 58) (is := 198) (ic := 62) hx hb hl0 hnoh hown hts hK hE (hP.sub [4, 5, 0, 1, 2, 3] rfl) (hD.sub [4, 5, 0, 1, 2, 3] (by decide) rfl) hS hwd3 hwd4 (hE.2.2.2.1 (198, "no such change, or nothing of it") (by decide +kernel)) xw_62 (by decide +kernel) (by decide +kernel) (by decide +kernel) (by decide +kernel) (by rw [hml]; exact hl.1) dX5_since_49 dX5_since_52 dX5_since_53 dX5_since_55 dX5_since_58 (Nat.le_of_ble_eq_true rfl) (Nat.le_of_ble_eq_true rfl) ⟨Nat.le_of_ble_eq_true rfl, Nat.le_of_ble_eq_true rfl⟩ ⟨Nat.le_of_ble_eq_true rfl, Nat.le_of_ble_eq_true rfl⟩ hlocks (by rw [show kcSince x w (ch - cb) = 2 from (if_neg c_24).trans (if_pos (Or.inr (Or.inl c_37)))]; rfl)
      · refine lv_iload_n hx hb dX5_since_40 rfl (lv_at hl 5 rfl) ?_
        refine lv_if_lt (tgt := 49) hx hb dX5_since_41 (by decide) (fun c_41 => ?_) (fun c_41 => ?_)
        · rw [hQ]
          exact kx_throw (E := "java/lang/IndexOutOfBoundsException") (names := ["java/lang/RuntimeException", "java/lang/Exception"]) (ik := 58) (is := 198) (ic := 62) hx hb hl0 hnoh hown hts hK hE (hP.sub [4, 5, 0, 1, 2, 3] rfl) (hD.sub [4, 5, 0, 1, 2, 3] (by decide) rfl) hS hwd3 hwd4 (hE.2.2.2.1 (198, "no such change, or nothing of it") (by decide +kernel)) xw_62 (by decide +kernel) (by decide +kernel) (by decide +kernel) (by decide +kernel) (by rw [hml]; exact hl.1) dX5_since_49 dX5_since_52 dX5_since_53 dX5_since_55 dX5_since_58 (Nat.le_of_ble_eq_true rfl) (Nat.le_of_ble_eq_true rfl) ⟨Nat.le_of_ble_eq_true rfl, Nat.le_of_ble_eq_true rfl⟩ ⟨Nat.le_of_ble_eq_true rfl, Nat.le_of_ble_eq_true rfl⟩ hlocks (by rw [show kcSince x w (ch - cb) = 2 from (if_neg c_24).trans (if_pos (Or.inr (Or.inr (Or.inl c_41))))]; rfl)
        · refine lv_iload_n hx hb dX5_since_44 rfl (lv_at hl 5 rfl) ?_
          refine lv_iconst (v := nI 2) hx hb dX5_since_45 (by decide) ?_
          refine lv_icmp_le (tgt := 59) hx hb dX5_since_46 (by decide) (fun c_46 => ?_) (fun c_46 => ?_)
          · obtain ⟨a, ha9, hxa⟩ := kNat_lt (x := x) (n := ch - cb) (by omega) c_31 c_37
            obtain ⟨b, hb9, hwb⟩ := kNat_le (x := w) (n := 2) (by omega) c_41 (Int32.not_lt.mpr c_46)
            have hax : kN x = a := by rw [hxa]; exact kN_nI (by omega)
            have hk4 := hkd (cb + a) (by omega)
            refine lv_aload hx hb dX5_since_59 (lv_at hl 1 rfl) ?_
            refine va_get (D := D) (ci := 3) (v := .int (nI cb)) (C := RX3) (T := TX3) (N := 14) hx hb hts inX3 hown hK hP 0 rfl rfl 5 (by decide) hwd2 (fun _ h9 => h9) rfl dX5_since_61 ?_
            refine lv_iload_n hx hb dX5_since_64 rfl (lv_at hl 4 rfl) ?_
            refine kt_i (v' := nI a) hxa ?_
            refine kn_iadd hx hb dX5_since_65 ?_
            refine lv_istore (lv' := [(6, .int (nI (cb + a))), (5, .int (nI (ch - cb))), (4, .ref hs), (0, .ref h), (1, .int (nI i)), (2, .int x), (3, .int w)]) hx hb dX5_since_66 hl (by decide) rfl (fun ls hl => ?_)
            refine lv_iload_n hx hb dX5_since_68 rfl (lv_at hl 6 rfl) ?_
            refine kt_i (v' := nI b) hwb ?_
            refine kn_if_ne (tgt := 83) hx hb (by omega) dX5_since_69 (by decide) (fun c_69 => ?_) (fun c_69 => ?_)
            · refine lv_iload_n hx hb dX5_since_83 rfl (lv_at hl 6 rfl) ?_
              refine kt_i (v' := nI b) hwb ?_
              refine lv_iconst (v := nI 1) hx hb dX5_since_84 (by decide) ?_
              refine kn_icmp_ne (tgt := 99) hx hb (by omega) (by omega) dX5_since_85 (by decide) (fun c_85 => ?_) (fun c_85 => ?_)
              · refine lv_aload hx hb dX5_since_99 (lv_at hl 2 rfl) ?_
                refine lv_aload_n hx hb dX5_since_101 rfl (lv_at hl 3 rfl) ?_
                refine va_get (D := D) (ci := 5) (v := .ref ac) (C := RX5) (T := TX5) (N := 9) hx hb hts inX5 hown hK hP 4 rfl rfl 6 (by decide) hwd0 (fun _ h9 => h9) rfl dX5_since_102 ?_
                refine va_get (D := D) (ci := 0) (v := .ref ck) (C := RX0) (T := TX0) (N := 3) hx hb hts inX0 hown hK hP 1 rfl rfl 0 (by decide) hwd5 (fun _ h9 => h9) rfl dX5_since_105 ?_
                refine lv_iload hx hb dX5_since_108 (lv_at hl 0 rfl) ?_
                refine kn_iald hx hb hK hP 2 0 rfl rfl (i := cb + a) (by omega) (by decide) dX5_since_110 ?_
                refine lv_aload_n hx hb dX5_since_111 rfl (lv_at hl 3 rfl) ?_
                refine va_get (D := D) (ci := 5) (v := .ref ac) (C := RX5) (T := TX5) (N := 9) hx hb hts inX5 hown hK hP 4 rfl rfl 6 (by decide) hwd0 (fun _ h9 => h9) rfl dX5_since_112 ?_
                refine va_get (D := D) (ci := 0) (v := .ref cg) (C := RX0) (T := TX0) (N := 3) hx hb hts inX0 hown hK hP 1 rfl rfl 1 (by decide) hwd6 (fun _ h9 => h9) rfl dX5_since_115 ?_
                refine lv_iload hx hb dX5_since_118 (lv_at hl 0 rfl) ?_
                refine kn_iald hx hb hK hP 3 0 rfl rfl (i := cb + a) (by omega) (by decide) dX5_since_120 ?_
                refine kcV (C := RX3) (As := [.int (nI (kd (cb + a))), .int (nI (fd (cb + a)))]) (rest := []) (ws := [(hs, .inr (3, [.int (nI pa), .int (nI pb), .int (nI en), .int ve, .long ti, .int (nI cb), .ref dw, .ref sa, .ref cf, .ref ct, .int (nI cl), .int ak, .int lf, .int (nI lv)]))]) (wr := [(ac, .inr (0, [.ref ck, .ref cg, .int (nI ch)])), (ck, .inl (D.1 20, 40, .inl (fun j => nI (kd j)))), (cg, .inl (D.1 20, 40, .inl (fun j => nI (fd j)))), (h, .inr (5, [.ref fa, .int (nI sz), .ref ap, .ref aa, .int (nI cn), .int sf, .ref ac, .ref at9, .ref ah])), (aa, .inl (D.1 24, 8, .inr (.inr (.inr (.inr sg)))))]) ⟨hx, hb, hml, hown, hts⟩ (c_X3_allows l D hs dw sa cf ct pa pb en cb cl lv ve ak lf ti  (kd (cb + a)) (fd (cb + a)) (by omega) (by omega)) (cwV 2 hts gX5_since_X3_allows3 rfl rfl rfl (by decide +kernel) ⟨Nat.le_of_ble_eq_true rfl, Nat.le_of_ble_eq_true rfl⟩) hK hE hP hD hS hA [0] [1, 2, 3, 4, 5] rfl rfl rfl rfl (by decide) 0 3 rfl rfl rfl rfl hl.1 rfl (Nat.le_of_ble_eq_true rfl) dX5_since_121 ⟨Nat.le_of_ble_eq_true rfl, Nat.le_of_ble_eq_true rfl⟩ (fun _ H locs hpo hP hD hS => ?_)
                have hP : va_P D kC [(ac, .inr (0, [.ref ck, .ref cg, .int (nI ch)])), (ck, .inl (D.1 20, 40, .inl (fun j => nI (kd j)))), (cg, .inl (D.1 20, 40, .inl (fun j => nI (fd j)))), (h, .inr (5, [.ref fa, .int (nI sz), .ref ap, .ref aa, .int (nI cn), .int sf, .ref ac, .ref at9, .ref ah])), (aa, .inl (D.1 24, 8, .inr (.inr (.inr (.inr sg))))), (hs, .inr (3, [.int (nI pa), .int (nI pb), .int (nI en), .int ve, .long ti, .int (nI cb), .ref dw, .ref sa, .ref cf, .ref ct, .int (nI cl), .int ak, .int lf, .int (nI lv)]))] _ := hP
                have hD : va_D A [(ac, .inr (0, [.ref ck, .ref cg, .int (nI ch)])), (ck, .inl (D.1 20, 40, .inl (fun j => nI (kd j)))), (cg, .inl (D.1 20, 40, .inl (fun j => nI (fd j)))), (h, .inr (5, [.ref fa, .int (nI sz), .ref ap, .ref aa, .int (nI cn), .int sf, .ref ac, .ref at9, .ref ah])), (aa, .inl (D.1 24, 8, .inr (.inr (.inr (.inr sg))))), (hs, .inr (3, [.int (nI pa), .int (nI pb), .int (nI en), .int ve, .long ti, .int (nI cb), .ref dw, .ref sa, .ref cf, .ref ct, .int (nI cl), .int ak, .int lf, .int (nI lv)]))] := hD
                refine W.eq (g2 := F0 m 124 ls [.int (kB (kMay ak lv (kBit lf (fd (cb + a))) (kd (cb + a))))]) rfl ?_
                refine W.widen (k := 0) (n := 0) (Nat.le_of_ble_eq_true rfl) (Nat.le_of_ble_eq_true rfl) ?_
                refine lv_if_eq (tgt := 131) hx hb dX5_since_124 (by decide) (fun c_124 => ?_) (fun c_124 => ?_)
                · have c_124 := kB_e0.mp c_124
                  refine lv_iconst (v := nI 0) hx hb dX5_since_131 (by decide) ?_
                  rw [hQ]
                  refine vx_ret ?_
                  refine W.widen (k := 1) (n := 6) (Nat.le_of_ble_eq_true rfl) (Nat.le_of_ble_eq_true rfl) ?_
                  have hP9 : va_P D kC [(h, .inr (5, [.ref fa, .int (nI sz), .ref ap, .ref aa, .int (nI cn), .int sf, .ref ac, .ref at9, .ref ah])), (aa, .inl (D.1 24, 8, .inr (.inr (.inr (.inr sg))))), (hs, .inr (3, [.int (nI pa), .int (nI pb), .int (nI en), .int ve, .long ti, .int (nI cb), .ref dw, .ref sa, .ref cf, .ref ct, .int (nI cl), .int ak, .int lf, .int (nI lv)])), (ac, .inr (0, [.ref ck, .ref cg, .int (nI ch)])), (ck, .inl (D.1 20, 40, .inl (fun j => nI (kd j)))), (cg, .inl (D.1 20, 40, .inl (fun j => nI (fd j))))] _ := (hP.sub [3, 4, 5, 0, 1, 2] rfl)
                  have hD9 : va_D A [(h, .inr (5, [.ref fa, .int (nI sz), .ref ap, .ref aa, .int (nI cn), .int sf, .ref ac, .ref at9, .ref ah])), (aa, .inl (D.1 24, 8, .inr (.inr (.inr (.inr sg))))), (hs, .inr (3, [.int (nI pa), .int (nI pb), .int (nI en), .int ve, .long ti, .int (nI cb), .ref dw, .ref sa, .ref cf, .ref ct, .int (nI cl), .int ak, .int lf, .int (nI lv)])), (ac, .inr (0, [.ref ck, .ref cg, .int (nI ch)])), (ck, .inl (D.1 20, 40, .inl (fun j => nI (kd j)))), (cg, .inl (D.1 20, 40, .inl (fun j => nI (fd j))))] := (hD.sub [3, 4, 5, 0, 1, 2] (by decide) rfl)
                  exact W.iret (v := nI 0) hx hb hr (fun t ht hW => ⟨by rw [show kcSince x w (ch - cb) = 0 from (if_neg c_24).trans (if_neg (fun q => q.elim c_31 (fun q => q.elim c_37 (fun q => q.elim c_41 (Int32.not_lt.mpr c_46)))))]; rfl, ⟨⟨(), congrArg (fun z => Outcome.returned (some (Value.int z))) (by unfold kaSince; rw [if_neg c_24, hax, hwb]; rw [if_neg (by rw [nI_eq (by omega) (by omega)]; omega), if_neg (by rw [nI_eq (by omega) (by omega)]; omega)]; exact kB_f c_124), trivial, by rw [ht]; exact hP9, va_K.moved hW.alike hK, hD9⟩, hS.F ht⟩⟩) hS.2.2 dX5_since_132
                · have c_124 := kB_n0.mp c_124
                  refine lv_iconst (v := nI 1) hx hb dX5_since_127 (by decide) ?_
                  refine lv_goto (tgt := 132) hx hb dX5_since_128 (by decide) ?_
                  rw [hQ]
                  refine vx_ret ?_
                  refine W.widen (k := 1) (n := 6) (Nat.le_of_ble_eq_true rfl) (Nat.le_of_ble_eq_true rfl) ?_
                  have hP9 : va_P D kC [(h, .inr (5, [.ref fa, .int (nI sz), .ref ap, .ref aa, .int (nI cn), .int sf, .ref ac, .ref at9, .ref ah])), (aa, .inl (D.1 24, 8, .inr (.inr (.inr (.inr sg))))), (hs, .inr (3, [.int (nI pa), .int (nI pb), .int (nI en), .int ve, .long ti, .int (nI cb), .ref dw, .ref sa, .ref cf, .ref ct, .int (nI cl), .int ak, .int lf, .int (nI lv)])), (ac, .inr (0, [.ref ck, .ref cg, .int (nI ch)])), (ck, .inl (D.1 20, 40, .inl (fun j => nI (kd j)))), (cg, .inl (D.1 20, 40, .inl (fun j => nI (fd j))))] _ := (hP.sub [3, 4, 5, 0, 1, 2] rfl)
                  have hD9 : va_D A [(h, .inr (5, [.ref fa, .int (nI sz), .ref ap, .ref aa, .int (nI cn), .int sf, .ref ac, .ref at9, .ref ah])), (aa, .inl (D.1 24, 8, .inr (.inr (.inr (.inr sg))))), (hs, .inr (3, [.int (nI pa), .int (nI pb), .int (nI en), .int ve, .long ti, .int (nI cb), .ref dw, .ref sa, .ref cf, .ref ct, .int (nI cl), .int ak, .int lf, .int (nI lv)])), (ac, .inr (0, [.ref ck, .ref cg, .int (nI ch)])), (ck, .inl (D.1 20, 40, .inl (fun j => nI (kd j)))), (cg, .inl (D.1 20, 40, .inl (fun j => nI (fd j))))] := (hD.sub [3, 4, 5, 0, 1, 2] (by decide) rfl)
                  exact W.iret (v := nI 1) hx hb hr (fun t ht hW => ⟨by rw [show kcSince x w (ch - cb) = 0 from (if_neg c_24).trans (if_neg (fun q => q.elim c_31 (fun q => q.elim c_37 (fun q => q.elim c_41 (Int32.not_lt.mpr c_46)))))]; rfl, ⟨⟨(), congrArg (fun z => Outcome.returned (some (Value.int z))) (by unfold kaSince; rw [if_neg c_24, hax, hwb]; rw [if_neg (by rw [nI_eq (by omega) (by omega)]; omega), if_neg (by rw [nI_eq (by omega) (by omega)]; omega)]; exact kB_t c_124), trivial, by rw [ht]; exact hP9, va_K.moved hW.alike hK, hD9⟩, hS.F ht⟩⟩) hS.2.2 dX5_since_132
              · refine lv_aload_n hx hb dX5_since_88 rfl (lv_at hl 3 rfl) ?_
                refine va_get (D := D) (ci := 5) (v := .ref ac) (C := RX5) (T := TX5) (N := 9) hx hb hts inX5 hown hK hP 4 rfl rfl 6 (by decide) hwd0 (fun _ h9 => h9) rfl dX5_since_89 ?_
                refine va_get (D := D) (ci := 0) (v := .ref cg) (C := RX0) (T := TX0) (N := 3) hx hb hts inX0 hown hK hP 1 rfl rfl 1 (by decide) hwd6 (fun _ h9 => h9) rfl dX5_since_92 ?_
                refine lv_iload hx hb dX5_since_95 (lv_at hl 0 rfl) ?_
                refine kn_iald hx hb hK hP 3 0 rfl rfl (i := cb + a) (by omega) (by decide) dX5_since_97 ?_
                rw [hQ]
                refine vx_ret ?_
                refine W.widen (k := 1) (n := 6) (Nat.le_of_ble_eq_true rfl) (Nat.le_of_ble_eq_true rfl) ?_
                have hP9 : va_P D kC [(h, .inr (5, [.ref fa, .int (nI sz), .ref ap, .ref aa, .int (nI cn), .int sf, .ref ac, .ref at9, .ref ah])), (aa, .inl (D.1 24, 8, .inr (.inr (.inr (.inr sg))))), (hs, .inr (3, [.int (nI pa), .int (nI pb), .int (nI en), .int ve, .long ti, .int (nI cb), .ref dw, .ref sa, .ref cf, .ref ct, .int (nI cl), .int ak, .int lf, .int (nI lv)])), (ac, .inr (0, [.ref ck, .ref cg, .int (nI ch)])), (ck, .inl (D.1 20, 40, .inl (fun j => nI (kd j)))), (cg, .inl (D.1 20, 40, .inl (fun j => nI (fd j))))] _ := (hP.sub [4, 5, 0, 1, 2, 3] rfl)
                have hD9 : va_D A [(h, .inr (5, [.ref fa, .int (nI sz), .ref ap, .ref aa, .int (nI cn), .int sf, .ref ac, .ref at9, .ref ah])), (aa, .inl (D.1 24, 8, .inr (.inr (.inr (.inr sg))))), (hs, .inr (3, [.int (nI pa), .int (nI pb), .int (nI en), .int ve, .long ti, .int (nI cb), .ref dw, .ref sa, .ref cf, .ref ct, .int (nI cl), .int ak, .int lf, .int (nI lv)])), (ac, .inr (0, [.ref ck, .ref cg, .int (nI ch)])), (ck, .inl (D.1 20, 40, .inl (fun j => nI (kd j)))), (cg, .inl (D.1 20, 40, .inl (fun j => nI (fd j))))] := (hD.sub [4, 5, 0, 1, 2, 3] (by decide) rfl)
                exact W.iret (v := nI (fd (cb + a))) hx hb hr (fun t ht hW => ⟨by rw [show kcSince x w (ch - cb) = 0 from (if_neg c_24).trans (if_neg (fun q => q.elim c_31 (fun q => q.elim c_37 (fun q => q.elim c_41 (Int32.not_lt.mpr c_46)))))]; rfl, ⟨⟨(), congrArg (fun z => Outcome.returned (some (Value.int z))) (by unfold kaSince; rw [if_neg c_24, hax, hwb]; rw [if_neg (by rw [nI_eq (by omega) (by omega)]; omega), if_pos (by rw [c_85])]), trivial, by rw [ht]; exact hP9, va_K.moved hW.alike hK, hD9⟩, hS.F ht⟩⟩) hS.2.2 dX5_since_98
            · refine lv_aload_n hx hb dX5_since_72 rfl (lv_at hl 3 rfl) ?_
              refine va_get (D := D) (ci := 5) (v := .ref ac) (C := RX5) (T := TX5) (N := 9) hx hb hts inX5 hown hK hP 4 rfl rfl 6 (by decide) hwd0 (fun _ h9 => h9) rfl dX5_since_73 ?_
              refine va_get (D := D) (ci := 0) (v := .ref ck) (C := RX0) (T := TX0) (N := 3) hx hb hts inX0 hown hK hP 1 rfl rfl 0 (by decide) hwd5 (fun _ h9 => h9) rfl dX5_since_76 ?_
              refine lv_iload hx hb dX5_since_79 (lv_at hl 0 rfl) ?_
              refine kn_iald hx hb hK hP 2 0 rfl rfl (i := cb + a) (by omega) (by decide) dX5_since_81 ?_
              rw [hQ]
              refine vx_ret ?_
              refine W.widen (k := 1) (n := 6) (Nat.le_of_ble_eq_true rfl) (Nat.le_of_ble_eq_true rfl) ?_
              have hP9 : va_P D kC [(h, .inr (5, [.ref fa, .int (nI sz), .ref ap, .ref aa, .int (nI cn), .int sf, .ref ac, .ref at9, .ref ah])), (aa, .inl (D.1 24, 8, .inr (.inr (.inr (.inr sg))))), (hs, .inr (3, [.int (nI pa), .int (nI pb), .int (nI en), .int ve, .long ti, .int (nI cb), .ref dw, .ref sa, .ref cf, .ref ct, .int (nI cl), .int ak, .int lf, .int (nI lv)])), (ac, .inr (0, [.ref ck, .ref cg, .int (nI ch)])), (ck, .inl (D.1 20, 40, .inl (fun j => nI (kd j)))), (cg, .inl (D.1 20, 40, .inl (fun j => nI (fd j))))] _ := (hP.sub [4, 5, 0, 1, 2, 3] rfl)
              have hD9 : va_D A [(h, .inr (5, [.ref fa, .int (nI sz), .ref ap, .ref aa, .int (nI cn), .int sf, .ref ac, .ref at9, .ref ah])), (aa, .inl (D.1 24, 8, .inr (.inr (.inr (.inr sg))))), (hs, .inr (3, [.int (nI pa), .int (nI pb), .int (nI en), .int ve, .long ti, .int (nI cb), .ref dw, .ref sa, .ref cf, .ref ct, .int (nI cl), .int ak, .int lf, .int (nI lv)])), (ac, .inr (0, [.ref ck, .ref cg, .int (nI ch)])), (ck, .inl (D.1 20, 40, .inl (fun j => nI (kd j)))), (cg, .inl (D.1 20, 40, .inl (fun j => nI (fd j))))] := (hD.sub [4, 5, 0, 1, 2, 3] (by decide) rfl)
              exact W.iret (v := nI (kd (cb + a))) hx hb hr (fun t ht hW => ⟨by rw [show kcSince x w (ch - cb) = 0 from (if_neg c_24).trans (if_neg (fun q => q.elim c_31 (fun q => q.elim c_37 (fun q => q.elim c_41 (Int32.not_lt.mpr c_46)))))]; rfl, ⟨⟨(), congrArg (fun z => Outcome.returned (some (Value.int z))) (by unfold kaSince; rw [if_neg c_24, hax, hwb]; rw [if_pos (by rw [c_69])]), trivial, by rw [ht]; exact hP9, va_K.moved hW.alike hK, hD9⟩, hS.F ht⟩⟩) hS.2.2 dX5_since_82
          · rw [hQ]
            exact kx_throw (E := "java/lang/IndexOutOfBoundsException") (names := ["java/lang/RuntimeException", "java/lang/Exception"]) (ik := 58) (is := 198) (ic := 62) hx hb hl0 hnoh hown hts hK hE (hP.sub [4, 5, 0, 1, 2, 3] rfl) (hD.sub [4, 5, 0, 1, 2, 3] (by decide) rfl) hS hwd3 hwd4 (hE.2.2.2.1 (198, "no such change, or nothing of it") (by decide +kernel)) xw_62 (by decide +kernel) (by decide +kernel) (by decide +kernel) (by decide +kernel) (by rw [hml]; exact hl.1) dX5_since_49 dX5_since_52 dX5_since_53 dX5_since_55 dX5_since_58 (Nat.le_of_ble_eq_true rfl) (Nat.le_of_ble_eq_true rfl) ⟨Nat.le_of_ble_eq_true rfl, Nat.le_of_ble_eq_true rfl⟩ ⟨Nat.le_of_ble_eq_true rfl, Nat.le_of_ble_eq_true rfl⟩ hlocks (by rw [show kcSince x w (ch - cb) = 2 from (if_neg c_24).trans (if_pos (Or.inr (Or.inr (Or.inr (Int32.not_le.mp c_46)))))]; rfl)
  · refine lv_iload hx hb dX5_since_27 (lv_at hl 0 rfl) ?_
    rw [hQ]
    refine vx_ret ?_
    refine W.widen (k := 1) (n := 6) (Nat.le_of_ble_eq_true rfl) (Nat.le_of_ble_eq_true rfl) ?_
    have hP9 : va_P D kC [(h, .inr (5, [.ref fa, .int (nI sz), .ref ap, .ref aa, .int (nI cn), .int sf, .ref ac, .ref at9, .ref ah])), (aa, .inl (D.1 24, 8, .inr (.inr (.inr (.inr sg))))), (hs, .inr (3, [.int (nI pa), .int (nI pb), .int (nI en), .int ve, .long ti, .int (nI cb), .ref dw, .ref sa, .ref cf, .ref ct, .int (nI cl), .int ak, .int lf, .int (nI lv)])), (ac, .inr (0, [.ref ck, .ref cg, .int (nI ch)])), (ck, .inl (D.1 20, 40, .inl (fun j => nI (kd j)))), (cg, .inl (D.1 20, 40, .inl (fun j => nI (fd j))))] _ := (hP.sub [4, 5, 0, 1, 2, 3] rfl)
    have hD9 : va_D A [(h, .inr (5, [.ref fa, .int (nI sz), .ref ap, .ref aa, .int (nI cn), .int sf, .ref ac, .ref at9, .ref ah])), (aa, .inl (D.1 24, 8, .inr (.inr (.inr (.inr sg))))), (hs, .inr (3, [.int (nI pa), .int (nI pb), .int (nI en), .int ve, .long ti, .int (nI cb), .ref dw, .ref sa, .ref cf, .ref ct, .int (nI cl), .int ak, .int lf, .int (nI lv)])), (ac, .inr (0, [.ref ck, .ref cg, .int (nI ch)])), (ck, .inl (D.1 20, 40, .inl (fun j => nI (kd j)))), (cg, .inl (D.1 20, 40, .inl (fun j => nI (fd j))))] := (hD.sub [4, 5, 0, 1, 2, 3] (by decide) rfl)
    exact W.iret (v := nI (ch - cb)) hx hb hr (fun t ht hW => ⟨by rw [show kcSince x w (ch - cb) = 0 from if_pos c_24]; rfl, ⟨⟨(), congrArg (fun z => Outcome.returned (some (Value.int z))) (show nI (ch - cb) = kaSince x w ch cb kd fd ak lv (kBit lf) from (if_pos c_24).symm), trivial, by rw [ht]; exact hP9, va_K.moved hW.alike hK, hD9⟩, hS.F ht⟩⟩) hS.2.2 dX5_since_29
theorem iX5_digest_X33 : ∀ w ∈ wsX30, w ∈ wsX5_digest23 := by decide +kernel
theorem X5_digest_hwd03 : (.classLink RX5 209 "java/lang/ArrayIndexOutOfBoundsException" : Cond) ∈ wsX5_digest23 := by decide +kernel
theorem X5_digest_hwd13 : (.initialized "java/lang/ArrayIndexOutOfBoundsException" : Cond) ∈ wsX5_digest23 := by decide +kernel
theorem X5_digest_hwd23 : (.fieldLink RX5 125 "SignatureSpans$Signature" "digestWords" "[I" : Cond) ∈ wsX5_digest23 := by decide +kernel
theorem xX5_digest_2133 : ∀ w ∈ (vx_atS RX5 213 "java/lang/ArrayIndexOutOfBoundsException" ["java/lang/IndexOutOfBoundsException", "java/lang/RuntimeException", "java/lang/Exception"]).filter goodWord, w ∈ wsX5_digest23 := by decide +kernel
set_option maxHeartbeats 4000000 in
set_option maxRecDepth 100000 in
/-- digest -/
theorem c_X5_digest3 (l : Launch) (hl0 : l.stackTraces = false) (D : va_G) (h fa ap aa ac at9 ah sz cn : Nat) (sf : Int32) (hs dw sa cf ct pa pb en cb cl lv : Nat) (ve ak lf : Int32) (ti : Int64) (i : Nat) (sg : Nat → Option Nat) (hi : i < cn) (hcn : cn ≤ 8) (hsg : sg i = some hs) (dd : Nat → Int32) (x : Int32) : kX (S := Unit) l yX5_digest wsX5_digest23 ({ frames := 8, cells := 1, slots := 6, locals := 160 }) 1 6 D [.ref h, .int (nI i), .int x] [(h, .inr (5, [.ref fa, .int (nI sz), .ref ap, .ref aa, .int (nI cn), .int sf, .ref ac, .ref at9, .ref ah])), (aa, .inl (D.1 24, 8, .inr (.inr (.inr (.inr sg))))), (hs, .inr (3, [.int (nI pa), .int (nI pb), .int (nI en), .int ve, .long ti, .int (nI cb), .ref dw, .ref sa, .ref cf, .ref ct, .int (nI cl), .int ak, .int lf, .int (nI lv)])), (dw, .inl (D.1 20, 8, .inl dd))] (kEx [kNse, kAio] (kcDig x)) (fun _ => some (.int ((kShr (dd (kN x / 4)) (nI (24 - 8 * (kN x % 4)))).toInt8.toInt32))) (fun _ => [(h, .inr (5, [.ref fa, .int (nI sz), .ref ap, .ref aa, .int (nI cn), .int sf, .ref ac, .ref at9, .ref ah])), (aa, .inl (D.1 24, 8, .inr (.inr (.inr (.inr sg))))), (hs, .inr (3, [.int (nI pa), .int (nI pb), .int (nI en), .int ve, .long ti, .int (nI cb), .ref dw, .ref sa, .ref cf, .ref ct, .int (nI cl), .int ak, .int lf, .int (nI lv)])), (dw, .inl (D.1 20, 8, .inl dd))]) (fun _ => True) := by
  intro sz
  refine vx_ofW (cc := cX5_digest) (maxL := 4) (ret := (some .byte)) (by decide) rfl ?_
  intro p e s m args below meth c s₁ B hml hnoh hv
  obtain ⟨rfl, hsz, hP, hK, hD0, hE⟩ := hv
  have hx := B.exec
  have hb := B.bytes
  have hr := B.returns
  have hts := atoms_spec (ws := wsX5_digest23) B.pre
  have hown : s.vm.findClass RX5 = some m.cls := findClass_of_methodNamed B.named
  have hlocks := B.notSynchronized
  subst hsz
  have hD := hD0.self (sz := s.heap.size)
  generalize hAe : va_A [(h, .inr (5, [.ref fa, .int (nI sz), .ref ap, .ref aa, .int (nI cn), .int sf, .ref ac, .ref at9, .ref ah])), (aa, .inl (D.1 24, 8, .inr (.inr (.inr (.inr sg))))), (hs, .inr (3, [.int (nI pa), .int (nI pb), .int (nI en), .int ve, .long ti, .int (nI cb), .ref dw, .ref sa, .ref cf, .ref ct, .int (nI cl), .int ak, .int lf, .int (nI lv)])), (dw, .inl (D.1 20, 8, .inl dd))] s.heap.size = A at hD hE ⊢
  have hA : ∀ q : Nat, s.heap.size ≤ q → A q := fun q h => by rw [← hAe]; exact Or.inr h
  have hS : va_S A s.heap s.heap [] := va_S.rf
  have hl := lv_entry ([.ref h, .int (nI i), .int x]) (n := 4) (Nat.le_of_ble_eq_true rfl)
  have inX3 : ∀ w ∈ wsX30, w ∈ wsX5_digest23 := iX5_digest_X33
  have hwd0 := hts (.classLink RX5 209 "java/lang/ArrayIndexOutOfBoundsException") X5_digest_hwd03
  have hwd1 := hts (.initialized "java/lang/ArrayIndexOutOfBoundsException") X5_digest_hwd13
  have hwd2 := hts (.fieldLink RX5 125 "SignatureSpans$Signature" "digestWords" "[I") X5_digest_hwd23
  have xw_213 := xX5_digest_2133
  refine kgenQ (fun Q hQ => ?_)
  rw [lg_entry_eq]
  generalize (lg_sl ([.ref h, .int (nI i), .int x]) ++ List.replicate (4 - (lg_sl ([.ref h, .int (nI i), .int x])).length) Slot.unset).toArray = ls at hl ⊢
  have hl : lv_has ls 4 [(0, .ref h), (1, .int (nI i)), (2, .int x)] := hl
  refine lv_aload_n hx hb dX5_digest_0 rfl (lv_at hl 0 rfl) ?_
  refine lv_iload_n hx hb dX5_digest_1 rfl (lv_at hl 1 rfl) ?_
  refine kcV (C := RX5) (As := [.int (nI i)]) (rest := []) (ws := [(h, .inr (5, [.ref fa, .int (nI sz), .ref ap, .ref aa, .int (nI cn), .int sf, .ref ac, .ref at9, .ref ah])), (aa, .inl (D.1 24, 8, .inr (.inr (.inr (.inr sg)))))]) (wr := [(hs, .inr (3, [.int (nI pa), .int (nI pb), .int (nI en), .int ve, .long ti, .int (nI cb), .ref dw, .ref sa, .ref cf, .ref ct, .int (nI cl), .int ak, .int lf, .int (nI lv)])), (dw, .inl (D.1 20, 8, .inl dd))]) ⟨hx, hb, hml, hown, hts⟩ (c_X5_signatureAt3 l D h fa ap aa ac at9 ah sz cn sf  i hs sg (by omega) (by omega) hsg) (cwV 1 hts gX5_digest2_X5_signatureAt3 rfl rfl rfl (by decide +kernel) ⟨Nat.le_of_ble_eq_true rfl, Nat.le_of_ble_eq_true rfl⟩) hK hE hP hD hS hA [0, 1] [2, 3] rfl rfl rfl rfl (by decide) 0 5 rfl rfl rfl rfl hl.1 rfl (Nat.le_of_ble_eq_true rfl) dX5_digest_2 ⟨Nat.le_of_ble_eq_true rfl, Nat.le_of_ble_eq_true rfl⟩ (fun _ H locs hpo hP hD hS => ?_)
  have hP : va_P D kC [(hs, .inr (3, [.int (nI pa), .int (nI pb), .int (nI en), .int ve, .long ti, .int (nI cb), .ref dw, .ref sa, .ref cf, .ref ct, .int (nI cl), .int ak, .int lf, .int (nI lv)])), (dw, .inl (D.1 20, 8, .inl dd)), (h, .inr (5, [.ref fa, .int (nI sz), .ref ap, .ref aa, .int (nI cn), .int sf, .ref ac, .ref at9, .ref ah])), (aa, .inl (D.1 24, 8, .inr (.inr (.inr (.inr sg)))))] _ := hP
  have hD : va_D A [(hs, .inr (3, [.int (nI pa), .int (nI pb), .int (nI en), .int ve, .long ti, .int (nI cb), .ref dw, .ref sa, .ref cf, .ref ct, .int (nI cl), .int ak, .int lf, .int (nI lv)])), (dw, .inl (D.1 20, 8, .inl dd)), (h, .inr (5, [.ref fa, .int (nI sz), .ref ap, .ref aa, .int (nI cn), .int sf, .ref ac, .ref at9, .ref ah])), (aa, .inl (D.1 24, 8, .inr (.inr (.inr (.inr sg)))))] := hD
  refine W.eq (g2 := F0 m 5 ls [.ref hs]) rfl ?_
  refine W.widen (k := 0) (n := 0) (Nat.le_of_ble_eq_true rfl) (Nat.le_of_ble_eq_true rfl) ?_
  refine lv_astore_n (lv' := [(3, .ref hs), (0, .ref h), (1, .int (nI i)), (2, .int x)]) hx hb dX5_digest_5 rfl hl (by decide) rfl (fun ls hl => ?_)
  refine lv_iload_n hx hb dX5_digest_6 rfl (lv_at hl 3 rfl) ?_
  refine lv_if_lt (tgt := 16) hx hb dX5_digest_7 (by decide) (fun c_7 => ?_) (fun c_7 => ?_)
  · rw [hQ]
    exact kx_throw (E := "java/lang/ArrayIndexOutOfBoundsException") (names := ["java/lang/IndexOutOfBoundsException", "java/lang/RuntimeException", "java/lang/Exception"]) (ik := 209) (is := 211) (ic := 213) hx hb hl0 hnoh hown hts hK hE (hP.sub [2, 3, 0, 1] rfl) (hD.sub [2, 3, 0, 1] (by decide) rfl) hS hwd0 hwd1 (hE.2.2.2.1 (211, "no such byte of a digest") (by decide +kernel)) xw_213 (by decide +kernel) (by decide +kernel) (by decide +kernel) (by decide +kernel) (by rw [hml]; exact hl.1) dX5_digest_16 dX5_digest_19 dX5_digest_20 dX5_digest_22 dX5_digest_25 (Nat.le_of_ble_eq_true rfl) (Nat.le_of_ble_eq_true rfl) ⟨Nat.le_of_ble_eq_true rfl, Nat.le_of_ble_eq_true rfl⟩ ⟨Nat.le_of_ble_eq_true rfl, Nat.le_of_ble_eq_true rfl⟩ hlocks (by rw [show kcDig x = 2 from if_pos (Or.inl c_7)]; rfl)
  · refine lv_iload_n hx hb dX5_digest_10 rfl (lv_at hl 3 rfl) ?_
    refine lv_bipush (v := nI 32) hx hb dX5_digest_11 (by decide) ?_
    refine lv_icmp_lt (tgt := 26) hx hb dX5_digest_13 (by decide) (fun c_13 => ?_) (fun c_13 => ?_)
    · obtain ⟨a, ha9, hxa⟩ := kNat_lt (x := x) (n := 32) (by omega) c_7 (Int32.not_le.mpr c_13)
      have hax : kN x = a := by rw [hxa]; exact kN_nI (by omega)
      refine lv_aload_n hx hb dX5_digest_26 rfl (lv_at hl 0 rfl) ?_
      refine va_get (D := D) (ci := 3) (v := .ref dw) (C := RX3) (T := TX3) (N := 14) hx hb hts inX3 hown hK hP 0 rfl rfl 6 (by decide) hwd2 (fun _ h9 => h9) rfl dX5_digest_27 ?_
      refine lv_iload_n hx hb dX5_digest_30 rfl (lv_at hl 3 rfl) ?_
      refine kt_i (v' := nI a) hxa ?_
      refine lv_iconst (v := nI 2) hx hb dX5_digest_31 (by decide) ?_
      refine lv_ishr hx hb dX5_digest_32 ?_
      refine kt_i (v' := nI (a / 4)) (pk_shrN (by omega) _ 2 (by decide)) ?_
      refine kn_iald hx hb hK hP 1 0 rfl rfl (i := a / 4) (by omega) (by decide) dX5_digest_33 ?_
      refine lv_bipush (v := nI 24) hx hb dX5_digest_34 (by decide) ?_
      refine lv_bipush (v := nI 8) hx hb dX5_digest_36 (by decide) ?_
      refine lv_iload_n hx hb dX5_digest_38 rfl (lv_at hl 3 rfl) ?_
      refine kt_i (v' := nI a) hxa ?_
      refine lv_iconst (v := nI 3) hx hb dX5_digest_39 (by decide) ?_
      refine lv_iand hx hb dX5_digest_40 ?_
      refine kt_i (v' := nI (a % 4)) (pk_andN (by omega) 2 (by decide)) ?_
      refine kn_imul hx hb dX5_digest_41 ?_
      refine kn_isub hx hb (by omega) dX5_digest_42 ?_
      refine lv_iushr (v := kShr (dd (a / 4)) (nI (24 - (8 * (a % 4))))) hx hb dX5_digest_43 rfl ?_
      refine lv_i2b (v := (kShr (dd (a / 4)) (nI (24 - (8 * (a % 4))))).toInt8.toInt32) hx hb dX5_digest_44 rfl ?_
      rw [hQ]
      refine vx_ret ?_
      refine W.widen (k := 1) (n := 6) (Nat.le_of_ble_eq_true rfl) (Nat.le_of_ble_eq_true rfl) ?_
      have hP9 : va_P D kC [(h, .inr (5, [.ref fa, .int (nI sz), .ref ap, .ref aa, .int (nI cn), .int sf, .ref ac, .ref at9, .ref ah])), (aa, .inl (D.1 24, 8, .inr (.inr (.inr (.inr sg))))), (hs, .inr (3, [.int (nI pa), .int (nI pb), .int (nI en), .int ve, .long ti, .int (nI cb), .ref dw, .ref sa, .ref cf, .ref ct, .int (nI cl), .int ak, .int lf, .int (nI lv)])), (dw, .inl (D.1 20, 8, .inl dd))] _ := (hP.sub [2, 3, 0, 1] rfl)
      have hD9 : va_D A [(h, .inr (5, [.ref fa, .int (nI sz), .ref ap, .ref aa, .int (nI cn), .int sf, .ref ac, .ref at9, .ref ah])), (aa, .inl (D.1 24, 8, .inr (.inr (.inr (.inr sg))))), (hs, .inr (3, [.int (nI pa), .int (nI pb), .int (nI en), .int ve, .long ti, .int (nI cb), .ref dw, .ref sa, .ref cf, .ref ct, .int (nI cl), .int ak, .int lf, .int (nI lv)])), (dw, .inl (D.1 20, 8, .inl dd))] := (hD.sub [2, 3, 0, 1] (by decide) rfl)
      exact W.zret (v := (kShr (dd (a / 4)) (nI (24 - (8 * (a % 4))))).toInt8.toInt32) hx hb hr (pk_nb _) (fun t ht hW => ⟨by rw [show kcDig x = 0 from if_neg (fun q => q.elim c_7 (fun z => z c_13))]; rfl, ⟨⟨(), congrArg (fun z => Outcome.returned (some (Value.int z))) (by rw [hax]), trivial, by rw [ht]; exact hP9, va_K.moved hW.alike hK, hD9⟩, hS.F ht⟩⟩) hS.2.2 dX5_digest_45
    · rw [hQ]
      exact kx_throw (E := "java/lang/ArrayIndexOutOfBoundsException") (names := ["java/lang/IndexOutOfBoundsException", "java/lang/RuntimeException", "java/lang/Exception"]) (ik := 209) (is := 211) (ic := 213) hx hb hl0 hnoh hown hts hK hE (hP.sub [2, 3, 0, 1] rfl) (hD.sub [2, 3, 0, 1] (by decide) rfl) hS hwd0 hwd1 (hE.2.2.2.1 (211, "no such byte of a digest") (by decide +kernel)) xw_213 (by decide +kernel) (by decide +kernel) (by decide +kernel) (by decide +kernel) (by rw [hml]; exact hl.1) dX5_digest_16 dX5_digest_19 dX5_digest_20 dX5_digest_22 dX5_digest_25 (Nat.le_of_ble_eq_true rfl) (Nat.le_of_ble_eq_true rfl) ⟨Nat.le_of_ble_eq_true rfl, Nat.le_of_ble_eq_true rfl⟩ ⟨Nat.le_of_ble_eq_true rfl, Nat.le_of_ble_eq_true rfl⟩ hlocks (by rw [show kcDig x = 2 from if_pos (Or.inr c_13)]; rfl)
theorem iX5_behind_X33 : ∀ w ∈ wsX30, w ∈ wsX5_behind3 := by decide +kernel
theorem iX5_behind_X53 : ∀ w ∈ wsX50, w ∈ wsX5_behind3 := by decide +kernel
theorem X5_behind_hwd03 : (.fieldLink RX5 47 "SignatureSpans" "size" "I" : Cond) ∈ wsX5_behind3 := by decide +kernel
theorem X5_behind_hwd13 : (.fieldLink RX5 214 "SignatureSpans$Signature" "end" "I" : Cond) ∈ wsX5_behind3 := by decide +kernel
set_option maxHeartbeats 4000000 in
set_option maxRecDepth 100000 in
/-- behind -/
theorem c_X5_behind3 (l : Launch) (D : va_G) (h fa ap aa ac at9 ah sz cn : Nat) (sf : Int32) (hs dw sa cf ct pa pb en cb cl lv : Nat) (ve ak lf : Int32) (ti : Int64) (i : Nat) (sg : Nat → Option Nat) (hi : i < cn) (hcn : cn ≤ 8) (hsg : sg i = some hs) (hen : en ≤ sz) (hsz9 : sz ≤ 1500) : kM (S := Unit) l yX5_behind wsX5_behind3 ({ frames := 8, cells := 0, slots := 0, locals := 160 }) 0 0 D [.ref h, .int (nI i)] [(h, .inr (5, [.ref fa, .int (nI sz), .ref ap, .ref aa, .int (nI cn), .int sf, .ref ac, .ref at9, .ref ah])), (aa, .inl (D.1 24, 8, .inr (.inr (.inr (.inr sg))))), (hs, .inr (3, [.int (nI pa), .int (nI pb), .int (nI en), .int ve, .long ti, .int (nI cb), .ref dw, .ref sa, .ref cf, .ref ct, .int (nI cl), .int ak, .int lf, .int (nI lv)]))] (fun _ => some (.long (lN (sz - en)))) (fun _ => [(h, .inr (5, [.ref fa, .int (nI sz), .ref ap, .ref aa, .int (nI cn), .int sf, .ref ac, .ref at9, .ref ah])), (aa, .inl (D.1 24, 8, .inr (.inr (.inr (.inr sg))))), (hs, .inr (3, [.int (nI pa), .int (nI pb), .int (nI en), .int ve, .long ti, .int (nI cb), .ref dw, .ref sa, .ref cf, .ref ct, .int (nI cl), .int ak, .int lf, .int (nI lv)]))]) (fun _ => True) := by
  intro sz
  refine Met.ofW (cc := cX5_behind) (maxL := 2) (ret := (some .long)) (by decide) rfl ?_
  intro p e s m args below meth c s₁ B hml hv
  obtain ⟨rfl, hsz, hP, hK, hD0, hE⟩ := hv
  have hx := B.exec
  have hb := B.bytes
  have hr := B.returns
  have hts := atoms_spec (ws := wsX5_behind3) B.pre
  have hown : s.vm.findClass RX5 = some m.cls := findClass_of_methodNamed B.named
  have hlocks := B.notSynchronized
  subst hsz
  have hD := hD0.self (sz := s.heap.size)
  generalize hAe : va_A [(h, .inr (5, [.ref fa, .int (nI sz), .ref ap, .ref aa, .int (nI cn), .int sf, .ref ac, .ref at9, .ref ah])), (aa, .inl (D.1 24, 8, .inr (.inr (.inr (.inr sg))))), (hs, .inr (3, [.int (nI pa), .int (nI pb), .int (nI en), .int ve, .long ti, .int (nI cb), .ref dw, .ref sa, .ref cf, .ref ct, .int (nI cl), .int ak, .int lf, .int (nI lv)]))] s.heap.size = A at hD hE ⊢
  have hA : ∀ q : Nat, s.heap.size ≤ q → A q := fun q h => by rw [← hAe]; exact Or.inr h
  have hS : va_S A s.heap s.heap [] := va_S.rf
  have hl := lv_entry ([.ref h, .int (nI i)]) (n := 2) (Nat.le_of_ble_eq_true rfl)
  have inX3 : ∀ w ∈ wsX30, w ∈ wsX5_behind3 := iX5_behind_X33
  have inX5 : ∀ w ∈ wsX50, w ∈ wsX5_behind3 := iX5_behind_X53
  have hwd0 := hts (.fieldLink RX5 47 "SignatureSpans" "size" "I") X5_behind_hwd03
  have hwd1 := hts (.fieldLink RX5 214 "SignatureSpans$Signature" "end" "I") X5_behind_hwd13
  refine kgenQ (fun Q hQ => ?_)
  rw [lg_entry_eq]
  generalize (lg_sl ([.ref h, .int (nI i)]) ++ List.replicate (2 - (lg_sl ([.ref h, .int (nI i)])).length) Slot.unset).toArray = ls at hl ⊢
  have hl : lv_has ls 2 [(0, .ref h), (1, .int (nI i))] := hl
  refine lv_aload_n hx hb dX5_behind_0 rfl (lv_at hl 0 rfl) ?_
  refine va_get (D := D) (ci := 5) (v := .int (nI sz)) (C := RX5) (T := TX5) (N := 9) hx hb hts inX5 hown hK hP 0 rfl rfl 1 (by decide) hwd0 (fun _ h9 => h9) rfl dX5_behind_1 ?_
  refine lv_aload_n hx hb dX5_behind_4 rfl (lv_at hl 0 rfl) ?_
  refine lv_iload_n hx hb dX5_behind_5 rfl (lv_at hl 1 rfl) ?_
  refine kcV (C := RX5) (As := [.int (nI i)]) (rest := [.int (nI sz)]) (ws := [(h, .inr (5, [.ref fa, .int (nI sz), .ref ap, .ref aa, .int (nI cn), .int sf, .ref ac, .ref at9, .ref ah])), (aa, .inl (D.1 24, 8, .inr (.inr (.inr (.inr sg)))))]) (wr := [(hs, .inr (3, [.int (nI pa), .int (nI pb), .int (nI en), .int ve, .long ti, .int (nI cb), .ref dw, .ref sa, .ref cf, .ref ct, .int (nI cl), .int ak, .int lf, .int (nI lv)]))]) ⟨hx, hb, hml, hown, hts⟩ (c_X5_signatureAt3 l D h fa ap aa ac at9 ah sz cn sf  i hs sg (by omega) (by omega) hsg) (cwV 1 hts gX5_behind_X5_signatureAt3 rfl rfl rfl (by decide +kernel) ⟨Nat.le_of_ble_eq_true rfl, Nat.le_of_ble_eq_true rfl⟩) hK hE hP hD hS hA [0, 1] [2] rfl rfl rfl rfl (by decide) 0 5 rfl rfl rfl rfl hl.1 rfl (Nat.le_of_ble_eq_true rfl) dX5_behind_6 ⟨Nat.le_of_ble_eq_true rfl, Nat.le_of_ble_eq_true rfl⟩ (fun _ H locs hpo hP hD hS => ?_)
  have hP : va_P D kC [(hs, .inr (3, [.int (nI pa), .int (nI pb), .int (nI en), .int ve, .long ti, .int (nI cb), .ref dw, .ref sa, .ref cf, .ref ct, .int (nI cl), .int ak, .int lf, .int (nI lv)])), (h, .inr (5, [.ref fa, .int (nI sz), .ref ap, .ref aa, .int (nI cn), .int sf, .ref ac, .ref at9, .ref ah])), (aa, .inl (D.1 24, 8, .inr (.inr (.inr (.inr sg)))))] _ := hP
  have hD : va_D A [(hs, .inr (3, [.int (nI pa), .int (nI pb), .int (nI en), .int ve, .long ti, .int (nI cb), .ref dw, .ref sa, .ref cf, .ref ct, .int (nI cl), .int ak, .int lf, .int (nI lv)])), (h, .inr (5, [.ref fa, .int (nI sz), .ref ap, .ref aa, .int (nI cn), .int sf, .ref ac, .ref at9, .ref ah])), (aa, .inl (D.1 24, 8, .inr (.inr (.inr (.inr sg)))))] := hD
  refine W.eq (g2 := F0 m 9 ls [.ref hs, .int (nI sz)]) rfl ?_
  refine W.widen (k := 0) (n := 0) (Nat.le_of_ble_eq_true rfl) (Nat.le_of_ble_eq_true rfl) ?_
  refine va_get (D := D) (ci := 3) (v := .int (nI en)) (C := RX3) (T := TX3) (N := 14) hx hb hts inX3 hown hK hP 0 rfl rfl 2 (by decide) hwd1 (fun _ h9 => h9) rfl dX5_behind_9 ?_
  refine kn_isub hx hb (by omega) dX5_behind_12 ?_
  refine lv_i2l (v := lN (sz - en)) hx hb dX5_behind_13 (nI_l (by omega)) ?_
  rw [hQ]
  have hP9 : va_P D kC [(h, .inr (5, [.ref fa, .int (nI sz), .ref ap, .ref aa, .int (nI cn), .int sf, .ref ac, .ref at9, .ref ah])), (aa, .inl (D.1 24, 8, .inr (.inr (.inr (.inr sg))))), (hs, .inr (3, [.int (nI pa), .int (nI pb), .int (nI en), .int ve, .long ti, .int (nI cb), .ref dw, .ref sa, .ref cf, .ref ct, .int (nI cl), .int ak, .int lf, .int (nI lv)]))] _ := (hP.sub [1, 2, 0] rfl)
  have hD9 : va_D A [(h, .inr (5, [.ref fa, .int (nI sz), .ref ap, .ref aa, .int (nI cn), .int sf, .ref ac, .ref at9, .ref ah])), (aa, .inl (D.1 24, 8, .inr (.inr (.inr (.inr sg))))), (hs, .inr (3, [.int (nI pa), .int (nI pb), .int (nI en), .int ve, .long ti, .int (nI cb), .ref dw, .ref sa, .ref cf, .ref ct, .int (nI cl), .int ak, .int lf, .int (nI lv)]))] := (hD.sub [1, 2, 0] (by decide) rfl)
  exact W.lret (v := lN (sz - en)) hx hb hr (fun t ht hW => ⟨⟨(), rfl, trivial, by rw [ht]; exact hP9, va_K.moved hW.alike hK, hD9⟩, hS.F ht⟩) hS.2.2 dX5_behind_14
theorem iX5_holds_X33 : ∀ w ∈ wsX30, w ∈ wsX5_holds3 := by decide +kernel
theorem iX5_holds_X53 : ∀ w ∈ wsX50, w ∈ wsX5_holds3 := by decide +kernel
theorem X5_holds_hwd03 : (.fieldLink RX5 43 "SignatureSpans" "sha" "LSignatureSpans$Sha256;" : Cond) ∈ wsX5_holds3 := by decide +kernel
theorem X5_holds_hwd13 : (.fieldLink RX5 125 "SignatureSpans$Signature" "digestWords" "[I" : Cond) ∈ wsX5_holds3 := by decide +kernel
theorem X5_holds_hwd23 : (.fieldLink RX5 147 "SignatureSpans$Signature" "verdict" "Z" : Cond) ∈ wsX5_holds3 := by decide +kernel
theorem X5_holds_hwd33 : (.fieldLink RX5 29 "SignatureSpans" "changes" "LSignatureSpans$Changes;" : Cond) ∈ wsX5_holds3 := by decide +kernel
set_option maxHeartbeats 4000000 in
set_option maxRecDepth 100000 in
/-- holds -/
theorem c_X5_holds3 (l : Launch) (D : va_G) (h fa ap aa ac at9 ah sz cn : Nat) (sf : Int32) (hs dw sa cf ct pa pb en cb cl lv : Nat) (ve ak lf : Int32) (ti : Int64) (i : Nat) (sg : Nat → Option Nat) (hi : i < cn) (hcn : cn ≤ 8) (hsg : sg i = some hs) (hm hw hc : Nat) (ln : Int32) (fl f wd sc : Nat → Int32) (dd : Nat → Int32) (ss f9 t9 : Nat → Int64) (ck cg ch : Nat) (kd fd : Nat → Nat) (hpb : pa ≤ pb) (hpe : pb ≤ en) (hen : en ≤ 1500) (hcl : cl ≤ 4) (hcb : cb ≤ ch) (hch : ch ≤ 40) (hlv : lv ≤ 3) (hkd : ∀ k, k < ch → kd k < 4) : kM (S := Int32 × (Nat → Int32) × (Nat → Int32) × (Nat → Int32)) l yX5_holds wsX5_holds3 ({ frames := 11, cells := 0, slots := 0, locals := 340 }) 0 0 D [.ref h, .int (nI i)] [(h, .inr (5, [.ref fa, .int (nI sz), .ref ap, .ref aa, .int (nI cn), .int sf, .ref ac, .ref at9, .ref ah])), (aa, .inl (D.1 24, 8, .inr (.inr (.inr (.inr sg))))), (hs, .inr (3, [.int (nI pa), .int (nI pb), .int (nI en), .int ve, .long ti, .int (nI cb), .ref dw, .ref sa, .ref cf, .ref ct, .int (nI cl), .int ak, .int lf, .int (nI lv)])), (dw, .inl (D.1 20, 8, .inl dd)), (sa, .inl (D.1 23, 4, .inr (.inl ss))), (cf, .inl (D.1 23, 4, .inr (.inl f9))), (ct, .inl (D.1 23, 4, .inr (.inl t9))), (ac, .inr (0, [.ref ck, .ref cg, .int (nI ch)])), (ck, .inl (D.1 20, 40, .inl (fun j => nI (kd j)))), (cg, .inl (D.1 20, 40, .inl (fun j => nI (fd j)))), (fa, .inl (D.1 21, 1500, .inl fl)), (ah, .inr (2, [.ref hm, .int ln, .ref hw, .ref hc])), (hm, .inl (D.1 21, 1536, .inl f)), (hw, .inl (D.1 20, 8, .inl wd)), (hc, .inl (D.1 20, 64, .inl sc))] (fun _ => some (.int (nI (kHo (kSF ss pa pb en) (kEq8 (kSha (kMb fl pa pb) (pa + en - pb)) dd) ve (decide (0 < cl) && kChn f9 t9 ti cl) (kAnyR (fun k => !kMay ak lv (kBit lf (fd k)) (kd k)) cb (ch - cb)))))) (fun u => [(h, .inr (5, [.ref fa, .int (nI sz), .ref ap, .ref aa, .int (nI cn), .int sf, .ref ac, .ref at9, .ref ah])), (aa, .inl (D.1 24, 8, .inr (.inr (.inr (.inr sg))))), (hs, .inr (3, [.int (nI pa), .int (nI pb), .int (nI en), .int ve, .long ti, .int (nI cb), .ref dw, .ref sa, .ref cf, .ref ct, .int (nI cl), .int ak, .int lf, .int (nI lv)])), (dw, .inl (D.1 20, 8, .inl dd)), (sa, .inl (D.1 23, 4, .inr (.inl ss))), (cf, .inl (D.1 23, 4, .inr (.inl f9))), (ct, .inl (D.1 23, 4, .inr (.inl t9))), (ac, .inr (0, [.ref ck, .ref cg, .int (nI ch)])), (ck, .inl (D.1 20, 40, .inl (fun j => nI (kd j)))), (cg, .inl (D.1 20, 40, .inl (fun j => nI (fd j)))), (fa, .inl (D.1 21, 1500, .inl fl)), (ah, .inr (2, [.ref hm, .int u.1, .ref hw, .ref hc])), (hm, .inl (D.1 21, 1536, .inl u.2.1)), (hw, .inl (D.1 20, 8, .inl u.2.2.1)), (hc, .inl (D.1 20, 64, .inl u.2.2.2))]) (fun _ => True) := by
  intro sz
  refine Met.ofW (cc := cX5_holds) (maxL := 4) (ret := (some .int)) (by decide) rfl ?_
  intro p e s m args below meth c s₁ B hml hv
  obtain ⟨rfl, hsz, hP, hK, hD0, hE⟩ := hv
  have hx := B.exec
  have hb := B.bytes
  have hr := B.returns
  have hts := atoms_spec (ws := wsX5_holds3) B.pre
  have hown : s.vm.findClass RX5 = some m.cls := findClass_of_methodNamed B.named
  have hlocks := B.notSynchronized
  subst hsz
  have hD := hD0.self (sz := s.heap.size)
  generalize hAe : va_A [(h, .inr (5, [.ref fa, .int (nI sz), .ref ap, .ref aa, .int (nI cn), .int sf, .ref ac, .ref at9, .ref ah])), (aa, .inl (D.1 24, 8, .inr (.inr (.inr (.inr sg))))), (hs, .inr (3, [.int (nI pa), .int (nI pb), .int (nI en), .int ve, .long ti, .int (nI cb), .ref dw, .ref sa, .ref cf, .ref ct, .int (nI cl), .int ak, .int lf, .int (nI lv)])), (dw, .inl (D.1 20, 8, .inl dd)), (sa, .inl (D.1 23, 4, .inr (.inl ss))), (cf, .inl (D.1 23, 4, .inr (.inl f9))), (ct, .inl (D.1 23, 4, .inr (.inl t9))), (ac, .inr (0, [.ref ck, .ref cg, .int (nI ch)])), (ck, .inl (D.1 20, 40, .inl (fun j => nI (kd j)))), (cg, .inl (D.1 20, 40, .inl (fun j => nI (fd j)))), (fa, .inl (D.1 21, 1500, .inl fl)), (ah, .inr (2, [.ref hm, .int ln, .ref hw, .ref hc])), (hm, .inl (D.1 21, 1536, .inl f)), (hw, .inl (D.1 20, 8, .inl wd)), (hc, .inl (D.1 20, 64, .inl sc))] s.heap.size = A at hD hE ⊢
  have hA : ∀ q : Nat, s.heap.size ≤ q → A q := fun q h => by rw [← hAe]; exact Or.inr h
  have hS : va_S A s.heap s.heap [] := va_S.rf
  have hl := lv_entry ([.ref h, .int (nI i)]) (n := 4) (Nat.le_of_ble_eq_true rfl)
  have inX3 : ∀ w ∈ wsX30, w ∈ wsX5_holds3 := iX5_holds_X33
  have inX5 : ∀ w ∈ wsX50, w ∈ wsX5_holds3 := iX5_holds_X53
  have hwd0 := hts (.fieldLink RX5 43 "SignatureSpans" "sha" "LSignatureSpans$Sha256;") X5_holds_hwd03
  have hwd1 := hts (.fieldLink RX5 125 "SignatureSpans$Signature" "digestWords" "[I") X5_holds_hwd13
  have hwd2 := hts (.fieldLink RX5 147 "SignatureSpans$Signature" "verdict" "Z") X5_holds_hwd23
  have hwd3 := hts (.fieldLink RX5 29 "SignatureSpans" "changes" "LSignatureSpans$Changes;") X5_holds_hwd33
  refine kgenQ (fun Q hQ => ?_)
  rw [lg_entry_eq]
  generalize (lg_sl ([.ref h, .int (nI i)]) ++ List.replicate (4 - (lg_sl ([.ref h, .int (nI i)])).length) Slot.unset).toArray = ls at hl ⊢
  have hl : lv_has ls 4 [(0, .ref h), (1, .int (nI i))] := hl
  refine lv_aload_n hx hb dX5_holds_0 rfl (lv_at hl 0 rfl) ?_
  refine lv_iload_n hx hb dX5_holds_1 rfl (lv_at hl 1 rfl) ?_
  refine kcV (C := RX5) (As := [.int (nI i)]) (rest := []) (ws := [(h, .inr (5, [.ref fa, .int (nI sz), .ref ap, .ref aa, .int (nI cn), .int sf, .ref ac, .ref at9, .ref ah])), (aa, .inl (D.1 24, 8, .inr (.inr (.inr (.inr sg)))))]) (wr := [(hs, .inr (3, [.int (nI pa), .int (nI pb), .int (nI en), .int ve, .long ti, .int (nI cb), .ref dw, .ref sa, .ref cf, .ref ct, .int (nI cl), .int ak, .int lf, .int (nI lv)])), (dw, .inl (D.1 20, 8, .inl dd)), (sa, .inl (D.1 23, 4, .inr (.inl ss))), (cf, .inl (D.1 23, 4, .inr (.inl f9))), (ct, .inl (D.1 23, 4, .inr (.inl t9))), (ac, .inr (0, [.ref ck, .ref cg, .int (nI ch)])), (ck, .inl (D.1 20, 40, .inl (fun j => nI (kd j)))), (cg, .inl (D.1 20, 40, .inl (fun j => nI (fd j)))), (fa, .inl (D.1 21, 1500, .inl fl)), (ah, .inr (2, [.ref hm, .int ln, .ref hw, .ref hc])), (hm, .inl (D.1 21, 1536, .inl f)), (hw, .inl (D.1 20, 8, .inl wd)), (hc, .inl (D.1 20, 64, .inl sc))]) ⟨hx, hb, hml, hown, hts⟩ (c_X5_signatureAt3 l D h fa ap aa ac at9 ah sz cn sf  i hs sg (by omega) (by omega) hsg) (cwV 1 hts gX5_holds_X5_signatureAt3 rfl rfl rfl (by decide +kernel) ⟨Nat.le_of_ble_eq_true rfl, Nat.le_of_ble_eq_true rfl⟩) hK hE hP hD hS hA [0, 1] [2, 3, 4, 5, 6, 7, 8, 9, 10, 11, 12, 13, 14] rfl rfl rfl rfl (by decide) 0 5 rfl rfl rfl rfl hl.1 rfl (Nat.le_of_ble_eq_true rfl) dX5_holds_2 ⟨Nat.le_of_ble_eq_true rfl, Nat.le_of_ble_eq_true rfl⟩ (fun _ H locs hpo hP hD hS => ?_)
  have hP : va_P D kC [(hs, .inr (3, [.int (nI pa), .int (nI pb), .int (nI en), .int ve, .long ti, .int (nI cb), .ref dw, .ref sa, .ref cf, .ref ct, .int (nI cl), .int ak, .int lf, .int (nI lv)])), (dw, .inl (D.1 20, 8, .inl dd)), (sa, .inl (D.1 23, 4, .inr (.inl ss))), (cf, .inl (D.1 23, 4, .inr (.inl f9))), (ct, .inl (D.1 23, 4, .inr (.inl t9))), (ac, .inr (0, [.ref ck, .ref cg, .int (nI ch)])), (ck, .inl (D.1 20, 40, .inl (fun j => nI (kd j)))), (cg, .inl (D.1 20, 40, .inl (fun j => nI (fd j)))), (fa, .inl (D.1 21, 1500, .inl fl)), (ah, .inr (2, [.ref hm, .int ln, .ref hw, .ref hc])), (hm, .inl (D.1 21, 1536, .inl f)), (hw, .inl (D.1 20, 8, .inl wd)), (hc, .inl (D.1 20, 64, .inl sc)), (h, .inr (5, [.ref fa, .int (nI sz), .ref ap, .ref aa, .int (nI cn), .int sf, .ref ac, .ref at9, .ref ah])), (aa, .inl (D.1 24, 8, .inr (.inr (.inr (.inr sg)))))] _ := hP
  have hD : va_D A [(hs, .inr (3, [.int (nI pa), .int (nI pb), .int (nI en), .int ve, .long ti, .int (nI cb), .ref dw, .ref sa, .ref cf, .ref ct, .int (nI cl), .int ak, .int lf, .int (nI lv)])), (dw, .inl (D.1 20, 8, .inl dd)), (sa, .inl (D.1 23, 4, .inr (.inl ss))), (cf, .inl (D.1 23, 4, .inr (.inl f9))), (ct, .inl (D.1 23, 4, .inr (.inl t9))), (ac, .inr (0, [.ref ck, .ref cg, .int (nI ch)])), (ck, .inl (D.1 20, 40, .inl (fun j => nI (kd j)))), (cg, .inl (D.1 20, 40, .inl (fun j => nI (fd j)))), (fa, .inl (D.1 21, 1500, .inl fl)), (ah, .inr (2, [.ref hm, .int ln, .ref hw, .ref hc])), (hm, .inl (D.1 21, 1536, .inl f)), (hw, .inl (D.1 20, 8, .inl wd)), (hc, .inl (D.1 20, 64, .inl sc)), (h, .inr (5, [.ref fa, .int (nI sz), .ref ap, .ref aa, .int (nI cn), .int sf, .ref ac, .ref at9, .ref ah])), (aa, .inl (D.1 24, 8, .inr (.inr (.inr (.inr sg)))))] := hD
  refine W.eq (g2 := F0 m 5 ls [.ref hs]) rfl ?_
  refine W.widen (k := 0) (n := 0) (Nat.le_of_ble_eq_true rfl) (Nat.le_of_ble_eq_true rfl) ?_
  refine lv_astore_n (lv' := [(2, .ref hs), (0, .ref h), (1, .int (nI i))]) hx hb dX5_holds_5 rfl hl (by decide) rfl (fun ls hl => ?_)
  refine lv_aload_n hx hb dX5_holds_6 rfl (lv_at hl 0 rfl) ?_
  refine kcV (C := RX3) (As := []) (rest := []) (ws := [(hs, .inr (3, [.int (nI pa), .int (nI pb), .int (nI en), .int ve, .long ti, .int (nI cb), .ref dw, .ref sa, .ref cf, .ref ct, .int (nI cl), .int ak, .int lf, .int (nI lv)])), (sa, .inl (D.1 23, 4, .inr (.inl ss)))]) (wr := [(dw, .inl (D.1 20, 8, .inl dd)), (cf, .inl (D.1 23, 4, .inr (.inl f9))), (ct, .inl (D.1 23, 4, .inr (.inl t9))), (ac, .inr (0, [.ref ck, .ref cg, .int (nI ch)])), (ck, .inl (D.1 20, 40, .inl (fun j => nI (kd j)))), (cg, .inl (D.1 20, 40, .inl (fun j => nI (fd j)))), (fa, .inl (D.1 21, 1500, .inl fl)), (ah, .inr (2, [.ref hm, .int ln, .ref hw, .ref hc])), (hm, .inl (D.1 21, 1536, .inl f)), (hw, .inl (D.1 20, 8, .inl wd)), (hc, .inl (D.1 20, 64, .inl sc)), (h, .inr (5, [.ref fa, .int (nI sz), .ref ap, .ref aa, .int (nI cn), .int sf, .ref ac, .ref at9, .ref ah])), (aa, .inl (D.1 24, 8, .inr (.inr (.inr (.inr sg)))))]) ⟨hx, hb, hml, hown, hts⟩ (c_X3_spanFault l D hs dw sa cf ct pa pb en cb cl lv ve ak lf ti ss (by omega) (by omega) (by omega)) (cwV 0 hts gX5_holds_X3_spanFault3 rfl rfl rfl (by decide +kernel) ⟨Nat.le_of_ble_eq_true rfl, Nat.le_of_ble_eq_true rfl⟩) hK hE hP hD hS hA [0, 2] [1, 3, 4, 5, 6, 7, 8, 9, 10, 11, 12, 13, 14] rfl rfl rfl rfl (by decide) 0 3 rfl rfl rfl rfl hl.1 rfl (Nat.le_of_ble_eq_true rfl) dX5_holds_7 ⟨Nat.le_of_ble_eq_true rfl, Nat.le_of_ble_eq_true rfl⟩ (fun _ H locs hpo hP hD hS => ?_)
  have hP : va_P D kC [(dw, .inl (D.1 20, 8, .inl dd)), (cf, .inl (D.1 23, 4, .inr (.inl f9))), (ct, .inl (D.1 23, 4, .inr (.inl t9))), (ac, .inr (0, [.ref ck, .ref cg, .int (nI ch)])), (ck, .inl (D.1 20, 40, .inl (fun j => nI (kd j)))), (cg, .inl (D.1 20, 40, .inl (fun j => nI (fd j)))), (fa, .inl (D.1 21, 1500, .inl fl)), (ah, .inr (2, [.ref hm, .int ln, .ref hw, .ref hc])), (hm, .inl (D.1 21, 1536, .inl f)), (hw, .inl (D.1 20, 8, .inl wd)), (hc, .inl (D.1 20, 64, .inl sc)), (h, .inr (5, [.ref fa, .int (nI sz), .ref ap, .ref aa, .int (nI cn), .int sf, .ref ac, .ref at9, .ref ah])), (aa, .inl (D.1 24, 8, .inr (.inr (.inr (.inr sg))))), (hs, .inr (3, [.int (nI pa), .int (nI pb), .int (nI en), .int ve, .long ti, .int (nI cb), .ref dw, .ref sa, .ref cf, .ref ct, .int (nI cl), .int ak, .int lf, .int (nI lv)])), (sa, .inl (D.1 23, 4, .inr (.inl ss)))] _ := hP
  have hD : va_D A [(dw, .inl (D.1 20, 8, .inl dd)), (cf, .inl (D.1 23, 4, .inr (.inl f9))), (ct, .inl (D.1 23, 4, .inr (.inl t9))), (ac, .inr (0, [.ref ck, .ref cg, .int (nI ch)])), (ck, .inl (D.1 20, 40, .inl (fun j => nI (kd j)))), (cg, .inl (D.1 20, 40, .inl (fun j => nI (fd j)))), (fa, .inl (D.1 21, 1500, .inl fl)), (ah, .inr (2, [.ref hm, .int ln, .ref hw, .ref hc])), (hm, .inl (D.1 21, 1536, .inl f)), (hw, .inl (D.1 20, 8, .inl wd)), (hc, .inl (D.1 20, 64, .inl sc)), (h, .inr (5, [.ref fa, .int (nI sz), .ref ap, .ref aa, .int (nI cn), .int sf, .ref ac, .ref at9, .ref ah])), (aa, .inl (D.1 24, 8, .inr (.inr (.inr (.inr sg))))), (hs, .inr (3, [.int (nI pa), .int (nI pb), .int (nI en), .int ve, .long ti, .int (nI cb), .ref dw, .ref sa, .ref cf, .ref ct, .int (nI cl), .int ak, .int lf, .int (nI lv)])), (sa, .inl (D.1 23, 4, .inr (.inl ss)))] := hD
  refine W.eq (g2 := F0 m 10 ls [.int (nI (kSF ss pa pb en))]) rfl ?_
  refine W.widen (k := 0) (n := 0) (Nat.le_of_ble_eq_true rfl) (Nat.le_of_ble_eq_true rfl) ?_
  refine lv_istore_n (lv' := [(3, .int (nI (kSF ss pa pb en))), (2, .ref hs), (0, .ref h), (1, .int (nI i))]) hx hb dX5_holds_10 rfl hl (by decide) rfl (fun ls hl => ?_)
  have hsf9 := kSF_le ss pa pb en
  refine lv_iload_n hx hb dX5_holds_11 rfl (lv_at hl 0 rfl) ?_
  refine kn_if_eq (tgt := 17) hx hb (by omega) dX5_holds_12 (by decide) (fun c_12 => ?_) (fun c_12 => ?_)
  · refine lv_aload_n hx hb dX5_holds_17 rfl (lv_at hl 2 rfl) ?_
    refine lv_aload_n hx hb dX5_holds_18 rfl (lv_at hl 1 rfl) ?_
    refine kcV (C := RX5) (As := [.ref hs]) (rest := []) (ws := [(h, .inr (5, [.ref fa, .int (nI sz), .ref ap, .ref aa, .int (nI cn), .int sf, .ref ac, .ref at9, .ref ah])), (fa, .inl (D.1 21, 1500, .inl fl)), (ah, .inr (2, [.ref hm, .int ln, .ref hw, .ref hc])), (hm, .inl (D.1 21, 1536, .inl f)), (hw, .inl (D.1 20, 8, .inl wd)), (hc, .inl (D.1 20, 64, .inl sc)), (hs, .inr (3, [.int (nI pa), .int (nI pb), .int (nI en), .int ve, .long ti, .int (nI cb), .ref dw, .ref sa, .ref cf, .ref ct, .int (nI cl), .int ak, .int lf, .int (nI lv)]))]) (wr := [(dw, .inl (D.1 20, 8, .inl dd)), (cf, .inl (D.1 23, 4, .inr (.inl f9))), (ct, .inl (D.1 23, 4, .inr (.inl t9))), (ac, .inr (0, [.ref ck, .ref cg, .int (nI ch)])), (ck, .inl (D.1 20, 40, .inl (fun j => nI (kd j)))), (cg, .inl (D.1 20, 40, .inl (fun j => nI (fd j)))), (aa, .inl (D.1 24, 8, .inr (.inr (.inr (.inr sg))))), (sa, .inl (D.1 23, 4, .inr (.inl ss)))]) ⟨hx, hb, hml, hown, hts⟩ (c_X5_hashSigned l D h fa ap aa ac at9 ah sz cn sf hm hw hc ln fl f wd sc hs dw sa cf ct pa pb en cb cl lv ve ak lf ti (by omega) (by omega) (by omega)) (cwV 1 hts gX5_holds_X5_hashSigned3 rfl rfl rfl (by decide +kernel) ⟨Nat.le_of_ble_eq_true rfl, Nat.le_of_ble_eq_true rfl⟩) hK hE hP hD hS hA [11, 6, 7, 8, 9, 10, 13] [0, 1, 2, 3, 4, 5, 12, 14] rfl rfl rfl rfl (by decide) 11 5 rfl rfl rfl rfl hl.1 rfl (Nat.le_of_ble_eq_true rfl) dX5_holds_19 ⟨Nat.le_of_ble_eq_true rfl, Nat.le_of_ble_eq_true rfl⟩ (fun ⟨mu19, wu19, su19⟩ H locs hpo hP hD hS => ?_)
    have hP : va_P D kC [(dw, .inl (D.1 20, 8, .inl dd)), (cf, .inl (D.1 23, 4, .inr (.inl f9))), (ct, .inl (D.1 23, 4, .inr (.inl t9))), (ac, .inr (0, [.ref ck, .ref cg, .int (nI ch)])), (ck, .inl (D.1 20, 40, .inl (fun j => nI (kd j)))), (cg, .inl (D.1 20, 40, .inl (fun j => nI (fd j)))), (aa, .inl (D.1 24, 8, .inr (.inr (.inr (.inr sg))))), (sa, .inl (D.1 23, 4, .inr (.inl ss))), (h, .inr (5, [.ref fa, .int (nI sz), .ref ap, .ref aa, .int (nI cn), .int sf, .ref ac, .ref at9, .ref ah])), (fa, .inl (D.1 21, 1500, .inl fl)), (ah, .inr (2, [.ref hm, .int (nI (pa + (en - pb))), .ref hw, .ref hc])), (hm, .inl (D.1 21, 1536, .inl mu19)), (hw, .inl (D.1 20, 8, .inl wu19)), (hc, .inl (D.1 20, 64, .inl su19)), (hs, .inr (3, [.int (nI pa), .int (nI pb), .int (nI en), .int ve, .long ti, .int (nI cb), .ref dw, .ref sa, .ref cf, .ref ct, .int (nI cl), .int ak, .int lf, .int (nI lv)]))] _ := hP
    have hD : va_D A [(dw, .inl (D.1 20, 8, .inl dd)), (cf, .inl (D.1 23, 4, .inr (.inl f9))), (ct, .inl (D.1 23, 4, .inr (.inl t9))), (ac, .inr (0, [.ref ck, .ref cg, .int (nI ch)])), (ck, .inl (D.1 20, 40, .inl (fun j => nI (kd j)))), (cg, .inl (D.1 20, 40, .inl (fun j => nI (fd j)))), (aa, .inl (D.1 24, 8, .inr (.inr (.inr (.inr sg))))), (sa, .inl (D.1 23, 4, .inr (.inl ss))), (h, .inr (5, [.ref fa, .int (nI sz), .ref ap, .ref aa, .int (nI cn), .int sf, .ref ac, .ref at9, .ref ah])), (fa, .inl (D.1 21, 1500, .inl fl)), (ah, .inr (2, [.ref hm, .int (nI (pa + (en - pb))), .ref hw, .ref hc])), (hm, .inl (D.1 21, 1536, .inl mu19)), (hw, .inl (D.1 20, 8, .inl wu19)), (hc, .inl (D.1 20, 64, .inl su19)), (hs, .inr (3, [.int (nI pa), .int (nI pb), .int (nI en), .int ve, .long ti, .int (nI cb), .ref dw, .ref sa, .ref cf, .ref ct, .int (nI cl), .int ak, .int lf, .int (nI lv)]))] := hD
    have hwu19 : ∀ j, j < 8 → wu19 j = kSha (kMb fl pa pb) (pa + en - pb) j := hpo
    refine W.eq (g2 := F0 m 22 ls []) rfl ?_
    refine W.widen (k := 0) (n := 0) (Nat.le_of_ble_eq_true rfl) (Nat.le_of_ble_eq_true rfl) ?_
    refine lv_aload_n hx hb dX5_holds_22 rfl (lv_at hl 2 rfl) ?_
    refine va_get (D := D) (ci := 5) (v := .ref ah) (C := RX5) (T := TX5) (N := 9) hx hb hts inX5 hown hK hP 8 rfl rfl 8 (by decide) hwd0 (fun _ h9 => h9) rfl dX5_holds_23 ?_
    refine lv_aload_n hx hb dX5_holds_26 rfl (lv_at hl 1 rfl) ?_
    refine va_get (D := D) (ci := 3) (v := .ref dw) (C := RX3) (T := TX3) (N := 14) hx hb hts inX3 hown hK hP 14 rfl rfl 6 (by decide) hwd1 (fun _ h9 => h9) rfl dX5_holds_27 ?_
    refine kcV (C := RX2) (As := [.ref dw]) (rest := []) (ws := [(ah, .inr (2, [.ref hm, .int (nI (pa + (en - pb))), .ref hw, .ref hc])), (hw, .inl (D.1 20, 8, .inl wu19)), (dw, .inl (D.1 20, 8, .inl dd))]) (wr := [(cf, .inl (D.1 23, 4, .inr (.inl f9))), (ct, .inl (D.1 23, 4, .inr (.inl t9))), (ac, .inr (0, [.ref ck, .ref cg, .int (nI ch)])), (ck, .inl (D.1 20, 40, .inl (fun j => nI (kd j)))), (cg, .inl (D.1 20, 40, .inl (fun j => nI (fd j)))), (aa, .inl (D.1 24, 8, .inr (.inr (.inr (.inr sg))))), (sa, .inl (D.1 23, 4, .inr (.inl ss))), (h, .inr (5, [.ref fa, .int (nI sz), .ref ap, .ref aa, .int (nI cn), .int sf, .ref ac, .ref at9, .ref ah])), (fa, .inl (D.1 21, 1500, .inl fl)), (hm, .inl (D.1 21, 1536, .inl mu19)), (hc, .inl (D.1 20, 64, .inl su19)), (hs, .inr (3, [.int (nI pa), .int (nI pb), .int (nI en), .int ve, .long ti, .int (nI cb), .ref dw, .ref sa, .ref cf, .ref ct, .int (nI cl), .int ak, .int lf, .int (nI lv)]))]) ⟨hx, hb, hml, hown, hts⟩ (c_X2_hasWords l D ah hm hw hc dw (nI (pa + (en - pb))) wu19 dd) (cwV 1 hts gX5_holds_X2_hasWords3 rfl rfl rfl (by decide +kernel) ⟨Nat.le_of_ble_eq_true rfl, Nat.le_of_ble_eq_true rfl⟩) hK hE hP hD hS hA [10, 12, 0] [1, 2, 3, 4, 5, 6, 7, 8, 9, 11, 13, 14] rfl rfl rfl rfl (by decide) 10 2 rfl rfl rfl rfl hl.1 rfl (Nat.le_of_ble_eq_true rfl) dX5_holds_30 ⟨Nat.le_of_ble_eq_true rfl, Nat.le_of_ble_eq_true rfl⟩ (fun _ H locs hpo hP hD hS => ?_)
    have hP : va_P D kC [(cf, .inl (D.1 23, 4, .inr (.inl f9))), (ct, .inl (D.1 23, 4, .inr (.inl t9))), (ac, .inr (0, [.ref ck, .ref cg, .int (nI ch)])), (ck, .inl (D.1 20, 40, .inl (fun j => nI (kd j)))), (cg, .inl (D.1 20, 40, .inl (fun j => nI (fd j)))), (aa, .inl (D.1 24, 8, .inr (.inr (.inr (.inr sg))))), (sa, .inl (D.1 23, 4, .inr (.inl ss))), (h, .inr (5, [.ref fa, .int (nI sz), .ref ap, .ref aa, .int (nI cn), .int sf, .ref ac, .ref at9, .ref ah])), (fa, .inl (D.1 21, 1500, .inl fl)), (hm, .inl (D.1 21, 1536, .inl mu19)), (hc, .inl (D.1 20, 64, .inl su19)), (hs, .inr (3, [.int (nI pa), .int (nI pb), .int (nI en), .int ve, .long ti, .int (nI cb), .ref dw, .ref sa, .ref cf, .ref ct, .int (nI cl), .int ak, .int lf, .int (nI lv)])), (ah, .inr (2, [.ref hm, .int (nI (pa + (en - pb))), .ref hw, .ref hc])), (hw, .inl (D.1 20, 8, .inl wu19)), (dw, .inl (D.1 20, 8, .inl dd))] _ := hP
    have hD : va_D A [(cf, .inl (D.1 23, 4, .inr (.inl f9))), (ct, .inl (D.1 23, 4, .inr (.inl t9))), (ac, .inr (0, [.ref ck, .ref cg, .int (nI ch)])), (ck, .inl (D.1 20, 40, .inl (fun j => nI (kd j)))), (cg, .inl (D.1 20, 40, .inl (fun j => nI (fd j)))), (aa, .inl (D.1 24, 8, .inr (.inr (.inr (.inr sg))))), (sa, .inl (D.1 23, 4, .inr (.inl ss))), (h, .inr (5, [.ref fa, .int (nI sz), .ref ap, .ref aa, .int (nI cn), .int sf, .ref ac, .ref at9, .ref ah])), (fa, .inl (D.1 21, 1500, .inl fl)), (hm, .inl (D.1 21, 1536, .inl mu19)), (hc, .inl (D.1 20, 64, .inl su19)), (hs, .inr (3, [.int (nI pa), .int (nI pb), .int (nI en), .int ve, .long ti, .int (nI cb), .ref dw, .ref sa, .ref cf, .ref ct, .int (nI cl), .int ak, .int lf, .int (nI lv)])), (ah, .inr (2, [.ref hm, .int (nI (pa + (en - pb))), .ref hw, .ref hc])), (hw, .inl (D.1 20, 8, .inl wu19)), (dw, .inl (D.1 20, 8, .inl dd))] := hD
    refine W.eq (g2 := F0 m 33 ls [.int (kB (kEq8 wu19 dd))]) rfl ?_
    refine W.widen (k := 0) (n := 0) (Nat.le_of_ble_eq_true rfl) (Nat.le_of_ble_eq_true rfl) ?_
    have heq : kEq8 wu19 dd = (kEq8 (kSha (kMb fl pa pb) (pa + en - pb)) dd) := kEq8_congr hwu19 (fun _ _ => rfl)
    refine lv_if_ne (tgt := 38) hx hb dX5_holds_33 (by decide) (fun c_33 => ?_) (fun c_33 => ?_)
    · have c_33 := kB_n0.mp c_33
      refine lv_aload_n hx hb dX5_holds_38 rfl (lv_at hl 1 rfl) ?_
      refine va_get (D := D) (ci := 3) (v := .int ve) (C := RX3) (T := TX3) (N := 14) hx hb hts inX3 hown hK hP 11 rfl rfl 3 (by decide) hwd2 (fun _ h9 => h9) rfl dX5_holds_39 ?_
      refine lv_if_ne (tgt := 48) hx hb dX5_holds_42 (by decide) (fun c_42 => ?_) (fun c_42 => ?_)
      · refine lv_aload_n hx hb dX5_holds_48 rfl (lv_at hl 1 rfl) ?_
        refine kcV (C := RX3) (As := []) (rest := []) (ws := [(hs, .inr (3, [.int (nI pa), .int (nI pb), .int (nI en), .int ve, .long ti, .int (nI cb), .ref dw, .ref sa, .ref cf, .ref ct, .int (nI cl), .int ak, .int lf, .int (nI lv)])), (cf, .inl (D.1 23, 4, .inr (.inl f9))), (ct, .inl (D.1 23, 4, .inr (.inl t9)))]) (wr := [(ac, .inr (0, [.ref ck, .ref cg, .int (nI ch)])), (ck, .inl (D.1 20, 40, .inl (fun j => nI (kd j)))), (cg, .inl (D.1 20, 40, .inl (fun j => nI (fd j)))), (aa, .inl (D.1 24, 8, .inr (.inr (.inr (.inr sg))))), (sa, .inl (D.1 23, 4, .inr (.inl ss))), (h, .inr (5, [.ref fa, .int (nI sz), .ref ap, .ref aa, .int (nI cn), .int sf, .ref ac, .ref at9, .ref ah])), (fa, .inl (D.1 21, 1500, .inl fl)), (hm, .inl (D.1 21, 1536, .inl mu19)), (hc, .inl (D.1 20, 64, .inl su19)), (ah, .inr (2, [.ref hm, .int (nI (pa + (en - pb))), .ref hw, .ref hc])), (hw, .inl (D.1 20, 8, .inl wu19)), (dw, .inl (D.1 20, 8, .inl dd))]) ⟨hx, hb, hml, hown, hts⟩ (c_X3_chainHasTime l D hs dw sa cf ct pa pb en cb cl lv ve ak lf ti f9 t9 (by omega)) (cwV 0 hts gX5_holds_X3_chainHasTime3 rfl rfl rfl (by decide +kernel) ⟨Nat.le_of_ble_eq_true rfl, Nat.le_of_ble_eq_true rfl⟩) hK hE hP hD hS hA [11, 0, 1] [2, 3, 4, 5, 6, 7, 8, 9, 10, 12, 13, 14] rfl rfl rfl rfl (by decide) 11 3 rfl rfl rfl rfl hl.1 rfl (Nat.le_of_ble_eq_true rfl) dX5_holds_49 ⟨Nat.le_of_ble_eq_true rfl, Nat.le_of_ble_eq_true rfl⟩ (fun _ H locs hpo hP hD hS => ?_)
        have hP : va_P D kC [(ac, .inr (0, [.ref ck, .ref cg, .int (nI ch)])), (ck, .inl (D.1 20, 40, .inl (fun j => nI (kd j)))), (cg, .inl (D.1 20, 40, .inl (fun j => nI (fd j)))), (aa, .inl (D.1 24, 8, .inr (.inr (.inr (.inr sg))))), (sa, .inl (D.1 23, 4, .inr (.inl ss))), (h, .inr (5, [.ref fa, .int (nI sz), .ref ap, .ref aa, .int (nI cn), .int sf, .ref ac, .ref at9, .ref ah])), (fa, .inl (D.1 21, 1500, .inl fl)), (hm, .inl (D.1 21, 1536, .inl mu19)), (hc, .inl (D.1 20, 64, .inl su19)), (ah, .inr (2, [.ref hm, .int (nI (pa + (en - pb))), .ref hw, .ref hc])), (hw, .inl (D.1 20, 8, .inl wu19)), (dw, .inl (D.1 20, 8, .inl dd)), (hs, .inr (3, [.int (nI pa), .int (nI pb), .int (nI en), .int ve, .long ti, .int (nI cb), .ref dw, .ref sa, .ref cf, .ref ct, .int (nI cl), .int ak, .int lf, .int (nI lv)])), (cf, .inl (D.1 23, 4, .inr (.inl f9))), (ct, .inl (D.1 23, 4, .inr (.inl t9)))] _ := hP
        have hD : va_D A [(ac, .inr (0, [.ref ck, .ref cg, .int (nI ch)])), (ck, .inl (D.1 20, 40, .inl (fun j => nI (kd j)))), (cg, .inl (D.1 20, 40, .inl (fun j => nI (fd j)))), (aa, .inl (D.1 24, 8, .inr (.inr (.inr (.inr sg))))), (sa, .inl (D.1 23, 4, .inr (.inl ss))), (h, .inr (5, [.ref fa, .int (nI sz), .ref ap, .ref aa, .int (nI cn), .int sf, .ref ac, .ref at9, .ref ah])), (fa, .inl (D.1 21, 1500, .inl fl)), (hm, .inl (D.1 21, 1536, .inl mu19)), (hc, .inl (D.1 20, 64, .inl su19)), (ah, .inr (2, [.ref hm, .int (nI (pa + (en - pb))), .ref hw, .ref hc])), (hw, .inl (D.1 20, 8, .inl wu19)), (dw, .inl (D.1 20, 8, .inl dd)), (hs, .inr (3, [.int (nI pa), .int (nI pb), .int (nI en), .int ve, .long ti, .int (nI cb), .ref dw, .ref sa, .ref cf, .ref ct, .int (nI cl), .int ak, .int lf, .int (nI lv)])), (cf, .inl (D.1 23, 4, .inr (.inl f9))), (ct, .inl (D.1 23, 4, .inr (.inl t9)))] := hD
        refine W.eq (g2 := F0 m 52 ls [.int (kB (decide (0 < cl) && kChn f9 t9 ti cl))]) rfl ?_
        refine W.widen (k := 0) (n := 0) (Nat.le_of_ble_eq_true rfl) (Nat.le_of_ble_eq_true rfl) ?_
        refine lv_if_ne (tgt := 58) hx hb dX5_holds_52 (by decide) (fun c_52 => ?_) (fun c_52 => ?_)
        · have c_52 := kB_n0.mp c_52
          refine lv_aload_n hx hb dX5_holds_58 rfl (lv_at hl 2 rfl) ?_
          refine va_get (D := D) (ci := 5) (v := .ref ac) (C := RX5) (T := TX5) (N := 9) hx hb hts inX5 hown hK hP 5 rfl rfl 6 (by decide) hwd3 (fun _ h9 => h9) rfl dX5_holds_59 ?_
          refine lv_aload_n hx hb dX5_holds_62 rfl (lv_at hl 1 rfl) ?_
          refine kcV (C := RX0) (As := [.ref hs]) (rest := []) (ws := [(ac, .inr (0, [.ref ck, .ref cg, .int (nI ch)])), (ck, .inl (D.1 20, 40, .inl (fun j => nI (kd j)))), (cg, .inl (D.1 20, 40, .inl (fun j => nI (fd j)))), (hs, .inr (3, [.int (nI pa), .int (nI pb), .int (nI en), .int ve, .long ti, .int (nI cb), .ref dw, .ref sa, .ref cf, .ref ct, .int (nI cl), .int ak, .int lf, .int (nI lv)]))]) (wr := [(aa, .inl (D.1 24, 8, .inr (.inr (.inr (.inr sg))))), (sa, .inl (D.1 23, 4, .inr (.inl ss))), (h, .inr (5, [.ref fa, .int (nI sz), .ref ap, .ref aa, .int (nI cn), .int sf, .ref ac, .ref at9, .ref ah])), (fa, .inl (D.1 21, 1500, .inl fl)), (hm, .inl (D.1 21, 1536, .inl mu19)), (hc, .inl (D.1 20, 64, .inl su19)), (ah, .inr (2, [.ref hm, .int (nI (pa + (en - pb))), .ref hw, .ref hc])), (hw, .inl (D.1 20, 8, .inl wu19)), (dw, .inl (D.1 20, 8, .inl dd)), (cf, .inl (D.1 23, 4, .inr (.inl f9))), (ct, .inl (D.1 23, 4, .inr (.inl t9)))]) ⟨hx, hb, hml, hown, hts⟩ (c_X0_allAllowedBy l D ac ck cg ch kd fd hs dw sa cf ct pa pb en cb cl lv ve ak lf ti (by omega) (by omega) (by omega) hkd) (cwV 1 hts gX5_holds_X0_allAllowedBy3 rfl rfl rfl (by decide +kernel) ⟨Nat.le_of_ble_eq_true rfl, Nat.le_of_ble_eq_true rfl⟩) hK hE hP hD hS hA [0, 1, 2, 12] [3, 4, 5, 6, 7, 8, 9, 10, 11, 13, 14] rfl rfl rfl rfl (by decide) 0 0 rfl rfl rfl rfl hl.1 rfl (Nat.le_of_ble_eq_true rfl) dX5_holds_63 ⟨Nat.le_of_ble_eq_true rfl, Nat.le_of_ble_eq_true rfl⟩ (fun _ H locs hpo hP hD hS => ?_)
          have hP : va_P D kC [(aa, .inl (D.1 24, 8, .inr (.inr (.inr (.inr sg))))), (sa, .inl (D.1 23, 4, .inr (.inl ss))), (h, .inr (5, [.ref fa, .int (nI sz), .ref ap, .ref aa, .int (nI cn), .int sf, .ref ac, .ref at9, .ref ah])), (fa, .inl (D.1 21, 1500, .inl fl)), (hm, .inl (D.1 21, 1536, .inl mu19)), (hc, .inl (D.1 20, 64, .inl su19)), (ah, .inr (2, [.ref hm, .int (nI (pa + (en - pb))), .ref hw, .ref hc])), (hw, .inl (D.1 20, 8, .inl wu19)), (dw, .inl (D.1 20, 8, .inl dd)), (cf, .inl (D.1 23, 4, .inr (.inl f9))), (ct, .inl (D.1 23, 4, .inr (.inl t9))), (ac, .inr (0, [.ref ck, .ref cg, .int (nI ch)])), (ck, .inl (D.1 20, 40, .inl (fun j => nI (kd j)))), (cg, .inl (D.1 20, 40, .inl (fun j => nI (fd j)))), (hs, .inr (3, [.int (nI pa), .int (nI pb), .int (nI en), .int ve, .long ti, .int (nI cb), .ref dw, .ref sa, .ref cf, .ref ct, .int (nI cl), .int ak, .int lf, .int (nI lv)]))] _ := hP
          have hD : va_D A [(aa, .inl (D.1 24, 8, .inr (.inr (.inr (.inr sg))))), (sa, .inl (D.1 23, 4, .inr (.inl ss))), (h, .inr (5, [.ref fa, .int (nI sz), .ref ap, .ref aa, .int (nI cn), .int sf, .ref ac, .ref at9, .ref ah])), (fa, .inl (D.1 21, 1500, .inl fl)), (hm, .inl (D.1 21, 1536, .inl mu19)), (hc, .inl (D.1 20, 64, .inl su19)), (ah, .inr (2, [.ref hm, .int (nI (pa + (en - pb))), .ref hw, .ref hc])), (hw, .inl (D.1 20, 8, .inl wu19)), (dw, .inl (D.1 20, 8, .inl dd)), (cf, .inl (D.1 23, 4, .inr (.inl f9))), (ct, .inl (D.1 23, 4, .inr (.inl t9))), (ac, .inr (0, [.ref ck, .ref cg, .int (nI ch)])), (ck, .inl (D.1 20, 40, .inl (fun j => nI (kd j)))), (cg, .inl (D.1 20, 40, .inl (fun j => nI (fd j)))), (hs, .inr (3, [.int (nI pa), .int (nI pb), .int (nI en), .int ve, .long ti, .int (nI cb), .ref dw, .ref sa, .ref cf, .ref ct, .int (nI cl), .int ak, .int lf, .int (nI lv)]))] := hD
          refine W.eq (g2 := F0 m 66 ls [.int (kB (!kAnyR (fun k => !kMay ak lv (kBit lf (fd k)) (kd k)) cb (ch - cb)))]) rfl ?_
          refine W.widen (k := 0) (n := 0) (Nat.le_of_ble_eq_true rfl) (Nat.le_of_ble_eq_true rfl) ?_
          refine lv_if_eq (tgt := 73) hx hb dX5_holds_66 (by decide) (fun c_66 => ?_) (fun c_66 => ?_)
          · have c_66 := kB_e0.mp c_66
            refine lv_bipush (v := nI 8) hx hb dX5_holds_73 (by decide) ?_
            rw [hQ]
            have hP9 : va_P D kC [(h, .inr (5, [.ref fa, .int (nI sz), .ref ap, .ref aa, .int (nI cn), .int sf, .ref ac, .ref at9, .ref ah])), (aa, .inl (D.1 24, 8, .inr (.inr (.inr (.inr sg))))), (hs, .inr (3, [.int (nI pa), .int (nI pb), .int (nI en), .int ve, .long ti, .int (nI cb), .ref dw, .ref sa, .ref cf, .ref ct, .int (nI cl), .int ak, .int lf, .int (nI lv)])), (dw, .inl (D.1 20, 8, .inl dd)), (sa, .inl (D.1 23, 4, .inr (.inl ss))), (cf, .inl (D.1 23, 4, .inr (.inl f9))), (ct, .inl (D.1 23, 4, .inr (.inl t9))), (ac, .inr (0, [.ref ck, .ref cg, .int (nI ch)])), (ck, .inl (D.1 20, 40, .inl (fun j => nI (kd j)))), (cg, .inl (D.1 20, 40, .inl (fun j => nI (fd j)))), (fa, .inl (D.1 21, 1500, .inl fl)), (ah, .inr (2, [.ref hm, .int (nI (pa + (en - pb))), .ref hw, .ref hc])), (hm, .inl (D.1 21, 1536, .inl mu19)), (hw, .inl (D.1 20, 8, .inl wu19)), (hc, .inl (D.1 20, 64, .inl su19))] _ := (hP.sub [2, 0, 14, 8, 1, 9, 10, 11, 12, 13, 3, 6, 4, 7, 5] rfl)
            have hD9 : va_D A [(h, .inr (5, [.ref fa, .int (nI sz), .ref ap, .ref aa, .int (nI cn), .int sf, .ref ac, .ref at9, .ref ah])), (aa, .inl (D.1 24, 8, .inr (.inr (.inr (.inr sg))))), (hs, .inr (3, [.int (nI pa), .int (nI pb), .int (nI en), .int ve, .long ti, .int (nI cb), .ref dw, .ref sa, .ref cf, .ref ct, .int (nI cl), .int ak, .int lf, .int (nI lv)])), (dw, .inl (D.1 20, 8, .inl dd)), (sa, .inl (D.1 23, 4, .inr (.inl ss))), (cf, .inl (D.1 23, 4, .inr (.inl f9))), (ct, .inl (D.1 23, 4, .inr (.inl t9))), (ac, .inr (0, [.ref ck, .ref cg, .int (nI ch)])), (ck, .inl (D.1 20, 40, .inl (fun j => nI (kd j)))), (cg, .inl (D.1 20, 40, .inl (fun j => nI (fd j)))), (fa, .inl (D.1 21, 1500, .inl fl)), (ah, .inr (2, [.ref hm, .int (nI (pa + (en - pb))), .ref hw, .ref hc])), (hm, .inl (D.1 21, 1536, .inl mu19)), (hw, .inl (D.1 20, 8, .inl wu19)), (hc, .inl (D.1 20, 64, .inl su19))] := (hD.sub [2, 0, 14, 8, 1, 9, 10, 11, 12, 13, 3, 6, 4, 7, 5] (by decide) rfl)
            exact W.iret (v := nI 8) hx hb hr (fun tq ht hW => ⟨⟨(nI (pa + (en - pb)), mu19, wu19, su19), congrArg (fun z => Outcome.returned (some (Value.int z))) (by unfold kHo; rw [if_pos c_12, ← heq, if_pos c_33, if_neg c_42, if_pos c_52, if_pos (k_nf c_66)]), trivial, by rw [ht]; exact hP9, va_K.moved hW.alike hK, hD9⟩, hS.F ht⟩) hS.2.2 dX5_holds_75
          · have c_66 := kB_n0.mp c_66
            refine lv_iconst (v := nI 1) hx hb dX5_holds_69 (by decide) ?_
            refine lv_goto (tgt := 75) hx hb dX5_holds_70 (by decide) ?_
            rw [hQ]
            have hP9 : va_P D kC [(h, .inr (5, [.ref fa, .int (nI sz), .ref ap, .ref aa, .int (nI cn), .int sf, .ref ac, .ref at9, .ref ah])), (aa, .inl (D.1 24, 8, .inr (.inr (.inr (.inr sg))))), (hs, .inr (3, [.int (nI pa), .int (nI pb), .int (nI en), .int ve, .long ti, .int (nI cb), .ref dw, .ref sa, .ref cf, .ref ct, .int (nI cl), .int ak, .int lf, .int (nI lv)])), (dw, .inl (D.1 20, 8, .inl dd)), (sa, .inl (D.1 23, 4, .inr (.inl ss))), (cf, .inl (D.1 23, 4, .inr (.inl f9))), (ct, .inl (D.1 23, 4, .inr (.inl t9))), (ac, .inr (0, [.ref ck, .ref cg, .int (nI ch)])), (ck, .inl (D.1 20, 40, .inl (fun j => nI (kd j)))), (cg, .inl (D.1 20, 40, .inl (fun j => nI (fd j)))), (fa, .inl (D.1 21, 1500, .inl fl)), (ah, .inr (2, [.ref hm, .int (nI (pa + (en - pb))), .ref hw, .ref hc])), (hm, .inl (D.1 21, 1536, .inl mu19)), (hw, .inl (D.1 20, 8, .inl wu19)), (hc, .inl (D.1 20, 64, .inl su19))] _ := (hP.sub [2, 0, 14, 8, 1, 9, 10, 11, 12, 13, 3, 6, 4, 7, 5] rfl)
            have hD9 : va_D A [(h, .inr (5, [.ref fa, .int (nI sz), .ref ap, .ref aa, .int (nI cn), .int sf, .ref ac, .ref at9, .ref ah])), (aa, .inl (D.1 24, 8, .inr (.inr (.inr (.inr sg))))), (hs, .inr (3, [.int (nI pa), .int (nI pb), .int (nI en), .int ve, .long ti, .int (nI cb), .ref dw, .ref sa, .ref cf, .ref ct, .int (nI cl), .int ak, .int lf, .int (nI lv)])), (dw, .inl (D.1 20, 8, .inl dd)), (sa, .inl (D.1 23, 4, .inr (.inl ss))), (cf, .inl (D.1 23, 4, .inr (.inl f9))), (ct, .inl (D.1 23, 4, .inr (.inl t9))), (ac, .inr (0, [.ref ck, .ref cg, .int (nI ch)])), (ck, .inl (D.1 20, 40, .inl (fun j => nI (kd j)))), (cg, .inl (D.1 20, 40, .inl (fun j => nI (fd j)))), (fa, .inl (D.1 21, 1500, .inl fl)), (ah, .inr (2, [.ref hm, .int (nI (pa + (en - pb))), .ref hw, .ref hc])), (hm, .inl (D.1 21, 1536, .inl mu19)), (hw, .inl (D.1 20, 8, .inl wu19)), (hc, .inl (D.1 20, 64, .inl su19))] := (hD.sub [2, 0, 14, 8, 1, 9, 10, 11, 12, 13, 3, 6, 4, 7, 5] (by decide) rfl)
            exact W.iret (v := nI 1) hx hb hr (fun tq ht hW => ⟨⟨(nI (pa + (en - pb)), mu19, wu19, su19), congrArg (fun z => Outcome.returned (some (Value.int z))) (by unfold kHo; rw [if_pos c_12, ← heq, if_pos c_33, if_neg c_42, if_pos c_52, if_neg (k_nt c_66)]), trivial, by rw [ht]; exact hP9, va_K.moved hW.alike hK, hD9⟩, hS.F ht⟩) hS.2.2 dX5_holds_75
        · have c_52 := kB_e0.mp c_52
          refine lv_bipush (v := nI 7) hx hb dX5_holds_55 (by decide) ?_
          rw [hQ]
          have hP9 : va_P D kC [(h, .inr (5, [.ref fa, .int (nI sz), .ref ap, .ref aa, .int (nI cn), .int sf, .ref ac, .ref at9, .ref ah])), (aa, .inl (D.1 24, 8, .inr (.inr (.inr (.inr sg))))), (hs, .inr (3, [.int (nI pa), .int (nI pb), .int (nI en), .int ve, .long ti, .int (nI cb), .ref dw, .ref sa, .ref cf, .ref ct, .int (nI cl), .int ak, .int lf, .int (nI lv)])), (dw, .inl (D.1 20, 8, .inl dd)), (sa, .inl (D.1 23, 4, .inr (.inl ss))), (cf, .inl (D.1 23, 4, .inr (.inl f9))), (ct, .inl (D.1 23, 4, .inr (.inl t9))), (ac, .inr (0, [.ref ck, .ref cg, .int (nI ch)])), (ck, .inl (D.1 20, 40, .inl (fun j => nI (kd j)))), (cg, .inl (D.1 20, 40, .inl (fun j => nI (fd j)))), (fa, .inl (D.1 21, 1500, .inl fl)), (ah, .inr (2, [.ref hm, .int (nI (pa + (en - pb))), .ref hw, .ref hc])), (hm, .inl (D.1 21, 1536, .inl mu19)), (hw, .inl (D.1 20, 8, .inl wu19)), (hc, .inl (D.1 20, 64, .inl su19))] _ := (hP.sub [5, 3, 12, 11, 4, 13, 14, 0, 1, 2, 6, 9, 7, 10, 8] rfl)
          have hD9 : va_D A [(h, .inr (5, [.ref fa, .int (nI sz), .ref ap, .ref aa, .int (nI cn), .int sf, .ref ac, .ref at9, .ref ah])), (aa, .inl (D.1 24, 8, .inr (.inr (.inr (.inr sg))))), (hs, .inr (3, [.int (nI pa), .int (nI pb), .int (nI en), .int ve, .long ti, .int (nI cb), .ref dw, .ref sa, .ref cf, .ref ct, .int (nI cl), .int ak, .int lf, .int (nI lv)])), (dw, .inl (D.1 20, 8, .inl dd)), (sa, .inl (D.1 23, 4, .inr (.inl ss))), (cf, .inl (D.1 23, 4, .inr (.inl f9))), (ct, .inl (D.1 23, 4, .inr (.inl t9))), (ac, .inr (0, [.ref ck, .ref cg, .int (nI ch)])), (ck, .inl (D.1 20, 40, .inl (fun j => nI (kd j)))), (cg, .inl (D.1 20, 40, .inl (fun j => nI (fd j)))), (fa, .inl (D.1 21, 1500, .inl fl)), (ah, .inr (2, [.ref hm, .int (nI (pa + (en - pb))), .ref hw, .ref hc])), (hm, .inl (D.1 21, 1536, .inl mu19)), (hw, .inl (D.1 20, 8, .inl wu19)), (hc, .inl (D.1 20, 64, .inl su19))] := (hD.sub [5, 3, 12, 11, 4, 13, 14, 0, 1, 2, 6, 9, 7, 10, 8] (by decide) rfl)
          exact W.iret (v := nI 7) hx hb hr (fun tq ht hW => ⟨⟨(nI (pa + (en - pb)), mu19, wu19, su19), congrArg (fun z => Outcome.returned (some (Value.int z))) (by unfold kHo; rw [if_pos c_12, ← heq, if_pos c_33, if_neg c_42, if_neg (by rw [c_52]; decide)]), trivial, by rw [ht]; exact hP9, va_K.moved hW.alike hK, hD9⟩, hS.F ht⟩) hS.2.2 dX5_holds_57
      · refine lv_bipush (v := nI 6) hx hb dX5_holds_45 (by decide) ?_
        rw [hQ]
        have hP9 : va_P D kC [(h, .inr (5, [.ref fa, .int (nI sz), .ref ap, .ref aa, .int (nI cn), .int sf, .ref ac, .ref at9, .ref ah])), (aa, .inl (D.1 24, 8, .inr (.inr (.inr (.inr sg))))), (hs, .inr (3, [.int (nI pa), .int (nI pb), .int (nI en), .int ve, .long ti, .int (nI cb), .ref dw, .ref sa, .ref cf, .ref ct, .int (nI cl), .int ak, .int lf, .int (nI lv)])), (dw, .inl (D.1 20, 8, .inl dd)), (sa, .inl (D.1 23, 4, .inr (.inl ss))), (cf, .inl (D.1 23, 4, .inr (.inl f9))), (ct, .inl (D.1 23, 4, .inr (.inl t9))), (ac, .inr (0, [.ref ck, .ref cg, .int (nI ch)])), (ck, .inl (D.1 20, 40, .inl (fun j => nI (kd j)))), (cg, .inl (D.1 20, 40, .inl (fun j => nI (fd j)))), (fa, .inl (D.1 21, 1500, .inl fl)), (ah, .inr (2, [.ref hm, .int (nI (pa + (en - pb))), .ref hw, .ref hc])), (hm, .inl (D.1 21, 1536, .inl mu19)), (hw, .inl (D.1 20, 8, .inl wu19)), (hc, .inl (D.1 20, 64, .inl su19))] _ := (hP.sub [7, 5, 11, 14, 6, 0, 1, 2, 3, 4, 8, 12, 9, 13, 10] rfl)
        have hD9 : va_D A [(h, .inr (5, [.ref fa, .int (nI sz), .ref ap, .ref aa, .int (nI cn), .int sf, .ref ac, .ref at9, .ref ah])), (aa, .inl (D.1 24, 8, .inr (.inr (.inr (.inr sg))))), (hs, .inr (3, [.int (nI pa), .int (nI pb), .int (nI en), .int ve, .long ti, .int (nI cb), .ref dw, .ref sa, .ref cf, .ref ct, .int (nI cl), .int ak, .int lf, .int (nI lv)])), (dw, .inl (D.1 20, 8, .inl dd)), (sa, .inl (D.1 23, 4, .inr (.inl ss))), (cf, .inl (D.1 23, 4, .inr (.inl f9))), (ct, .inl (D.1 23, 4, .inr (.inl t9))), (ac, .inr (0, [.ref ck, .ref cg, .int (nI ch)])), (ck, .inl (D.1 20, 40, .inl (fun j => nI (kd j)))), (cg, .inl (D.1 20, 40, .inl (fun j => nI (fd j)))), (fa, .inl (D.1 21, 1500, .inl fl)), (ah, .inr (2, [.ref hm, .int (nI (pa + (en - pb))), .ref hw, .ref hc])), (hm, .inl (D.1 21, 1536, .inl mu19)), (hw, .inl (D.1 20, 8, .inl wu19)), (hc, .inl (D.1 20, 64, .inl su19))] := (hD.sub [7, 5, 11, 14, 6, 0, 1, 2, 3, 4, 8, 12, 9, 13, 10] (by decide) rfl)
        exact W.iret (v := nI 6) hx hb hr (fun tq ht hW => ⟨⟨(nI (pa + (en - pb)), mu19, wu19, su19), congrArg (fun z => Outcome.returned (some (Value.int z))) (by unfold kHo; rw [if_pos c_12, ← heq, if_pos c_33, if_pos c_42]), trivial, by rw [ht]; exact hP9, va_K.moved hW.alike hK, hD9⟩, hS.F ht⟩) hS.2.2 dX5_holds_47
    · have c_33 := kB_e0.mp c_33
      refine lv_iconst (v := nI 5) hx hb dX5_holds_36 (by decide) ?_
      rw [hQ]
      have hP9 : va_P D kC [(h, .inr (5, [.ref fa, .int (nI sz), .ref ap, .ref aa, .int (nI cn), .int sf, .ref ac, .ref at9, .ref ah])), (aa, .inl (D.1 24, 8, .inr (.inr (.inr (.inr sg))))), (hs, .inr (3, [.int (nI pa), .int (nI pb), .int (nI en), .int ve, .long ti, .int (nI cb), .ref dw, .ref sa, .ref cf, .ref ct, .int (nI cl), .int ak, .int lf, .int (nI lv)])), (dw, .inl (D.1 20, 8, .inl dd)), (sa, .inl (D.1 23, 4, .inr (.inl ss))), (cf, .inl (D.1 23, 4, .inr (.inl f9))), (ct, .inl (D.1 23, 4, .inr (.inl t9))), (ac, .inr (0, [.ref ck, .ref cg, .int (nI ch)])), (ck, .inl (D.1 20, 40, .inl (fun j => nI (kd j)))), (cg, .inl (D.1 20, 40, .inl (fun j => nI (fd j)))), (fa, .inl (D.1 21, 1500, .inl fl)), (ah, .inr (2, [.ref hm, .int (nI (pa + (en - pb))), .ref hw, .ref hc])), (hm, .inl (D.1 21, 1536, .inl mu19)), (hw, .inl (D.1 20, 8, .inl wu19)), (hc, .inl (D.1 20, 64, .inl su19))] _ := (hP.sub [7, 5, 11, 14, 6, 0, 1, 2, 3, 4, 8, 12, 9, 13, 10] rfl)
      have hD9 : va_D A [(h, .inr (5, [.ref fa, .int (nI sz), .ref ap, .ref aa, .int (nI cn), .int sf, .ref ac, .ref at9, .ref ah])), (aa, .inl (D.1 24, 8, .inr (.inr (.inr (.inr sg))))), (hs, .inr (3, [.int (nI pa), .int (nI pb), .int (nI en), .int ve, .long ti, .int (nI cb), .ref dw, .ref sa, .ref cf, .ref ct, .int (nI cl), .int ak, .int lf, .int (nI lv)])), (dw, .inl (D.1 20, 8, .inl dd)), (sa, .inl (D.1 23, 4, .inr (.inl ss))), (cf, .inl (D.1 23, 4, .inr (.inl f9))), (ct, .inl (D.1 23, 4, .inr (.inl t9))), (ac, .inr (0, [.ref ck, .ref cg, .int (nI ch)])), (ck, .inl (D.1 20, 40, .inl (fun j => nI (kd j)))), (cg, .inl (D.1 20, 40, .inl (fun j => nI (fd j)))), (fa, .inl (D.1 21, 1500, .inl fl)), (ah, .inr (2, [.ref hm, .int (nI (pa + (en - pb))), .ref hw, .ref hc])), (hm, .inl (D.1 21, 1536, .inl mu19)), (hw, .inl (D.1 20, 8, .inl wu19)), (hc, .inl (D.1 20, 64, .inl su19))] := (hD.sub [7, 5, 11, 14, 6, 0, 1, 2, 3, 4, 8, 12, 9, 13, 10] (by decide) rfl)
      exact W.iret (v := nI 5) hx hb hr (fun tq ht hW => ⟨⟨(nI (pa + (en - pb)), mu19, wu19, su19), congrArg (fun z => Outcome.returned (some (Value.int z))) (by unfold kHo; rw [if_pos c_12, ← heq, if_neg (by rw [c_33]; decide)]), trivial, by rw [ht]; exact hP9, va_K.moved hW.alike hK, hD9⟩, hS.F ht⟩) hS.2.2 dX5_holds_37
  · refine lv_iload_n hx hb dX5_holds_15 rfl (lv_at hl 0 rfl) ?_
    rw [hQ]
    have hP9 : va_P D kC [(h, .inr (5, [.ref fa, .int (nI sz), .ref ap, .ref aa, .int (nI cn), .int sf, .ref ac, .ref at9, .ref ah])), (aa, .inl (D.1 24, 8, .inr (.inr (.inr (.inr sg))))), (hs, .inr (3, [.int (nI pa), .int (nI pb), .int (nI en), .int ve, .long ti, .int (nI cb), .ref dw, .ref sa, .ref cf, .ref ct, .int (nI cl), .int ak, .int lf, .int (nI lv)])), (dw, .inl (D.1 20, 8, .inl dd)), (sa, .inl (D.1 23, 4, .inr (.inl ss))), (cf, .inl (D.1 23, 4, .inr (.inl f9))), (ct, .inl (D.1 23, 4, .inr (.inl t9))), (ac, .inr (0, [.ref ck, .ref cg, .int (nI ch)])), (ck, .inl (D.1 20, 40, .inl (fun j => nI (kd j)))), (cg, .inl (D.1 20, 40, .inl (fun j => nI (fd j)))), (fa, .inl (D.1 21, 1500, .inl fl)), (ah, .inr (2, [.ref hm, .int ln, .ref hw, .ref hc])), (hm, .inl (D.1 21, 1536, .inl f)), (hw, .inl (D.1 20, 8, .inl wd)), (hc, .inl (D.1 20, 64, .inl sc))] _ := (hP.sub [11, 12, 13, 0, 14, 1, 2, 3, 4, 5, 6, 7, 8, 9, 10] rfl)
    have hD9 : va_D A [(h, .inr (5, [.ref fa, .int (nI sz), .ref ap, .ref aa, .int (nI cn), .int sf, .ref ac, .ref at9, .ref ah])), (aa, .inl (D.1 24, 8, .inr (.inr (.inr (.inr sg))))), (hs, .inr (3, [.int (nI pa), .int (nI pb), .int (nI en), .int ve, .long ti, .int (nI cb), .ref dw, .ref sa, .ref cf, .ref ct, .int (nI cl), .int ak, .int lf, .int (nI lv)])), (dw, .inl (D.1 20, 8, .inl dd)), (sa, .inl (D.1 23, 4, .inr (.inl ss))), (cf, .inl (D.1 23, 4, .inr (.inl f9))), (ct, .inl (D.1 23, 4, .inr (.inl t9))), (ac, .inr (0, [.ref ck, .ref cg, .int (nI ch)])), (ck, .inl (D.1 20, 40, .inl (fun j => nI (kd j)))), (cg, .inl (D.1 20, 40, .inl (fun j => nI (fd j)))), (fa, .inl (D.1 21, 1500, .inl fl)), (ah, .inr (2, [.ref hm, .int ln, .ref hw, .ref hc])), (hm, .inl (D.1 21, 1536, .inl f)), (hw, .inl (D.1 20, 8, .inl wd)), (hc, .inl (D.1 20, 64, .inl sc))] := (hD.sub [11, 12, 13, 0, 14, 1, 2, 3, 4, 5, 6, 7, 8, 9, 10] (by decide) rfl)
    exact W.iret (v := nI (kSF ss pa pb en)) hx hb hr (fun tq ht hW => ⟨⟨(ln, f, wd, sc), congrArg (fun z => Outcome.returned (some (Value.int z))) (by unfold kHo; rw [if_neg (by omega)]), trivial, by rw [ht]; exact hP9, va_K.moved hW.alike hK, hD9⟩, hS.F ht⟩) hS.2.2 dX5_holds_16
