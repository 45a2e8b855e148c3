set_option maxHeartbeats 4000000 in
set_option maxRecDepth 100000 in
/-- turn -/
theorem c_X2_turn (l : Launch) (D : va_G) (x n : Int32) : kM (S := Unit) l yX2_turn wsX2_turn ({ frames := 7, cells := 0, slots := 0, locals := 100 }) 0 0 D [.int x, .int n] [] (fun _ => some (.int (kRot x n))) (fun _ => []) (fun _ => True) := by
  intro sz
  refine Met.ofW (cc := cX2_turn) (maxL := 2) (ret := (some .int)) (by decide) rfl ?_
  intro p e s m args below meth c s₁ B hml hv
  obtain ⟨rfl, hsz, hP, hK, hD0, hE⟩ := hv
  have hx := B.exec
  have hb := B.bytes
  have hr := B.returns
  have hts := atoms_spec (ws := wsX2_turn) B.pre
  have hown : s.vm.findClass RX2 = some m.cls := findClass_of_methodNamed B.named
  have hlocks := B.notSynchronized
  subst hsz
  have hD := hD0.self (sz := s.heap.size)
  generalize hAe : va_A [] s.heap.size = A at hD hE ⊢
  have hA : ∀ q : Nat, s.heap.size ≤ q → A q := fun q h => by rw [← hAe]; exact Or.inr h
  have hS : va_S A s.heap s.heap [] := va_S.rf
  have hl := lv_entry ([.int x, .int n]) (n := 2) (Nat.le_of_ble_eq_true rfl)
  refine kgenQ (fun Q hQ => ?_)
  rw [lg_entry_eq]
  generalize (lg_sl ([.int x, .int n]) ++ List.replicate (2 - (lg_sl ([.int x, .int n])).length) Slot.unset).toArray = ls at hl ⊢
  have hl : lv_has ls 2 [(0, .int x), (1, .int n)] := hl
  refine lv_iload_n hx hb dX2_turn_0 rfl (lv_at hl 0 rfl) ?_
  refine lv_iload_n hx hb dX2_turn_1 rfl (lv_at hl 1 rfl) ?_
  refine lv_iushr (v := kShr x n) hx hb dX2_turn_2 rfl ?_
  refine lv_iload_n hx hb dX2_turn_3 rfl (lv_at hl 0 rfl) ?_
  refine lv_bipush (v := nI 32) hx hb dX2_turn_4 (by decide) ?_
  refine lv_iload_n hx hb dX2_turn_6 rfl (lv_at hl 1 rfl) ?_
  refine lv_isub hx hb dX2_turn_7 ?_
  refine lv_ishl hx hb dX2_turn_8 ?_
  refine lv_ior hx hb dX2_turn_9 ?_
  rw [hQ]
  have hP9 : va_P D kC [] _ := hP
  have hD9 : va_D A [] := hD
  exact W.iret (v := (kShr x n) ||| (x <<< (((nI 32) - n) &&& 31))) hx hb hr (fun tq ht hW => ⟨⟨(), rfl, trivial, by rw [ht]; exact hP9, va_K.moved hW.alike hK, hD9⟩, hS.F ht⟩) hS.2.2 dX2_turn_10

set_option maxHeartbeats 4000000 in
set_option maxRecDepth 100000 in
/-- turn -/
theorem c_X6_turn (l : Launch) (D : va_G) (x n : Int32) : kM (S := Unit) l yX6_turn wsX6_turn ({ frames := 7, cells := 0, slots := 0, locals := 100 }) 0 0 D [.int x, .int n] [] (fun _ => some (.int (kRot x n))) (fun _ => []) (fun _ => True) := by
  intro sz
  refine Met.ofW (cc := cX6_turn) (maxL := 2) (ret := (some .int)) (by decide) rfl ?_
  intro p e s m args below meth c s₁ B hml hv
  obtain ⟨rfl, hsz, hP, hK, hD0, hE⟩ := hv
  have hx := B.exec
  have hb := B.bytes
  have hr := B.returns
  have hts := atoms_spec (ws := wsX6_turn) B.pre
  have hown : s.vm.findClass RX6 = some m.cls := findClass_of_methodNamed B.named
  have hlocks := B.notSynchronized
  subst hsz
  have hD := hD0.self (sz := s.heap.size)
  generalize hAe : va_A [] s.heap.size = A at hD hE ⊢
  have hA : ∀ q : Nat, s.heap.size ≤ q → A q := fun q h => by rw [← hAe]; exact Or.inr h
  have hS : va_S A s.heap s.heap [] := va_S.rf
  have hl := lv_entry ([.int x, .int n]) (n := 2) (Nat.le_of_ble_eq_true rfl)
  refine kgenQ (fun Q hQ => ?_)
  rw [lg_entry_eq]
  generalize (lg_sl ([.int x, .int n]) ++ List.replicate (2 - (lg_sl ([.int x, .int n])).length) Slot.unset).toArray = ls at hl ⊢
  have hl : lv_has ls 2 [(0, .int x), (1, .int n)] := hl
  refine lv_iload_n hx hb dX6_turn_0 rfl (lv_at hl 0 rfl) ?_
  refine lv_iload_n hx hb dX6_turn_1 rfl (lv_at hl 1 rfl) ?_
  refine lv_iushr (v := kShr x n) hx hb dX6_turn_2 rfl ?_
  refine lv_iload_n hx hb dX6_turn_3 rfl (lv_at hl 0 rfl) ?_
  refine lv_bipush (v := nI 32) hx hb dX6_turn_4 (by decide) ?_
  refine lv_iload_n hx hb dX6_turn_6 rfl (lv_at hl 1 rfl) ?_
  refine lv_isub hx hb dX6_turn_7 ?_
  refine lv_ishl hx hb dX6_turn_8 ?_
  refine lv_ior hx hb dX6_turn_9 ?_
  rw [hQ]
  have hP9 : va_P D kC [] _ := hP
  have hD9 : va_D A [] := hD
  exact W.iret (v := (kShr x n) ||| (x <<< (((nI 32) - n) &&& 31))) hx hb hr (fun tq ht hW => ⟨⟨(), rfl, trivial, by rw [ht]; exact hP9, va_K.moved hW.alike hK, hD9⟩, hS.F ht⟩) hS.2.2 dX6_turn_10

theorem iX2_start_X2 : ∀ w ∈ wsX20, w ∈ wsX2_start := by decide +kernel
theorem X2_start_hwd0 : (.fieldLink RX2 22 "SignatureSpans$Sha256" "length" "I" : Cond) ∈ wsX2_start := by decide +kernel
set_option maxHeartbeats 4000000 in
set_option maxRecDepth 100000 in
/-- start -/
theorem c_X2_start (l : Launch) (D : va_G) (h am aw ac : Nat) (n : Int32) : kM (S := Unit) l yX2_start wsX2_start ({ frames := 7, cells := 0, slots := 0, locals := 100 }) 0 0 D [.ref h] [(h, .inr (2, [.ref am, .int n, .ref aw, .ref ac]))] (fun _ => none) (fun _ => [(h, .inr (2, [.ref am, .int (nI 0), .ref aw, .ref ac]))]) (fun _ => True) := by
  intro sz
  refine Met.ofW (cc := cX2_start) (maxL := 1) (ret := none) (by decide) rfl ?_
  intro p e s m args below meth c s₁ B hml hv
  obtain ⟨rfl, hsz, hP, hK, hD0, hE⟩ := hv
  have hx := B.exec
  have hb := B.bytes
  have hr := B.returns
  have hts := atoms_spec (ws := wsX2_start) B.pre
  have hown : s.vm.findClass RX2 = some m.cls := findClass_of_methodNamed B.named
  have hlocks := B.notSynchronized
  subst hsz
  have hD := hD0.self (sz := s.heap.size)
  generalize hAe : va_A [(h, .inr (2, [.ref am, .int n, .ref aw, .ref ac]))] s.heap.size = A at hD hE ⊢
  have hA : ∀ q : Nat, s.heap.size ≤ q → A q := fun q h => by rw [← hAe]; exact Or.inr h
  have hS : va_S A s.heap s.heap [] := va_S.rf
  have hl := lv_entry ([.ref h]) (n := 1) (Nat.le_of_ble_eq_true rfl)
  have inX2 : ∀ w ∈ wsX20, w ∈ wsX2_start := iX2_start_X2
  have hwd0 := hts (.fieldLink RX2 22 "SignatureSpans$Sha256" "length" "I") X2_start_hwd0
  refine kgenQ (fun Q hQ => ?_)
  rw [lg_entry_eq]
  generalize (lg_sl ([.ref h]) ++ List.replicate (1 - (lg_sl ([.ref h])).length) Slot.unset).toArray = ls at hl ⊢
  have hl : lv_has ls 1 [(0, .ref h)] := hl
  refine lv_aload_n hx hb dX2_start_0 rfl (lv_at hl 0 rfl) ?_
  refine lv_iconst (v := nI 0) hx hb dX2_start_1 (by decide) ?_
  refine va_put (D := D) (ci := 2) (v := .int (nI 0)) (ty := .int) (C := RX2) (T := TX2) (N := 4) hx hb hts inX2 tyX2 tyX2_ok nmX2 hown hK hP hD hS 0 rfl rfl 1 (by decide) hwd0 (fun _ h9 => h9) rfl (by decide +kernel) rfl rfl (Nat.le_of_ble_eq_true rfl) dX2_start_2 (fun H locs hP hD hS => ?_)
  have hP : va_P D kC [(h, .inr (2, [.ref am, .int (nI 0), .ref aw, .ref ac]))] _ := hP
  have hD : va_D A [(h, .inr (2, [.ref am, .int (nI 0), .ref aw, .ref ac]))] := hD
  rw [hQ]
  have hP9 : va_P D kC [(h, .inr (2, [.ref am, .int (nI 0), .ref aw, .ref ac]))] _ := hP
  have hD9 : va_D A [(h, .inr (2, [.ref am, .int (nI 0), .ref aw, .ref ac]))] := hD
  exact W.vret hx hb hr (fun tq ht hW => ⟨⟨(), rfl, trivial, by rw [ht]; exact hP9, va_K.moved hW.alike hK, hD9⟩, hS.F ht⟩) hS.2.2 dX2_start_5

theorem k_max0 (a : Nat) (h : a < 2147483648) : (if nI a < nI 0 then nI 0 else nI a) = nI a := if_neg (by rw [nI_0]; exact nI_pos h)

theorem iX2_take_X2 : ∀ w ∈ wsX20, w ∈ wsX2_take := by decide +kernel
theorem X2_take_hwd0 : (.methodLink RX2 26 Lib.Math.max.name : Cond) ∈ wsX2_take := by decide +kernel
theorem X2_take_hwd1 : (.static Lib.Math.max.name : Cond) ∈ wsX2_take := by decide +kernel
theorem X2_take_hwd2 : (.initialized "java/lang/Math" : Cond) ∈ wsX2_take := by decide +kernel
theorem X2_take_hwd3 : (.code Lib.Math.max.name Lib.Math.max.code 2 (some .int) : Cond) ∈ wsX2_take := by decide +kernel
theorem X2_take_hwd4 : (.fieldLink RX2 22 "SignatureSpans$Sha256" "length" "I" : Cond) ∈ wsX2_take := by decide +kernel
theorem X2_take_hwd5 : (.fieldLink RX2 11 "SignatureSpans$Sha256" "message" "[B" : Cond) ∈ wsX2_take := by decide +kernel
set_option maxHeartbeats 4000000 in
set_option maxRecDepth 100000 in
/-- take: bytes a before b behind the n that are there -/
theorem c_X2_take (l : Launch) (D : va_G) (h am aw ac fa a b n : Nat) (f fl : Nat → Int32) (hab : a ≤ b) (hb9 : b ≤ 1500) (hn : n + (b - a) ≤ 1500) : kM (S := Unit) l yX2_take wsX2_take ({ frames := 8, cells := 0, slots := 0, locals := 160 }) 0 0 D [.ref h, .ref fa, .int (nI a), .int (nI b)] [(h, .inr (2, [.ref am, .int (nI n), .ref aw, .ref ac])), (am, .inl (D.1 21, 1536, .inl f)), (fa, .inl (D.1 21, 1500, .inl fl))] (fun _ => none) (fun _ => [(h, .inr (2, [.ref am, .int (nI (n + (b - a))), .ref aw, .ref ac])), (am, .inl (D.1 21, 1536, .inl (kSeg f (fun j => (fl (a + (j - n))).toInt8.toInt32) n (n + (b - a))))), (fa, .inl (D.1 21, 1500, .inl fl))]) (fun _ => True) := by
  intro sz
  refine Met.ofW (cc := cX2_take) (maxL := 5) (ret := none) (by decide) rfl ?_
  intro p e s m args below meth c s₁ B hml hv
  obtain ⟨rfl, hsz, hP, hK, hD0, hE⟩ := hv
  have hx := B.exec
  have hb := B.bytes
  have hr := B.returns
  have hts := atoms_spec (ws := wsX2_take) B.pre
  have hown : s.vm.findClass RX2 = some m.cls := findClass_of_methodNamed B.named
  have hlocks := B.notSynchronized
  subst hsz
  have hD := hD0.self (sz := s.heap.size)
  generalize hAe : va_A [(h, .inr (2, [.ref am, .int (nI n), .ref aw, .ref ac])), (am, .inl (D.1 21, 1536, .inl f)), (fa, .inl (D.1 21, 1500, .inl fl))] s.heap.size = A at hD hE ⊢
  have hA : ∀ q : Nat, s.heap.size ≤ q → A q := fun q h => by rw [← hAe]; exact Or.inr h
  have hS : va_S A s.heap s.heap [] := va_S.rf
  have hl := lv_entry ([.ref h, .ref fa, .int (nI a), .int (nI b)]) (n := 5) (Nat.le_of_ble_eq_true rfl)
  have inX2 : ∀ w ∈ wsX20, w ∈ wsX2_take := iX2_take_X2
  have hwd0 := hts (.methodLink RX2 26 Lib.Math.max.name) X2_take_hwd0
  have hwd1 := hts (.static Lib.Math.max.name) X2_take_hwd1
  have hwd2 := hts (.initialized "java/lang/Math") X2_take_hwd2
  have hwd3 := hts (.code Lib.Math.max.name Lib.Math.max.code 2 (some .int)) X2_take_hwd3
  have hwd4 := hts (.fieldLink RX2 22 "SignatureSpans$Sha256" "length" "I") X2_take_hwd4
  have hwd5 := hts (.fieldLink RX2 11 "SignatureSpans$Sha256" "message" "[B") X2_take_hwd5
  refine kgenQ (fun Q hQ => ?_)
  rw [lg_entry_eq]
  generalize (lg_sl ([.ref h, .ref fa, .int (nI a), .int (nI b)]) ++ List.replicate (5 - (lg_sl ([.ref h, .ref fa, .int (nI a), .int (nI b)])).length) Slot.unset).toArray = ls at hl ⊢
  have hl : lv_has ls 5 [(0, .ref h), (1, .ref fa), (2, .int (nI a)), (3, .int (nI b))] := hl
  refine lv_iload_n hx hb dX2_take_0 rfl (lv_at hl 2 rfl) ?_
  refine lv_iconst (v := nI 0) hx hb dX2_take_1 (by decide) ?_
  refine va_mmax hx hb (by rw [hml]; exact hl.1.symm) hown hwd0 hwd1 hwd2 hwd3 (Nat.le_of_ble_eq_true rfl) (Nat.le_of_ble_eq_true rfl) (Nat.le_of_ble_eq_true rfl) (Nat.le_of_ble_eq_true rfl) dX2_take_2 ?_
  refine kt_i (v' := nI a) (k_max0 a (by omega)) ?_
  refine lv_istore (lv' := [(4, .int (nI a)), (0, .ref h), (1, .ref fa), (2, .int (nI a)), (3, .int (nI b))]) hx hb dX2_take_5 hl (by decide) rfl (fun ls hl => ?_)
  have e8 : n + (a - a) = n := by omega
  have lo : ∀ fu : Nat, ∀ (k : Nat), (a ≤ k) → (k ≤ b) → (b + 1 ≤ k + fu) → ∀ (H : Heap) (locs : List Loc), va_P D kC [(h, .inr (2, [.ref am, .int (nI (n + (k - a))), .ref aw, .ref ac])), (am, .inl (D.1 21, 1536, .inl (kSeg f (fun j => (fl (a + (j - n))).toInt8.toInt32) n (n + (k - a))))), (fa, .inl (D.1 21, 1500, .inl fl))] H → va_D A [(h, .inr (2, [.ref am, .int (nI (n + (k - a))), .ref aw, .ref ac])), (am, .inl (D.1 21, 1536, .inl (kSeg f (fun j => (fl (a + (j - n))).toInt8.toInt32) n (n + (k - a))))), (fa, .inl (D.1 21, 1500, .inl fl))] → va_S A s.heap H locs → ∀ (ls : Array Slot), lv_has ls 5 [(0, .ref h), (1, .ref fa), (3, .int (nI b)), (4, .int (nI k))] → W p l e (headSpec wsX2_take ({ frames := 8, cells := 0, slots := 0, locals := 160 })).room s m #[Value.ref h, Value.ref fa, Value.int (nI a), Value.int (nI b)] below meth c H locs 0 0 Q (F0 m 7 ls []) := by
    intro fu
    induction fu with
    | zero =>
      intro k hk1 hk2 hfu H locs hP hD hS ls hl
      exfalso; omega
    | succ fu ih_lo =>
      intro k hk1 hk2 hfu H locs hP hD hS ls hl
      refine lv_iload hx hb dX2_take_7 (lv_at hl 3 rfl) ?_
      refine lv_iload_n hx hb dX2_take_9 rfl (lv_at hl 2 rfl) ?_
      refine kn_icmp_ge (tgt := 59) hx hb (by omega) (by omega) dX2_take_10 (by decide) (fun c_10 => ?_) (fun c_10 => ?_)
      · have ek : k = b := by omega
        subst ek
        rw [hQ]
        have hP9 : va_P D kC [(h, .inr (2, [.ref am, .int (nI (n + (k - a))), .ref aw, .ref ac])), (am, .inl (D.1 21, 1536, .inl (kSeg f (fun j => (fl (a + (j - n))).toInt8.toInt32) n (n + (k - a))))), (fa, .inl (D.1 21, 1500, .inl fl))] _ := hP
        have hD9 : va_D A [(h, .inr (2, [.ref am, .int (nI (n + (k - a))), .ref aw, .ref ac])), (am, .inl (D.1 21, 1536, .inl (kSeg f (fun j => (fl (a + (j - n))).toInt8.toInt32) n (n + (k - a))))), (fa, .inl (D.1 21, 1500, .inl fl))] := hD
        exact W.vret hx hb hr (fun tq ht hW => ⟨⟨(), rfl, trivial, by rw [ht]; exact hP9, va_K.moved hW.alike hK, hD9⟩, hS.F ht⟩) hS.2.2 dX2_take_59
      · refine lv_iload hx hb dX2_take_13 (lv_at hl 3 rfl) ?_
        refine lv_aload_n hx hb dX2_take_15 rfl (lv_at hl 1 rfl) ?_
        refine va_alen (v := nI 1500) hx hb hK hP 2 1 rfl rfl rfl dX2_take_16 ?_
        refine kn_icmp_ge (tgt := 59) hx hb (by omega) (by omega) dX2_take_17 (by decide) (fun c_17 => by omega) (fun c_17 => ?_)
        refine lv_aload_n hx hb dX2_take_20 rfl (lv_at hl 0 rfl) ?_
        refine va_get (D := D) (ci := 2) (v := .int (nI (n + (k - a)))) (C := RX2) (T := TX2) (N := 4) hx hb hts inX2 hown hK hP 0 rfl rfl 1 (by decide) hwd4 (fun _ h9 => h9) rfl dX2_take_21 ?_
        refine lv_sipush (v := nI 1500) hx hb dX2_take_24 (by decide) ?_
        refine kn_icmp_ge (tgt := 59) hx hb (by omega) (by omega) dX2_take_27 (by decide) (fun c_27 => by omega) (fun c_27 => ?_)
        refine lv_aload_n hx hb dX2_take_30 rfl (lv_at hl 0 rfl) ?_
        refine va_get (D := D) (ci := 2) (v := .ref am) (C := RX2) (T := TX2) (N := 4) hx hb hts inX2 hown hK hP 0 rfl rfl 0 (by decide) hwd5 (fun _ h9 => h9) rfl dX2_take_31 ?_
        refine lv_aload_n hx hb dX2_take_34 rfl (lv_at hl 0 rfl) ?_
        refine va_get (D := D) (ci := 2) (v := .int (nI (n + (k - a)))) (C := RX2) (T := TX2) (N := 4) hx hb hts inX2 hown hK hP 0 rfl rfl 1 (by decide) hwd4 (fun _ h9 => h9) rfl dX2_take_35 ?_
        refine lv_aload_n hx hb dX2_take_38 rfl (lv_at hl 1 rfl) ?_
        refine lv_iload hx hb dX2_take_39 (lv_at hl 3 rfl) ?_
        refine kn_bald hx hb hK hP 2 1 rfl rfl (i := k) (by omega) (by decide) dX2_take_41 ?_
        refine kn_bast hx hb hK hP hD hS 1 1 rfl rfl (i := n + (k - a)) (by omega) (by decide) dX2_take_42 (fun H locs hP hD hS => ?_)
        have hP : va_P D kC [(h, .inr (2, [.ref am, .int (nI (n + (k - a))), .ref aw, .ref ac])), (am, .inl (D.1 21, 1536, .inl (upd (kSeg f (fun j => (fl (a + (j - n))).toInt8.toInt32) n (n + (k - a))) (n + (k - a)) ((fl k).toInt8.toInt32)))), (fa, .inl (D.1 21, 1500, .inl fl))] _ := hP
        have hD : va_D A [(h, .inr (2, [.ref am, .int (nI (n + (k - a))), .ref aw, .ref ac])), (am, .inl (D.1 21, 1536, .inl (upd (kSeg f (fun j => (fl (a + (j - n))).toInt8.toInt32) n (n + (k - a))) (n + (k - a)) ((fl k).toInt8.toInt32)))), (fa, .inl (D.1 21, 1500, .inl fl))] := hD
        have ef1 : upd (kSeg f (fun j => (fl (a + (j - n))).toInt8.toInt32) n (n + (k - a))) (n + (k - a)) ((fl k).toInt8.toInt32) = kSeg f (fun j => (fl (a + (j - n))).toInt8.toInt32) n (n + (k - a) + 1) := kSeg_up (by omega) (by show _ = (fl (a + (n + (k - a) - n))).toInt8.toInt32; rw [show a + (n + (k - a) - n) = k by omega])
        rw [ef1] at hP hD
        refine lv_aload_n hx hb dX2_take_43 rfl (lv_at hl 0 rfl) ?_
        refine lv_dup hx hb dX2_take_44 rfl ?_
        refine va_get (D := D) (ci := 2) (v := .int (nI (n + (k - a)))) (C := RX2) (T := TX2) (N := 4) hx hb hts inX2 hown hK hP 0 rfl rfl 1 (by decide) hwd4 (fun _ h9 => h9) rfl dX2_take_45 ?_
        refine lv_iconst (v := nI 1) hx hb dX2_take_48 (by decide) ?_
        refine kn_iadd hx hb dX2_take_49 ?_
        refine va_put (D := D) (ci := 2) (v := .int (nI (n + (k - a) + 1))) (ty := .int) (C := RX2) (T := TX2) (N := 4) hx hb hts inX2 tyX2 tyX2_ok nmX2 hown hK hP hD hS 0 rfl rfl 1 (by decide) hwd4 (fun _ h9 => h9) rfl (by decide +kernel) rfl rfl (Nat.le_of_ble_eq_true rfl) dX2_take_50 (fun H locs hP hD hS => ?_)
        have hP : va_P D kC [(h, .inr (2, [.ref am, .int (nI (n + (k - a) + 1)), .ref aw, .ref ac])), (am, .inl (D.1 21, 1536, .inl (kSeg f (fun j => (fl (a + (j - n))).toInt8.toInt32) n (n + (k - a) + 1)))), (fa, .inl (D.1 21, 1500, .inl fl))] _ := hP
        have hD : va_D A [(h, .inr (2, [.ref am, .int (nI (n + (k - a) + 1)), .ref aw, .ref ac])), (am, .inl (D.1 21, 1536, .inl (kSeg f (fun j => (fl (a + (j - n))).toInt8.toInt32) n (n + (k - a) + 1)))), (fa, .inl (D.1 21, 1500, .inl fl))] := hD
        refine lv_iinc (v := nI (k + 1)) (lv' := [(4, .int (nI (k + 1))), (0, .ref h), (1, .ref fa), (3, .int (nI b))]) hx hb dX2_take_53 hl (k := 3) rfl (nI_1 _) (by decide) rfl (fun ls hl => ?_)
        have e9 : n + (k - a) + 1 = n + (k + 1 - a) := by omega
        rw [e9] at hP hD
        refine lv_goto (tgt := 7) hx hb dX2_take_56 (by decide) ?_
        exact ih_lo (k + 1) (by omega) (by omega) (by omega) _ _ hP hD hS ls (lv_sub hl [1, 2, 3, 0] rfl)
  exact lo (b + 1 - a) a (by omega) (by omega) (by omega) _ _ (by rw [e8, kSeg_0]; exact hP) (by rw [e8, kSeg_0]; exact hD) hS ls (lv_sub hl [1, 2, 4, 0] rfl)
