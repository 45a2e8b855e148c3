set_option maxHeartbeats 4000000 in
set_option maxRecDepth 100000 in
/-- isField -/
theorem c_X5_isField (l : Launch) (D : va_G) (x : Int32) : kM (S := Unit) l yX5_isField wsX5_isField ({ frames := 7, cells := 0, slots := 0, locals := 100 }) 0 0 D [.int x] [] (fun _ => some (.int (kB (kIsF x)))) (fun _ => []) (fun _ => True) := by
  intro sz
  refine Met.ofW (cc := cX5_isField) (maxL := 1) (ret := (some .boolean)) (by decide) rfl ?_
  intro p e s m args below meth c s₁ B hml hv
  obtain ⟨rfl, hsz, hP, hK, hD0, hE⟩ := hv
  have hx := B.exec
  have hb := B.bytes
  have hr := B.returns
  have hts := atoms_spec (ws := wsX5_isField) B.pre
  have hown : s.vm.findClass RX5 = some m.cls := findClass_of_methodNamed B.named
  have hlocks := B.notSynchronized
  subst hsz
  have hD := hD0.self (sz := s.heap.size)
  generalize hAe : va_A [] s.heap.size = A at hD hE ⊢
  have hA : ∀ q : Nat, s.heap.size ≤ q → A q := fun q h => by rw [← hAe]; exact Or.inr h
  have hS : va_S A s.heap s.heap [] := va_S.rf
  have hl := lv_entry ([.int x]) (n := 1) (Nat.le_of_ble_eq_true rfl)
  refine kgenQ (fun Q hQ => ?_)
  rw [lg_entry_eq]
  generalize (lg_sl ([.int x]) ++ List.replicate (1 - (lg_sl ([.int x])).length) Slot.unset).toArray = ls at hl ⊢
  have hl : lv_has ls 1 [(0, .int x)] := hl
  refine lv_iload_n hx hb dX5_isField_0 rfl (lv_at hl 0 rfl) ?_
  refine lv_if_lt (tgt := 14) hx hb dX5_isField_1 (by decide) (fun c_1 => ?_) (fun c_1 => ?_)
  · refine lv_iconst (v := nI 0) hx hb dX5_isField_14 (by decide) ?_
    rw [hQ]
    have hP9 : va_P D kC [] _ := hP
    have hD9 : va_D A [] := hD
    exact W.zret (v := nI 0) hx hb hr (rfl) (fun tq ht hW => ⟨⟨(), congrArg (fun z => Outcome.returned (some (Value.int z))) (kB_f (decide_eq_false fun q => q.1 c_1)), trivial, by rw [ht]; exact hP9, va_K.moved hW.alike hK, hD9⟩, hS.F ht⟩) hS.2.2 dX5_isField_15
  · refine lv_iload_n hx hb dX5_isField_4 rfl (lv_at hl 0 rfl) ?_
    refine lv_bipush (v := nI 20) hx hb dX5_isField_5 (by decide) ?_
    refine lv_icmp_ge (tgt := 14) hx hb dX5_isField_7 (by decide) (fun c_7 => ?_) (fun c_7 => ?_)
    · refine lv_iconst (v := nI 0) hx hb dX5_isField_14 (by decide) ?_
      rw [hQ]
      have hP9 : va_P D kC [] _ := hP
      have hD9 : va_D A [] := hD
      exact W.zret (v := nI 0) hx hb hr (rfl) (fun tq ht hW => ⟨⟨(), congrArg (fun z => Outcome.returned (some (Value.int z))) (kB_f (decide_eq_false fun q => q.2 c_7)), trivial, by rw [ht]; exact hP9, va_K.moved hW.alike hK, hD9⟩, hS.F ht⟩) hS.2.2 dX5_isField_15
    · refine lv_iconst (v := nI 1) hx hb dX5_isField_10 (by decide) ?_
      refine lv_goto (tgt := 15) hx hb dX5_isField_11 (by decide) ?_
      rw [hQ]
      have hP9 : va_P D kC [] _ := hP
      have hD9 : va_D A [] := hD
      exact W.zret (v := nI 1) hx hb hr (rfl) (fun tq ht hW => ⟨⟨(), congrArg (fun z => Outcome.returned (some (Value.int z))) (kB_t (decide_eq_true ⟨c_1, c_7⟩)), trivial, by rw [ht]; exact hP9, va_K.moved hW.alike hK, hD9⟩, hS.F ht⟩) hS.2.2 dX5_isField_15

set_option maxHeartbeats 4000000 in
set_option maxRecDepth 100000 in
/-- hasField -/
theorem c_X5_hasField (l : Launch) (D : va_G) (x : Int32) (f : Nat) : kM (S := Unit) l yX5_hasField wsX5_hasField ({ frames := 7, cells := 0, slots := 0, locals := 100 }) 0 0 D [.int x, .int (nI f)] [] (fun _ => some (.int (kB (kBit x f)))) (fun _ => []) (fun _ => True) := by
  intro sz
  refine Met.ofW (cc := cX5_hasField) (maxL := 2) (ret := (some .boolean)) (by decide) rfl ?_
  intro p e s m args below meth c s₁ B hml hv
  obtain ⟨rfl, hsz, hP, hK, hD0, hE⟩ := hv
  have hx := B.exec
  have hb := B.bytes
  have hr := B.returns
  have hts := atoms_spec (ws := wsX5_hasField) B.pre
  have hown : s.vm.findClass RX5 = some m.cls := findClass_of_methodNamed B.named
  have hlocks := B.notSynchronized
  subst hsz
  have hD := hD0.self (sz := s.heap.size)
  generalize hAe : va_A [] s.heap.size = A at hD hE ⊢
  have hA : ∀ q : Nat, s.heap.size ≤ q → A q := fun q h => by rw [← hAe]; exact Or.inr h
  have hS : va_S A s.heap s.heap [] := va_S.rf
  have hl := lv_entry ([.int x, .int (nI f)]) (n := 2) (Nat.le_of_ble_eq_true rfl)
  refine kgenQ (fun Q hQ => ?_)
  rw [lg_entry_eq]
  generalize (lg_sl ([.int x, .int (nI f)]) ++ List.replicate (2 - (lg_sl ([.int x, .int (nI f)])).length) Slot.unset).toArray = ls at hl ⊢
  have hl : lv_has ls 2 [(0, .int x), (1, .int (nI f))] := hl
  refine lv_iload_n hx hb dX5_hasField_0 rfl (lv_at hl 0 rfl) ?_
  refine lv_iload_n hx hb dX5_hasField_1 rfl (lv_at hl 1 rfl) ?_
  refine lv_ishr hx hb dX5_hasField_2 ?_
  refine lv_iconst (v := nI 1) hx hb dX5_hasField_3 (by decide) ?_
  refine lv_iand hx hb dX5_hasField_4 ?_
  refine lv_if_eq (tgt := 12) hx hb dX5_hasField_5 (by decide) (fun c_5 => ?_) (fun c_5 => ?_)
  · refine lv_iconst (v := nI 0) hx hb dX5_hasField_12 (by decide) ?_
    rw [hQ]
    have hP9 : va_P D kC [] _ := hP
    have hD9 : va_D A [] := hD
    exact W.zret (v := nI 0) hx hb hr (rfl) (fun tq ht hW => ⟨⟨(), congrArg (fun z => Outcome.returned (some (Value.int z))) (kB_f (decide_eq_false fun q => q c_5)), trivial, by rw [ht]; exact hP9, va_K.moved hW.alike hK, hD9⟩, hS.F ht⟩) hS.2.2 dX5_hasField_13
  · refine lv_iconst (v := nI 1) hx hb dX5_hasField_8 (by decide) ?_
    refine lv_goto (tgt := 13) hx hb dX5_hasField_9 (by decide) ?_
    rw [hQ]
    have hP9 : va_P D kC [] _ := hP
    have hD9 : va_D A [] := hD
    exact W.zret (v := nI 1) hx hb hr (rfl) (fun tq ht hW => ⟨⟨(), congrArg (fun z => Outcome.returned (some (Value.int z))) (kB_t (decide_eq_true c_5)), trivial, by rw [ht]; exact hP9, va_K.moved hW.alike hK, hD9⟩, hS.F ht⟩) hS.2.2 dX5_hasField_13

theorem iX1_shareByte_X1 : ∀ w ∈ wsX10, w ∈ wsX1_shareByte := by decide +kernel
theorem X1_shareByte_hwd0 : (.fieldLink RX1 22 "SignatureSpans$Places" "count" "I" : Cond) ∈ wsX1_shareByte := by decide +kernel
theorem X1_shareByte_hwd1 : (.fieldLink RX1 15 "SignatureSpans$Places" "to" "[I" : Cond) ∈ wsX1_shareByte := by decide +kernel
theorem X1_shareByte_hwd2 : (.fieldLink RX1 9 "SignatureSpans$Places" "from" "[I" : Cond) ∈ wsX1_shareByte := by decide +kernel
set_option maxHeartbeats 4000000 in
set_option maxRecDepth 100000 in
/-- shareByte -/
theorem c_X1_shareByte (l : Launch) (D : va_G) (h pf pt pk : Nat) (pn x y : Nat) (bg sp : Nat → Nat) (hpn : pn ≤ 8) (hx9 : x ≤ 1500) (hy9 : y ≤ 1500) (hbg : ∀ k, k < pn → bg k ≤ 1500) (hsp : ∀ k, k < pn → sp k ≤ 1500) : kM (S := Unit) l yX1_shareByte wsX1_shareByte ({ frames := 7, cells := 0, slots := 0, locals := 100 }) 0 0 D [.ref h, .int (nI x), .int (nI y)] [(h, .inr (1, [.ref pf, .ref pt, .ref pk, .int (nI pn)])), (pf, .inl (D.1 20, 8, .inl (fun j => nI (bg j)))), (pt, .inl (D.1 20, 8, .inl (fun j => nI (sp j))))] (fun _ => some (.int (kB (kAny (kSh bg sp (lN x) (lN y)) pn)))) (fun _ => [(h, .inr (1, [.ref pf, .ref pt, .ref pk, .int (nI pn)])), (pf, .inl (D.1 20, 8, .inl (fun j => nI (bg j)))), (pt, .inl (D.1 20, 8, .inl (fun j => nI (sp j))))]) (fun _ => True) := by
  intro sz
  refine Met.ofW (cc := cX1_shareByte) (maxL := 4) (ret := (some .boolean)) (by decide) rfl ?_
  intro p e s m args below meth c s₁ B hml hv
  obtain ⟨rfl, hsz, hP, hK, hD0, hE⟩ := hv
  have hx := B.exec
  have hb := B.bytes
  have hr := B.returns
  have hts := atoms_spec (ws := wsX1_shareByte) B.pre
  have hown : s.vm.findClass RX1 = some m.cls := findClass_of_methodNamed B.named
  have hlocks := B.notSynchronized
  subst hsz
  have hD := hD0.self (sz := s.heap.size)
  generalize hAe : va_A [(h, .inr (1, [.ref pf, .ref pt, .ref pk, .int (nI pn)])), (pf, .inl (D.1 20, 8, .inl (fun j => nI (bg j)))), (pt, .inl (D.1 20, 8, .inl (fun j => nI (sp j))))] s.heap.size = A at hD hE ⊢
  have hA : ∀ q : Nat, s.heap.size ≤ q → A q := fun q h => by rw [← hAe]; exact Or.inr h
  have hS : va_S A s.heap s.heap [] := va_S.rf
  have hl := lv_entry ([.ref h, .int (nI x), .int (nI y)]) (n := 4) (Nat.le_of_ble_eq_true rfl)
  have inX1 : ∀ w ∈ wsX10, w ∈ wsX1_shareByte := iX1_shareByte_X1
  have hwd0 := hts (.fieldLink RX1 22 "SignatureSpans$Places" "count" "I") X1_shareByte_hwd0
  have hwd1 := hts (.fieldLink RX1 15 "SignatureSpans$Places" "to" "[I") X1_shareByte_hwd1
  have hwd2 := hts (.fieldLink RX1 9 "SignatureSpans$Places" "from" "[I") X1_shareByte_hwd2
  refine kgenQ (fun Q hQ => ?_)
  rw [lg_entry_eq]
  generalize (lg_sl ([.ref h, .int (nI x), .int (nI y)]) ++ List.replicate (4 - (lg_sl ([.ref h, .int (nI x), .int (nI y)])).length) Slot.unset).toArray = ls at hl ⊢
  have hl : lv_has ls 4 [(0, .ref h), (1, .int (nI x)), (2, .int (nI y))] := hl
  refine lv_iconst (v := nI 0) hx hb dX1_shareByte_0 (by decide) ?_
  refine lv_istore_n (lv' := [(3, .int (nI 0)), (0, .ref h), (1, .int (nI x)), (2, .int (nI y))]) hx hb dX1_shareByte_1 rfl hl (by decide) rfl (fun ls hl => ?_)
  have la : ∀ fu : Nat, ∀ (k : Nat), (k ≤ pn) → (∀ j, j < k → kSh bg sp (lN x) (lN y) j = false) → (pn + 1 ≤ k + fu) → ∀ (H : Heap) (locs : List Loc), va_P D kC [(h, .inr (1, [.ref pf, .ref pt, .ref pk, .int (nI pn)])), (pf, .inl (D.1 20, 8, .inl (fun j => nI (bg j)))), (pt, .inl (D.1 20, 8, .inl (fun j => nI (sp j))))] H → va_D A [(h, .inr (1, [.ref pf, .ref pt, .ref pk, .int (nI pn)])), (pf, .inl (D.1 20, 8, .inl (fun j => nI (bg j)))), (pt, .inl (D.1 20, 8, .inl (fun j => nI (sp j))))] → va_S A s.heap H locs → ∀ (ls : Array Slot), lv_has ls 4 [(0, .ref h), (1, .int (nI x)), (2, .int (nI y)), (3, .int (nI k))] → W p l e (headSpec wsX1_shareByte ({ frames := 7, cells := 0, slots := 0, locals := 100 })).room s m #[Value.ref h, Value.int (nI x), Value.int (nI y)] below meth c H locs 0 0 Q (F0 m 2 ls []) := by
    intro fu
    induction fu with
    | zero =>
      intro k h1 h2 hfu H locs hP hD hS ls hl
      exfalso; omega
    | succ fu ih_la =>
      intro k h1 h2 hfu H locs hP hD hS ls hl
      refine lv_iload_n hx hb dX1_shareByte_2 rfl (lv_at hl 3 rfl) ?_
      refine lv_aload_n hx hb dX1_shareByte_3 rfl (lv_at hl 0 rfl) ?_
      refine va_get (D := D) (ci := 1) (v := .int (nI pn)) (C := RX1) (T := TX1) (N := 4) hx hb hts inX1 hown hK hP 0 rfl rfl 3 (by decide) hwd0 (fun _ h9 => h9) rfl dX1_shareByte_4 ?_
      refine kn_icmp_ge (tgt := 38) hx hb (by omega) (by omega) dX1_shareByte_7 (by decide) (fun c_7 => ?_) (fun c_7 => ?_)
      · refine lv_iconst (v := nI 0) hx hb dX1_shareByte_38 (by decide) ?_
        rw [hQ]
        have hP9 : va_P D kC [(h, .inr (1, [.ref pf, .ref pt, .ref pk, .int (nI pn)])), (pf, .inl (D.1 20, 8, .inl (fun j => nI (bg j)))), (pt, .inl (D.1 20, 8, .inl (fun j => nI (sp j))))] _ := hP
        have hD9 : va_D A [(h, .inr (1, [.ref pf, .ref pt, .ref pk, .int (nI pn)])), (pf, .inl (D.1 20, 8, .inl (fun j => nI (bg j)))), (pt, .inl (D.1 20, 8, .inl (fun j => nI (sp j))))] := hD
        exact W.zret (v := nI 0) hx hb hr (rfl) (fun tq ht hW => ⟨⟨(), congrArg (fun z => Outcome.returned (some (Value.int z))) (kB_f (kAny_f fun j hj => h2 j (by omega))), trivial, by rw [ht]; exact hP9, va_K.moved hW.alike hK, hD9⟩, hS.F ht⟩) hS.2.2 dX1_shareByte_39
      · have hs1 := hsp k (by omega)
        have hb1 := hbg k (by omega)
        refine lv_iload_n hx hb dX1_shareByte_10 rfl (lv_at hl 1 rfl) ?_
        refine lv_aload_n hx hb dX1_shareByte_11 rfl (lv_at hl 0 rfl) ?_
        refine va_get (D := D) (ci := 1) (v := .ref pt) (C := RX1) (T := TX1) (N := 4) hx hb hts inX1 hown hK hP 0 rfl rfl 1 (by decide) hwd1 (fun _ h9 => h9) rfl dX1_shareByte_12 ?_
        refine lv_iload_n hx hb dX1_shareByte_15 rfl (lv_at hl 3 rfl) ?_
        refine kn_iald hx hb hK hP 2 0 rfl rfl (i := k) (by omega) (by decide) dX1_shareByte_16 ?_
        refine kn_icmp_ge (tgt := 32) hx hb (by omega) (by omega) dX1_shareByte_17 (by decide) (fun c_17 => ?_) (fun c_17 => ?_)
        · refine lv_iinc (v := nI (k + 1)) (lv' := [(3, .int (nI (k + 1))), (0, .ref h), (1, .int (nI x)), (2, .int (nI y))]) hx hb dX1_shareByte_32 hl (k := 3) rfl (nI_1 _) (by decide) rfl (fun ls hl => ?_)
          refine lv_goto (tgt := 2) hx hb dX1_shareByte_35 (by decide) ?_
          exact ih_la (k + 1) (by omega) (fun j hj => (Nat.lt_succ_iff_lt_or_eq.mp hj).elim (h2 j) (fun e => by rw [e]; exact by unfold kSh; rw [decide_eq_false (by rw [lN_lt (by omega) (by omega)]; omega)]; rfl)) (by omega) _ _ hP hD hS ls (lv_sub hl [1, 2, 3, 0] rfl)
        · refine lv_aload_n hx hb dX1_shareByte_20 rfl (lv_at hl 0 rfl) ?_
          refine va_get (D := D) (ci := 1) (v := .ref pf) (C := RX1) (T := TX1) (N := 4) hx hb hts inX1 hown hK hP 0 rfl rfl 0 (by decide) hwd2 (fun _ h9 => h9) rfl dX1_shareByte_21 ?_
          refine lv_iload_n hx hb dX1_shareByte_24 rfl (lv_at hl 3 rfl) ?_
          refine kn_iald hx hb hK hP 1 0 rfl rfl (i := k) (by omega) (by decide) dX1_shareByte_25 ?_
          refine lv_iload_n hx hb dX1_shareByte_26 rfl (lv_at hl 2 rfl) ?_
          refine kn_icmp_ge (tgt := 32) hx hb (by omega) (by omega) dX1_shareByte_27 (by decide) (fun c_27 => ?_) (fun c_27 => ?_)
          · refine lv_iinc (v := nI (k + 1)) (lv' := [(3, .int (nI (k + 1))), (0, .ref h), (1, .int (nI x)), (2, .int (nI y))]) hx hb dX1_shareByte_32 hl (k := 3) rfl (nI_1 _) (by decide) rfl (fun ls hl => ?_)
            refine lv_goto (tgt := 2) hx hb dX1_shareByte_35 (by decide) ?_
            exact ih_la (k + 1) (by omega) (fun j hj => (Nat.lt_succ_iff_lt_or_eq.mp hj).elim (h2 j) (fun e => by rw [e]; exact by unfold kSh; rw [decide_eq_false (p := lN (bg k) < lN y) (by rw [lN_lt (by omega) (by omega)]; omega), Bool.and_false])) (by omega) _ _ hP hD hS ls (lv_sub hl [1, 2, 3, 0] rfl)
          · refine lv_iconst (v := nI 1) hx hb dX1_shareByte_30 (by decide) ?_
            rw [hQ]
            have hP9 : va_P D kC [(h, .inr (1, [.ref pf, .ref pt, .ref pk, .int (nI pn)])), (pf, .inl (D.1 20, 8, .inl (fun j => nI (bg j)))), (pt, .inl (D.1 20, 8, .inl (fun j => nI (sp j))))] _ := hP
            have hD9 : va_D A [(h, .inr (1, [.ref pf, .ref pt, .ref pk, .int (nI pn)])), (pf, .inl (D.1 20, 8, .inl (fun j => nI (bg j)))), (pt, .inl (D.1 20, 8, .inl (fun j => nI (sp j))))] := hD
            exact W.zret (v := nI 1) hx hb hr (rfl) (fun tq ht hW => ⟨⟨(), congrArg (fun z => Outcome.returned (some (Value.int z))) (kB_t (kAny_t k (by omega) (by unfold kSh; rw [decide_eq_true (by rw [lN_lt (by omega) (by omega)]; omega), decide_eq_true (by rw [lN_lt (by omega) (by omega)]; omega)]; rfl))), trivial, by rw [ht]; exact hP9, va_K.moved hW.alike hK, hD9⟩, hS.F ht⟩) hS.2.2 dX1_shareByte_31
  exact la (pn + 1) 0 (by omega) (fun j hj => absurd hj (Nat.not_lt_zero j)) (by omega) _ _ hP hD hS ls (lv_sub hl [1, 2, 3, 0] rfl)

theorem iX1_put_X1 : ∀ w ∈ wsX10, w ∈ wsX1_put := by decide +kernel
theorem X1_put_hwd0 : (.fieldLink RX1 9 "SignatureSpans$Places" "from" "[I" : Cond) ∈ wsX1_put := by decide +kernel
theorem X1_put_hwd1 : (.fieldLink RX1 22 "SignatureSpans$Places" "count" "I" : Cond) ∈ wsX1_put := by decide +kernel
theorem X1_put_hwd2 : (.fieldLink RX1 15 "SignatureSpans$Places" "to" "[I" : Cond) ∈ wsX1_put := by decide +kernel
set_option maxHeartbeats 4000000 in
set_option maxRecDepth 100000 in
/-- put -/
theorem c_X1_put (l : Launch) (D : va_G) (h pf pt pk : Nat) (pn x y : Nat) (bg sp : Nat → Nat) (hpn : pn < 8) : kM (S := Unit) l yX1_put wsX1_put ({ frames := 7, cells := 0, slots := 0, locals := 100 }) 0 0 D [.ref h, .int (nI x), .int (nI y)] [(h, .inr (1, [.ref pf, .ref pt, .ref pk, .int (nI pn)])), (pf, .inl (D.1 20, 8, .inl (fun j => nI (bg j)))), (pt, .inl (D.1 20, 8, .inl (fun j => nI (sp j))))] (fun _ => some (.int (nI pn))) (fun _ => [(h, .inr (1, [.ref pf, .ref pt, .ref pk, .int (nI (pn + 1))])), (pf, .inl (D.1 20, 8, .inl (fun j => nI ((va_up bg pn x) j)))), (pt, .inl (D.1 20, 8, .inl (fun j => nI ((va_up sp pn y) j))))]) (fun _ => True) := by
  intro sz
  refine Met.ofW (cc := cX1_put) (maxL := 3) (ret := (some .int)) (by decide) rfl ?_
  intro p e s m args below meth c s₁ B hml hv
  obtain ⟨rfl, hsz, hP, hK, hD0, hE⟩ := hv
  have hx := B.exec
  have hb := B.bytes
  have hr := B.returns
  have hts := atoms_spec (ws := wsX1_put) B.pre
  have hown : s.vm.findClass RX1 = some m.cls := findClass_of_methodNamed B.named
  have hlocks := B.notSynchronized
  subst hsz
  have hD := hD0.self (sz := s.heap.size)
  generalize hAe : va_A [(h, .inr (1, [.ref pf, .ref pt, .ref pk, .int (nI pn)])), (pf, .inl (D.1 20, 8, .inl (fun j => nI (bg j)))), (pt, .inl (D.1 20, 8, .inl (fun j => nI (sp j))))] s.heap.size = A at hD hE ⊢
  have hA : ∀ q : Nat, s.heap.size ≤ q → A q := fun q h => by rw [← hAe]; exact Or.inr h
  have hS : va_S A s.heap s.heap [] := va_S.rf
  have hl := lv_entry ([.ref h, .int (nI x), .int (nI y)]) (n := 3) (Nat.le_of_ble_eq_true rfl)
  have inX1 : ∀ w ∈ wsX10, w ∈ wsX1_put := iX1_put_X1
  have hwd0 := hts (.fieldLink RX1 9 "SignatureSpans$Places" "from" "[I") X1_put_hwd0
  have hwd1 := hts (.fieldLink RX1 22 "SignatureSpans$Places" "count" "I") X1_put_hwd1
  have hwd2 := hts (.fieldLink RX1 15 "SignatureSpans$Places" "to" "[I") X1_put_hwd2
  refine kgenQ (fun Q hQ => ?_)
  rw [lg_entry_eq]
  generalize (lg_sl ([.ref h, .int (nI x), .int (nI y)]) ++ List.replicate (3 - (lg_sl ([.ref h, .int (nI x), .int (nI y)])).length) Slot.unset).toArray = ls at hl ⊢
  have hl : lv_has ls 3 [(0, .ref h), (1, .int (nI x)), (2, .int (nI y))] := hl
  refine lv_aload_n hx hb dX1_put_0 rfl (lv_at hl 0 rfl) ?_
  refine va_get (D := D) (ci := 1) (v := .ref pf) (C := RX1) (T := TX1) (N := 4) hx hb hts inX1 hown hK hP 0 rfl rfl 0 (by decide) hwd0 (fun _ h9 => h9) rfl dX1_put_1 ?_
  refine lv_aload_n hx hb dX1_put_4 rfl (lv_at hl 0 rfl) ?_
  refine va_get (D := D) (ci := 1) (v := .int (nI pn)) (C := RX1) (T := TX1) (N := 4) hx hb hts inX1 hown hK hP 0 rfl rfl 3 (by decide) hwd1 (fun _ h9 => h9) rfl dX1_put_5 ?_
  refine lv_iload_n hx hb dX1_put_8 rfl (lv_at hl 1 rfl) ?_
  refine kn_iast hx hb hK hP hD hS 1 0 rfl rfl (i := pn) (by omega) (by decide) dX1_put_9 (fun H locs hP hD hS => ?_)
  have hP : va_P D kC [(h, .inr (1, [.ref pf, .ref pt, .ref pk, .int (nI pn)])), (pf, .inl (D.1 20, 8, .inl (upd (fun j => nI (bg j)) pn (nI x)))), (pt, .inl (D.1 20, 8, .inl (fun j => nI (sp j))))] _ := hP
  have hD : va_D A [(h, .inr (1, [.ref pf, .ref pt, .ref pk, .int (nI pn)])), (pf, .inl (D.1 20, 8, .inl (upd (fun j => nI (bg j)) pn (nI x)))), (pt, .inl (D.1 20, 8, .inl (fun j => nI (sp j))))] := hD
  have eu9 : upd (fun j => nI (bg j)) pn (nI x) = (fun j => nI ((va_up bg pn x) j)) := kUpN _ _ _
  rw [eu9] at hP hD
  refine lv_aload_n hx hb dX1_put_10 rfl (lv_at hl 0 rfl) ?_
  refine va_get (D := D) (ci := 1) (v := .ref pt) (C := RX1) (T := TX1) (N := 4) hx hb hts inX1 hown hK hP 0 rfl rfl 1 (by decide) hwd2 (fun _ h9 => h9) rfl dX1_put_11 ?_
  refine lv_aload_n hx hb dX1_put_14 rfl (lv_at hl 0 rfl) ?_
  refine va_get (D := D) (ci := 1) (v := .int (nI pn)) (C := RX1) (T := TX1) (N := 4) hx hb hts inX1 hown hK hP 0 rfl rfl 3 (by decide) hwd1 (fun _ h9 => h9) rfl dX1_put_15 ?_
  refine lv_iload_n hx hb dX1_put_18 rfl (lv_at hl 2 rfl) ?_
  refine kn_iast hx hb hK hP hD hS 2 0 rfl rfl (i := pn) (by omega) (by decide) dX1_put_19 (fun H locs hP hD hS => ?_)
  have hP : va_P D kC [(h, .inr (1, [.ref pf, .ref pt, .ref pk, .int (nI pn)])), (pf, .inl (D.1 20, 8, .inl (fun j => nI ((va_up bg pn x) j)))), (pt, .inl (D.1 20, 8, .inl (upd (fun j => nI (sp j)) pn (nI y))))] _ := hP
  have hD : va_D A [(h, .inr (1, [.ref pf, .ref pt, .ref pk, .int (nI pn)])), (pf, .inl (D.1 20, 8, .inl (fun j => nI ((va_up bg pn x) j)))), (pt, .inl (D.1 20, 8, .inl (upd (fun j => nI (sp j)) pn (nI y))))] := hD
  have eu19 : upd (fun j => nI (sp j)) pn (nI y) = (fun j => nI ((va_up sp pn y) j)) := kUpN _ _ _
  rw [eu19] at hP hD
  refine lv_aload_n hx hb dX1_put_20 rfl (lv_at hl 0 rfl) ?_
  refine lv_dup hx hb dX1_put_21 rfl ?_
  refine va_get (D := D) (ci := 1) (v := .int (nI pn)) (C := RX1) (T := TX1) (N := 4) hx hb hts inX1 hown hK hP 0 rfl rfl 3 (by decide) hwd1 (fun _ h9 => h9) rfl dX1_put_22 ?_
  refine lv_iconst (v := nI 1) hx hb dX1_put_25 (by decide) ?_
  refine kn_iadd hx hb dX1_put_26 ?_
  refine va_put (D := D) (ci := 1) (v := .int (nI (pn + 1))) (ty := .int) (C := RX1) (T := TX1) (N := 4) hx hb hts inX1 tyX1 tyX1_ok nmX1 hown hK hP hD hS 0 rfl rfl 3 (by decide) hwd1 (fun _ h9 => h9) rfl (by decide +kernel) rfl rfl (Nat.le_of_ble_eq_true rfl) dX1_put_27 (fun H locs hP hD hS => ?_)
  have hP : va_P D kC [(h, .inr (1, [.ref pf, .ref pt, .ref pk, .int (nI (pn + 1))])), (pf, .inl (D.1 20, 8, .inl (fun j => nI ((va_up bg pn x) j)))), (pt, .inl (D.1 20, 8, .inl (fun j => nI ((va_up sp pn y) j))))] _ := hP
  have hD : va_D A [(h, .inr (1, [.ref pf, .ref pt, .ref pk, .int (nI (pn + 1))])), (pf, .inl (D.1 20, 8, .inl (fun j => nI ((va_up bg pn x) j)))), (pt, .inl (D.1 20, 8, .inl (fun j => nI ((va_up sp pn y) j))))] := hD
  refine lv_aload_n hx hb dX1_put_30 rfl (lv_at hl 0 rfl) ?_
  refine va_get (D := D) (ci := 1) (v := .int (nI (pn + 1))) (C := RX1) (T := TX1) (N := 4) hx hb hts inX1 hown hK hP 0 rfl rfl 3 (by decide) hwd1 (fun _ h9 => h9) rfl dX1_put_31 ?_
  refine lv_iconst (v := nI 1) hx hb dX1_put_34 (by decide) ?_
  refine kn_isub hx hb (by omega) dX1_put_35 ?_
  refine kt_i (v' := nI pn) (congrArg nI (Nat.add_sub_cancel pn 1)) ?_
  rw [hQ]
  have hP9 : va_P D kC [(h, .inr (1, [.ref pf, .ref pt, .ref pk, .int (nI (pn + 1))])), (pf, .inl (D.1 20, 8, .inl (fun j => nI ((va_up bg pn x) j)))), (pt, .inl (D.1 20, 8, .inl (fun j => nI ((va_up sp pn y) j))))] _ := hP
  have hD9 : va_D A [(h, .inr (1, [.ref pf, .ref pt, .ref pk, .int (nI (pn + 1))])), (pf, .inl (D.1 20, 8, .inl (fun j => nI ((va_up bg pn x) j)))), (pt, .inl (D.1 20, 8, .inl (fun j => nI ((va_up sp pn y) j))))] := hD
  exact W.iret (v := nI pn) hx hb hr (fun tq ht hW => ⟨⟨(), rfl, trivial, by rw [ht]; exact hP9, va_K.moved hW.alike hK, hD9⟩, hS.F ht⟩) hS.2.2 dX1_put_36

theorem iX1_latestFree_X1 : ∀ w ∈ wsX10, w ∈ wsX1_latestFree := by decide +kernel
theorem X1_latestFree_hwd0 : (.fieldLink RX1 22 "SignatureSpans$Places" "count" "I" : Cond) ∈ wsX1_latestFree := by decide +kernel
theorem X1_latestFree_hwd1 : (.fieldLink RX1 18 "SignatureSpans$Places" "taken" "[Z" : Cond) ∈ wsX1_latestFree := by decide +kernel
set_option maxHeartbeats 4000000 in
set_option maxRecDepth 100000 in
/-- latestFree -/
theorem c_X1_latestFree (l : Launch) (D : va_G) (h pf pt pk : Nat) (pn : Nat) (tk : Nat → Int32) (hpn : pn ≤ 8) : kM (S := Unit) l yX1_latestFree wsX1_latestFree ({ frames := 7, cells := 0, slots := 0, locals := 100 }) 0 0 D [.ref h] [(h, .inr (1, [.ref pf, .ref pt, .ref pk, .int (nI pn)])), (pk, .inl (D.1 22, 8, .inl tk))] (fun _ => some (.int (kI (kLf (fun n => decide (tk n = 0)) pn)))) (fun _ => [(h, .inr (1, [.ref pf, .ref pt, .ref pk, .int (nI pn)])), (pk, .inl (D.1 22, 8, .inl tk))]) (fun _ => True) := by
  intro sz
  refine Met.ofW (cc := cX1_latestFree) (maxL := 2) (ret := (some .int)) (by decide) rfl ?_
  intro p e s m args below meth c s₁ B hml hv
  obtain ⟨rfl, hsz, hP, hK, hD0, hE⟩ := hv
  have hx := B.exec
  have hb := B.bytes
  have hr := B.returns
  have hts := atoms_spec (ws := wsX1_latestFree) B.pre
  have hown : s.vm.findClass RX1 = some m.cls := findClass_of_methodNamed B.named
  have hlocks := B.notSynchronized
  subst hsz
  have hD := hD0.self (sz := s.heap.size)
  generalize hAe : va_A [(h, .inr (1, [.ref pf, .ref pt, .ref pk, .int (nI pn)])), (pk, .inl (D.1 22, 8, .inl tk))] s.heap.size = A at hD hE ⊢
  have hA : ∀ q : Nat, s.heap.size ≤ q → A q := fun q h => by rw [← hAe]; exact Or.inr h
  have hS : va_S A s.heap s.heap [] := va_S.rf
  have hl := lv_entry ([.ref h]) (n := 2) (Nat.le_of_ble_eq_true rfl)
  have inX1 : ∀ w ∈ wsX10, w ∈ wsX1_latestFree := iX1_latestFree_X1
  have hwd0 := hts (.fieldLink RX1 22 "SignatureSpans$Places" "count" "I") X1_latestFree_hwd0
  have hwd1 := hts (.fieldLink RX1 18 "SignatureSpans$Places" "taken" "[Z") X1_latestFree_hwd1
  refine kgenQ (fun Q hQ => ?_)
  rw [lg_entry_eq]
  generalize (lg_sl ([.ref h]) ++ List.replicate (2 - (lg_sl ([.ref h])).length) Slot.unset).toArray = ls at hl ⊢
  have hl : lv_has ls 2 [(0, .ref h)] := hl
  refine lv_aload_n hx hb dX1_latestFree_0 rfl (lv_at hl 0 rfl) ?_
  refine va_get (D := D) (ci := 1) (v := .int (nI pn)) (C := RX1) (T := TX1) (N := 4) hx hb hts inX1 hown hK hP 0 rfl rfl 3 (by decide) hwd0 (fun _ h9 => h9) rfl dX1_latestFree_1 ?_
  refine lv_iconst (v := nI 1) hx hb dX1_latestFree_4 (by decide) ?_
  refine lv_isub hx hb dX1_latestFree_5 ?_
  refine kt_i (v' := kI pn) (kI_sub pn) ?_
  refine lv_istore_n (lv' := [(1, .int (kI pn)), (0, .ref h)]) hx hb dX1_latestFree_6 rfl hl (by decide) rfl (fun ls hl => ?_)
  have la : ∀ fu : Nat, ∀ (k : Nat), (k ≤ pn) → (kLf (fun n => decide (tk n = 0)) pn = kLf (fun n => decide (tk n = 0)) k) → (k + 1 ≤ fu) → ∀ (H : Heap) (locs : List Loc), va_P D kC [(h, .inr (1, [.ref pf, .ref pt, .ref pk, .int (nI pn)])), (pk, .inl (D.1 22, 8, .inl tk))] H → va_D A [(h, .inr (1, [.ref pf, .ref pt, .ref pk, .int (nI pn)])), (pk, .inl (D.1 22, 8, .inl tk))] → va_S A s.heap H locs → ∀ (ls : Array Slot), lv_has ls 2 [(0, .ref h), (1, .int (kI k))] → W p l e (headSpec wsX1_latestFree ({ frames := 7, cells := 0, slots := 0, locals := 100 })).room s m #[Value.ref h] below meth c H locs 0 0 Q (F0 m 7 ls []) := by
    intro fu
    induction fu with
    | zero =>
      intro k h1 h2 hfu H locs hP hD hS ls hl
      exfalso; omega
    | succ fu ih_la =>
      intro k h1 h2 hfu H locs hP hD hS ls hl
      refine lv_iload_n hx hb dX1_latestFree_7 rfl (lv_at hl 1 rfl) ?_
      refine lv_if_lt (tgt := 28) hx hb dX1_latestFree_8 (by decide) (fun c_8 => ?_) (fun c_8 => ?_)
      · refine lv_iconst (v := (-1 : Int32)) hx hb dX1_latestFree_28 (by decide) ?_
        rw [hQ]
        have hP9 : va_P D kC [(h, .inr (1, [.ref pf, .ref pt, .ref pk, .int (nI pn)])), (pk, .inl (D.1 22, 8, .inl tk))] _ := hP
        have hD9 : va_D A [(h, .inr (1, [.ref pf, .ref pt, .ref pk, .int (nI pn)])), (pk, .inl (D.1 22, 8, .inl tk))] := hD
        exact W.iret (v := (-1 : Int32)) hx hb hr (fun tq ht hW => ⟨⟨(), congrArg (fun z => Outcome.returned (some (Value.int z))) (by rw [h2, (kI_lt (by omega)).mp c_8]; rfl), trivial, by rw [ht]; exact hP9, va_K.moved hW.alike hK, hD9⟩, hS.F ht⟩) hS.2.2 dX1_latestFree_29
      · have hk0 : k ≠ 0 := fun q => c_8 ((kI_lt (by omega)).mpr q)
        obtain ⟨k, rfl⟩ := Nat.exists_eq_succ_of_ne_zero hk0
        have hl : lv_has ls 2 [(0, .ref h), (1, .int (nI k))] := hl
        refine lv_aload_n hx hb dX1_latestFree_11 rfl (lv_at hl 0 rfl) ?_
        refine va_get (D := D) (ci := 1) (v := .ref pk) (C := RX1) (T := TX1) (N := 4) hx hb hts inX1 hown hK hP 0 rfl rfl 2 (by decide) hwd1 (fun _ h9 => h9) rfl dX1_latestFree_12 ?_
        refine lv_iload_n hx hb dX1_latestFree_15 rfl (lv_at hl 1 rfl) ?_
        refine kn_zald hx hb hK hP 1 2 rfl rfl (i := k) (by omega) (by decide) dX1_latestFree_16 ?_
        refine lv_if_ne (tgt := 22) hx hb dX1_latestFree_17 (by decide) (fun c_17 => ?_) (fun c_17 => ?_)
        · refine lv_iinc (v := kI k) (lv' := [(1, .int (kI k)), (0, .ref h)]) hx hb dX1_latestFree_22 hl (k := 1) rfl (kI_dec k) (by decide) rfl (fun ls hl => ?_)
          refine lv_goto (tgt := 7) hx hb dX1_latestFree_25 (by decide) ?_
          exact ih_la k (by omega) (h2.trans (kLf_f (fun q => c_17 (of_decide_eq_true q)))) (by omega) _ _ hP hD hS ls (lv_sub hl [1, 0] rfl)
        · refine lv_iload_n hx hb dX1_latestFree_20 rfl (lv_at hl 1 rfl) ?_
          rw [hQ]
          have hP9 : va_P D kC [(h, .inr (1, [.ref pf, .ref pt, .ref pk, .int (nI pn)])), (pk, .inl (D.1 22, 8, .inl tk))] _ := hP
          have hD9 : va_D A [(h, .inr (1, [.ref pf, .ref pt, .ref pk, .int (nI pn)])), (pk, .inl (D.1 22, 8, .inl tk))] := hD
          exact W.iret (v := nI k) hx hb hr (fun tq ht hW => ⟨⟨(), congrArg (fun z => Outcome.returned (some (Value.int z))) (by rw [h2]; exact (congrArg kI (kLf_t (p := (fun n => decide (tk n = 0))) (decide_eq_true c_17))).symm), trivial, by rw [ht]; exact hP9, va_K.moved hW.alike hK, hD9⟩, hS.F ht⟩) hS.2.2 dX1_latestFree_21
  exact la (pn + 1) pn (by omega) rfl (by omega) _ _ hP hD hS ls (lv_sub hl [1, 0] rfl)

theorem iX0_put_X0 : ∀ w ∈ wsX00, w ∈ wsX0_put := by decide +kernel
theorem X0_put_hwd0 : (.fieldLink RX0 9 "SignatureSpans$Changes" "kinds" "[I" : Cond) ∈ wsX0_put := by decide +kernel
theorem X0_put_hwd1 : (.fieldLink RX0 18 "SignatureSpans$Changes" "count" "I" : Cond) ∈ wsX0_put := by decide +kernel
theorem X0_put_hwd2 : (.fieldLink RX0 15 "SignatureSpans$Changes" "fields" "[I" : Cond) ∈ wsX0_put := by decide +kernel
set_option maxHeartbeats 4000000 in
set_option maxRecDepth 100000 in
/-- put -/
theorem c_X0_put (l : Launch) (D : va_G) (h ck cf ch x y : Nat) (kd fd : Nat → Nat) (hch : ch < 40) : kM (S := Unit) l yX0_put wsX0_put ({ frames := 7, cells := 0, slots := 0, locals := 100 }) 0 0 D [.ref h, .int (nI x), .int (nI y)] [(h, .inr (0, [.ref ck, .ref cf, .int (nI ch)])), (ck, .inl (D.1 20, 40, .inl (fun j => nI (kd j)))), (cf, .inl (D.1 20, 40, .inl (fun j => nI (fd j))))] (fun _ => some (.int (nI (ch + 1)))) (fun _ => [(h, .inr (0, [.ref ck, .ref cf, .int (nI (ch + 1))])), (ck, .inl (D.1 20, 40, .inl (fun j => nI ((va_up kd ch x) j)))), (cf, .inl (D.1 20, 40, .inl (fun j => nI ((va_up fd ch y) j))))]) (fun _ => True) := by
  intro sz
  refine Met.ofW (cc := cX0_put) (maxL := 3) (ret := (some .int)) (by decide) rfl ?_
  intro p e s m args below meth c s₁ B hml hv
  obtain ⟨rfl, hsz, hP, hK, hD0, hE⟩ := hv
  have hx := B.exec
  have hb := B.bytes
  have hr := B.returns
  have hts := atoms_spec (ws := wsX0_put) B.pre
  have hown : s.vm.findClass RX0 = some m.cls := findClass_of_methodNamed B.named
  have hlocks := B.notSynchronized
  subst hsz
  have hD := hD0.self (sz := s.heap.size)
  generalize hAe : va_A [(h, .inr (0, [.ref ck, .ref cf, .int (nI ch)])), (ck, .inl (D.1 20, 40, .inl (fun j => nI (kd j)))), (cf, .inl (D.1 20, 40, .inl (fun j => nI (fd j))))] s.heap.size = A at hD hE ⊢
  have hA : ∀ q : Nat, s.heap.size ≤ q → A q := fun q h => by rw [← hAe]; exact Or.inr h
  have hS : va_S A s.heap s.heap [] := va_S.rf
  have hl := lv_entry ([.ref h, .int (nI x), .int (nI y)]) (n := 3) (Nat.le_of_ble_eq_true rfl)
  have inX0 : ∀ w ∈ wsX00, w ∈ wsX0_put := iX0_put_X0
  have hwd0 := hts (.fieldLink RX0 9 "SignatureSpans$Changes" "kinds" "[I") X0_put_hwd0
  have hwd1 := hts (.fieldLink RX0 18 "SignatureSpans$Changes" "count" "I") X0_put_hwd1
  have hwd2 := hts (.fieldLink RX0 15 "SignatureSpans$Changes" "fields" "[I") X0_put_hwd2
  refine kgenQ (fun Q hQ => ?_)
  rw [lg_entry_eq]
  generalize (lg_sl ([.ref h, .int (nI x), .int (nI y)]) ++ List.replicate (3 - (lg_sl ([.ref h, .int (nI x), .int (nI y)])).length) Slot.unset).toArray = ls at hl ⊢
  have hl : lv_has ls 3 [(0, .ref h), (1, .int (nI x)), (2, .int (nI y))] := hl
  refine lv_aload_n hx hb dX0_put_0 rfl (lv_at hl 0 rfl) ?_
  refine va_get (D := D) (ci := 0) (v := .ref ck) (C := RX0) (T := TX0) (N := 3) hx hb hts inX0 hown hK hP 0 rfl rfl 0 (by decide) hwd0 (fun _ h9 => h9) rfl dX0_put_1 ?_
  refine lv_aload_n hx hb dX0_put_4 rfl (lv_at hl 0 rfl) ?_
  refine va_get (D := D) (ci := 0) (v := .int (nI ch)) (C := RX0) (T := TX0) (N := 3) hx hb hts inX0 hown hK hP 0 rfl rfl 2 (by decide) hwd1 (fun _ h9 => h9) rfl dX0_put_5 ?_
  refine lv_iload_n hx hb dX0_put_8 rfl (lv_at hl 1 rfl) ?_
  refine kn_iast hx hb hK hP hD hS 1 0 rfl rfl (i := ch) (by omega) (by decide) dX0_put_9 (fun H locs hP hD hS => ?_)
  have hP : va_P D kC [(h, .inr (0, [.ref ck, .ref cf, .int (nI ch)])), (ck, .inl (D.1 20, 40, .inl (upd (fun j => nI (kd j)) ch (nI x)))), (cf, .inl (D.1 20, 40, .inl (fun j => nI (fd j))))] _ := hP
  have hD : va_D A [(h, .inr (0, [.ref ck, .ref cf, .int (nI ch)])), (ck, .inl (D.1 20, 40, .inl (upd (fun j => nI (kd j)) ch (nI x)))), (cf, .inl (D.1 20, 40, .inl (fun j => nI (fd j))))] := hD
  have eu9 : upd (fun j => nI (kd j)) ch (nI x) = (fun j => nI ((va_up kd ch x) j)) := kUpN _ _ _
  rw [eu9] at hP hD
  refine lv_aload_n hx hb dX0_put_10 rfl (lv_at hl 0 rfl) ?_
  refine va_get (D := D) (ci := 0) (v := .ref cf) (C := RX0) (T := TX0) (N := 3) hx hb hts inX0 hown hK hP 0 rfl rfl 1 (by decide) hwd2 (fun _ h9 => h9) rfl dX0_put_11 ?_
  refine lv_aload_n hx hb dX0_put_14 rfl (lv_at hl 0 rfl) ?_
  refine va_get (D := D) (ci := 0) (v := .int (nI ch)) (C := RX0) (T := TX0) (N := 3) hx hb hts inX0 hown hK hP 0 rfl rfl 2 (by decide) hwd1 (fun _ h9 => h9) rfl dX0_put_15 ?_
  refine lv_iload_n hx hb dX0_put_18 rfl (lv_at hl 2 rfl) ?_
  refine kn_iast hx hb hK hP hD hS 2 0 rfl rfl (i := ch) (by omega) (by decide) dX0_put_19 (fun H locs hP hD hS => ?_)
  have hP : va_P D kC [(h, .inr (0, [.ref ck, .ref cf, .int (nI ch)])), (ck, .inl (D.1 20, 40, .inl (fun j => nI ((va_up kd ch x) j)))), (cf, .inl (D.1 20, 40, .inl (upd (fun j => nI (fd j)) ch (nI y))))] _ := hP
  have hD : va_D A [(h, .inr (0, [.ref ck, .ref cf, .int (nI ch)])), (ck, .inl (D.1 20, 40, .inl (fun j => nI ((va_up kd ch x) j)))), (cf, .inl (D.1 20, 40, .inl (upd (fun j => nI (fd j)) ch (nI y))))] := hD
  have eu19 : upd (fun j => nI (fd j)) ch (nI y) = (fun j => nI ((va_up fd ch y) j)) := kUpN _ _ _
  rw [eu19] at hP hD
  refine lv_aload_n hx hb dX0_put_20 rfl (lv_at hl 0 rfl) ?_
  refine lv_dup hx hb dX0_put_21 rfl ?_
  refine va_get (D := D) (ci := 0) (v := .int (nI ch)) (C := RX0) (T := TX0) (N := 3) hx hb hts inX0 hown hK hP 0 rfl rfl 2 (by decide) hwd1 (fun _ h9 => h9) rfl dX0_put_22 ?_
  refine lv_iconst (v := nI 1) hx hb dX0_put_25 (by decide) ?_
  refine kn_iadd hx hb dX0_put_26 ?_
  refine va_put (D := D) (ci := 0) (v := .int (nI (ch + 1))) (ty := .int) (C := RX0) (T := TX0) (N := 3) hx hb hts inX0 tyX0 tyX0_ok nmX0 hown hK hP hD hS 0 rfl rfl 2 (by decide) hwd1 (fun _ h9 => h9) rfl (by decide +kernel) rfl rfl (Nat.le_of_ble_eq_true rfl) dX0_put_27 (fun H locs hP hD hS => ?_)
  have hP : va_P D kC [(h, .inr (0, [.ref ck, .ref cf, .int (nI (ch + 1))])), (ck, .inl (D.1 20, 40, .inl (fun j => nI ((va_up kd ch x) j)))), (cf, .inl (D.1 20, 40, .inl (fun j => nI ((va_up fd ch y) j))))] _ := hP
  have hD : va_D A [(h, .inr (0, [.ref ck, .ref cf, .int (nI (ch + 1))])), (ck, .inl (D.1 20, 40, .inl (fun j => nI ((va_up kd ch x) j)))), (cf, .inl (D.1 20, 40, .inl (fun j => nI ((va_up fd ch y) j))))] := hD
  refine lv_aload_n hx hb dX0_put_30 rfl (lv_at hl 0 rfl) ?_
  refine va_get (D := D) (ci := 0) (v := .int (nI (ch + 1))) (C := RX0) (T := TX0) (N := 3) hx hb hts inX0 hown hK hP 0 rfl rfl 2 (by decide) hwd1 (fun _ h9 => h9) rfl dX0_put_31 ?_
  rw [hQ]
  have hP9 : va_P D kC [(h, .inr (0, [.ref ck, .ref cf, .int (nI (ch + 1))])), (ck, .inl (D.1 20, 40, .inl (fun j => nI ((va_up kd ch x) j)))), (cf, .inl (D.1 20, 40, .inl (fun j => nI ((va_up fd ch y) j))))] _ := hP
  have hD9 : va_D A [(h, .inr (0, [.ref ck, .ref cf, .int (nI (ch + 1))])), (ck, .inl (D.1 20, 40, .inl (fun j => nI ((va_up kd ch x) j)))), (cf, .inl (D.1 20, 40, .inl (fun j => nI ((va_up fd ch y) j))))] := hD
  exact W.iret (v := nI (ch + 1)) hx hb hr (fun tq ht hW => ⟨⟨(), rfl, trivial, by rw [ht]; exact hP9, va_K.moved hW.alike hK, hD9⟩, hS.F ht⟩) hS.2.2 dX0_put_34

theorem iX3_spanFault_X3 : ∀ w ∈ wsX30, w ∈ wsX3_spanFault := by decide +kernel
theorem X3_spanFault_hwd0 : (.fieldLink RX3 17 "SignatureSpans$Signature" "spans" "[J" : Cond) ∈ wsX3_spanFault := by decide +kernel
theorem X3_spanFault_hwd1 : (.fieldLink RX3 31 "SignatureSpans$Signature" "placeFrom" "I" : Cond) ∈ wsX3_spanFault := by decide +kernel
theorem X3_spanFault_hwd2 : (.fieldLink RX3 34 "SignatureSpans$Signature" "placeTo" "I" : Cond) ∈ wsX3_spanFault := by decide +kernel
theorem X3_spanFault_hwd3 : (.fieldLink RX3 37 "SignatureSpans$Signature" "end" "I" : Cond) ∈ wsX3_spanFault := by decide +kernel
set_option maxHeartbeats 4000000 in
set_option maxRecDepth 100000 in
/-- spanFault -/
theorem c_X3_spanFault (l : Launch) (D : va_G) (h dw sa cf ct pa pb en cb cl lv : Nat) (ve ak lf : Int32) (ti : Int64) (ss : Nat → Int64) (hpa : pa ≤ 1500) (hpb : pb ≤ 1500) (hen : en ≤ 1500) : kM (S := Unit) l yX3_spanFault wsX3_spanFault ({ frames := 7, cells := 0, slots := 0, locals := 100 }) 0 0 D [.ref h] [(h, .inr (3, [.int (nI pa), .int (nI pb), .int (nI en), .int ve, .long ti, .int (nI cb), .ref dw, .ref sa, .ref cf, .ref ct, .int (nI cl), .int ak, .int lf, .int (nI lv)])), (sa, .inl (D.1 23, 4, .inr (.inl ss)))] (fun _ => some (.int (nI (kSF ss pa pb en)))) (fun _ => [(h, .inr (3, [.int (nI pa), .int (nI pb), .int (nI en), .int ve, .long ti, .int (nI cb), .ref dw, .ref sa, .ref cf, .ref ct, .int (nI cl), .int ak, .int lf, .int (nI lv)])), (sa, .inl (D.1 23, 4, .inr (.inl ss)))]) (fun _ => True) := by
  intro sz
  refine Met.ofW (cc := cX3_spanFault) (maxL := 1) (ret := (some .int)) (by decide) rfl ?_
  intro p e s m args below meth c s₁ B hml hv
  obtain ⟨rfl, hsz, hP, hK, hD0, hE⟩ := hv
  have hx := B.exec
  have hb := B.bytes
  have hr := B.returns
  have hts := atoms_spec (ws := wsX3_spanFault) B.pre
  have hown : s.vm.findClass RX3 = some m.cls := findClass_of_methodNamed B.named
  have hlocks := B.notSynchronized
  subst hsz
  have hD := hD0.self (sz := s.heap.size)
  generalize hAe : va_A [(h, .inr (3, [.int (nI pa), .int (nI pb), .int (nI en), .int ve, .long ti, .int (nI cb), .ref dw, .ref sa, .ref cf, .ref ct, .int (nI cl), .int ak, .int lf, .int (nI lv)])), (sa, .inl (D.1 23, 4, .inr (.inl ss)))] s.heap.size = A at hD hE ⊢
  have hA : ∀ q : Nat, s.heap.size ≤ q → A q := fun q h => by rw [← hAe]; exact Or.inr h
  have hS : va_S A s.heap s.heap [] := va_S.rf
  have hl := lv_entry ([.ref h]) (n := 1) (Nat.le_of_ble_eq_true rfl)
  have inX3 : ∀ w ∈ wsX30, w ∈ wsX3_spanFault := iX3_spanFault_X3
  have hwd0 := hts (.fieldLink RX3 17 "SignatureSpans$Signature" "spans" "[J") X3_spanFault_hwd0
  have hwd1 := hts (.fieldLink RX3 31 "SignatureSpans$Signature" "placeFrom" "I") X3_spanFault_hwd1
  have hwd2 := hts (.fieldLink RX3 34 "SignatureSpans$Signature" "placeTo" "I") X3_spanFault_hwd2
  have hwd3 := hts (.fieldLink RX3 37 "SignatureSpans$Signature" "end" "I") X3_spanFault_hwd3
  refine kgenQ (fun Q hQ => ?_)
  rw [lg_entry_eq]
  generalize (lg_sl ([.ref h]) ++ List.replicate (1 - (lg_sl ([.ref h])).length) Slot.unset).toArray = ls at hl ⊢
  have hl : lv_has ls 1 [(0, .ref h)] := hl
  refine lv_aload_n hx hb dX3_spanFault_0 rfl (lv_at hl 0 rfl) ?_
  refine va_get (D := D) (ci := 3) (v := .ref sa) (C := RX3) (T := TX3) (N := 14) hx hb hts inX3 hown hK hP 0 rfl rfl 7 (by decide) hwd0 (fun _ h9 => h9) rfl dX3_spanFault_1 ?_
  refine lv_iconst (v := nI 0) hx hb dX3_spanFault_4 (by decide) ?_
  refine kn_lald hx hb hK hP 1 3 rfl rfl (i := 0) (by omega) (by decide) dX3_spanFault_5 ?_
  refine lv_lconst (v := lN 0) hx hb dX3_spanFault_6 (by decide) ?_
  refine W.lcmp hx hb dX3_spanFault_7 ?_
  refine lv_if_eq (tgt := 13) hx hb dX3_spanFault_8 (by decide) (fun c_8 => ?_) (fun c_8 => ?_)
  · have c_8 := (lg_cmp_eq _ _).mp c_8
    refine lv_aload_n hx hb dX3_spanFault_13 rfl (lv_at hl 0 rfl) ?_
    refine va_get (D := D) (ci := 3) (v := .ref sa) (C := RX3) (T := TX3) (N := 14) hx hb hts inX3 hown hK hP 0 rfl rfl 7 (by decide) hwd0 (fun _ h9 => h9) rfl dX3_spanFault_14 ?_
    refine lv_iconst (v := nI 1) hx hb dX3_spanFault_17 (by decide) ?_
    refine kn_lald hx hb hK hP 1 3 rfl rfl (i := 1) (by omega) (by decide) dX3_spanFault_18 ?_
    refine lv_aload_n hx hb dX3_spanFault_19 rfl (lv_at hl 0 rfl) ?_
    refine va_get (D := D) (ci := 3) (v := .int (nI pa)) (C := RX3) (T := TX3) (N := 14) hx hb hts inX3 hown hK hP 0 rfl rfl 0 (by decide) hwd1 (fun _ h9 => h9) rfl dX3_spanFault_20 ?_
    refine lv_i2l (v := lN pa) hx hb dX3_spanFault_23 (nI_l (by omega)) ?_
    refine W.lcmp hx hb dX3_spanFault_24 ?_
    refine lv_if_ne (tgt := 43) hx hb dX3_spanFault_25 (by decide) (fun c_25 => ?_) (fun c_25 => ?_)
    · have c_25 := fun h9 => c_25 ((lg_cmp_eq _ _).mpr h9)
      refine lv_iconst (v := nI 3) hx hb dX3_spanFault_43 (by decide) ?_
      rw [hQ]
      have hP9 : va_P D kC [(h, .inr (3, [.int (nI pa), .int (nI pb), .int (nI en), .int ve, .long ti, .int (nI cb), .ref dw, .ref sa, .ref cf, .ref ct, .int (nI cl), .int ak, .int lf, .int (nI lv)])), (sa, .inl (D.1 23, 4, .inr (.inl ss)))] _ := hP
      have hD9 : va_D A [(h, .inr (3, [.int (nI pa), .int (nI pb), .int (nI en), .int ve, .long ti, .int (nI cb), .ref dw, .ref sa, .ref cf, .ref ct, .int (nI cl), .int ak, .int lf, .int (nI lv)])), (sa, .inl (D.1 23, 4, .inr (.inl ss)))] := hD
      exact W.iret (v := nI 3) hx hb hr (fun tq ht hW => ⟨⟨(), congrArg (fun z => Outcome.returned (some (Value.int z))) (by unfold kSF; rw [if_pos c_8, if_neg (fun q => c_25 q.1)]), trivial, by rw [ht]; exact hP9, va_K.moved hW.alike hK, hD9⟩, hS.F ht⟩) hS.2.2 dX3_spanFault_44
    · have c_25 := (lg_cmp_eq _ _).mp c_25
      refine lv_aload_n hx hb dX3_spanFault_28 rfl (lv_at hl 0 rfl) ?_
      refine va_get (D := D) (ci := 3) (v := .ref sa) (C := RX3) (T := TX3) (N := 14) hx hb hts inX3 hown hK hP 0 rfl rfl 7 (by decide) hwd0 (fun _ h9 => h9) rfl dX3_spanFault_29 ?_
      refine lv_iconst (v := nI 2) hx hb dX3_spanFault_32 (by decide) ?_
      refine kn_lald hx hb hK hP 1 3 rfl rfl (i := 2) (by omega) (by decide) dX3_spanFault_33 ?_
      refine lv_aload_n hx hb dX3_spanFault_34 rfl (lv_at hl 0 rfl) ?_
      refine va_get (D := D) (ci := 3) (v := .int (nI pb)) (C := RX3) (T := TX3) (N := 14) hx hb hts inX3 hown hK hP 0 rfl rfl 1 (by decide) hwd2 (fun _ h9 => h9) rfl dX3_spanFault_35 ?_
      refine lv_i2l (v := lN pb) hx hb dX3_spanFault_38 (nI_l (by omega)) ?_
      refine W.lcmp hx hb dX3_spanFault_39 ?_
      refine lv_if_eq (tgt := 45) hx hb dX3_spanFault_40 (by decide) (fun c_40 => ?_) (fun c_40 => ?_)
      · have c_40 := (lg_cmp_eq _ _).mp c_40
        refine lv_aload_n hx hb dX3_spanFault_45 rfl (lv_at hl 0 rfl) ?_
        refine va_get (D := D) (ci := 3) (v := .ref sa) (C := RX3) (T := TX3) (N := 14) hx hb hts inX3 hown hK hP 0 rfl rfl 7 (by decide) hwd0 (fun _ h9 => h9) rfl dX3_spanFault_46 ?_
        refine lv_iconst (v := nI 3) hx hb dX3_spanFault_49 (by decide) ?_
        refine kn_lald hx hb hK hP 1 3 rfl rfl (i := 3) (by omega) (by decide) dX3_spanFault_50 ?_
        refine lv_aload_n hx hb dX3_spanFault_51 rfl (lv_at hl 0 rfl) ?_
        refine va_get (D := D) (ci := 3) (v := .int (nI en)) (C := RX3) (T := TX3) (N := 14) hx hb hts inX3 hown hK hP 0 rfl rfl 2 (by decide) hwd3 (fun _ h9 => h9) rfl dX3_spanFault_52 ?_
        refine lv_i2l (v := lN en) hx hb dX3_spanFault_55 (nI_l (by omega)) ?_
        refine W.lcmp hx hb dX3_spanFault_56 ?_
        refine lv_if_eq (tgt := 64) hx hb dX3_spanFault_57 (by decide) (fun c_57 => ?_) (fun c_57 => ?_)
        · have c_57 := (lg_cmp_eq _ _).mp c_57
          refine lv_iconst (v := nI 0) hx hb dX3_spanFault_64 (by decide) ?_
          rw [hQ]
          have hP9 : va_P D kC [(h, .inr (3, [.int (nI pa), .int (nI pb), .int (nI en), .int ve, .long ti, .int (nI cb), .ref dw, .ref sa, .ref cf, .ref ct, .int (nI cl), .int ak, .int lf, .int (nI lv)])), (sa, .inl (D.1 23, 4, .inr (.inl ss)))] _ := hP
          have hD9 : va_D A [(h, .inr (3, [.int (nI pa), .int (nI pb), .int (nI en), .int ve, .long ti, .int (nI cb), .ref dw, .ref sa, .ref cf, .ref ct, .int (nI cl), .int ak, .int lf, .int (nI lv)])), (sa, .inl (D.1 23, 4, .inr (.inl ss)))] := hD
          exact W.iret (v := nI 0) hx hb hr (fun tq ht hW => ⟨⟨(), congrArg (fun z => Outcome.returned (some (Value.int z))) (by unfold kSF; rw [if_pos c_8, if_pos ⟨c_25, c_40⟩, if_pos c_57]), trivial, by rw [ht]; exact hP9, va_K.moved hW.alike hK, hD9⟩, hS.F ht⟩) hS.2.2 dX3_spanFault_65
        · have c_57 := fun h9 => c_57 ((lg_cmp_eq _ _).mpr h9)
          refine lv_iconst (v := nI 4) hx hb dX3_spanFault_60 (by decide) ?_
          refine lv_goto (tgt := 65) hx hb dX3_spanFault_61 (by decide) ?_
          rw [hQ]
          have hP9 : va_P D kC [(h, .inr (3, [.int (nI pa), .int (nI pb), .int (nI en), .int ve, .long ti, .int (nI cb), .ref dw, .ref sa, .ref cf, .ref ct, .int (nI cl), .int ak, .int lf, .int (nI lv)])), (sa, .inl (D.1 23, 4, .inr (.inl ss)))] _ := hP
          have hD9 : va_D A [(h, .inr (3, [.int (nI pa), .int (nI pb), .int (nI en), .int ve, .long ti, .int (nI cb), .ref dw, .ref sa, .ref cf, .ref ct, .int (nI cl), .int ak, .int lf, .int (nI lv)])), (sa, .inl (D.1 23, 4, .inr (.inl ss)))] := hD
          exact W.iret (v := nI 4) hx hb hr (fun tq ht hW => ⟨⟨(), congrArg (fun z => Outcome.returned (some (Value.int z))) (by unfold kSF; rw [if_pos c_8, if_pos ⟨c_25, c_40⟩, if_neg c_57]), trivial, by rw [ht]; exact hP9, va_K.moved hW.alike hK, hD9⟩, hS.F ht⟩) hS.2.2 dX3_spanFault_65
      · have c_40 := fun h9 => c_40 ((lg_cmp_eq _ _).mpr h9)
        refine lv_iconst (v := nI 3) hx hb dX3_spanFault_43 (by decide) ?_
        rw [hQ]
        have hP9 : va_P D kC [(h, .inr (3, [.int (nI pa), .int (nI pb), .int (nI en), .int ve, .long ti, .int (nI cb), .ref dw, .ref sa, .ref cf, .ref ct, .int (nI cl), .int ak, .int lf, .int (nI lv)])), (sa, .inl (D.1 23, 4, .inr (.inl ss)))] _ := hP
        have hD9 : va_D A [(h, .inr (3, [.int (nI pa), .int (nI pb), .int (nI en), .int ve, .long ti, .int (nI cb), .ref dw, .ref sa, .ref cf, .ref ct, .int (nI cl), .int ak, .int lf, .int (nI lv)])), (sa, .inl (D.1 23, 4, .inr (.inl ss)))] := hD
        exact W.iret (v := nI 3) hx hb hr (fun tq ht hW => ⟨⟨(), congrArg (fun z => Outcome.returned (some (Value.int z))) (by unfold kSF; rw [if_pos c_8, if_neg (fun q => c_40 q.2)]), trivial, by rw [ht]; exact hP9, va_K.moved hW.alike hK, hD9⟩, hS.F ht⟩) hS.2.2 dX3_spanFault_44
  · have c_8 := fun h9 => c_8 ((lg_cmp_eq _ _).mpr h9)
    refine lv_iconst (v := nI 2) hx hb dX3_spanFault_11 (by decide) ?_
    rw [hQ]
    have hP9 : va_P D kC [(h, .inr (3, [.int (nI pa), .int (nI pb), .int (nI en), .int ve, .long ti, .int (nI cb), .ref dw, .ref sa, .ref cf, .ref ct, .int (nI cl), .int ak, .int lf, .int (nI lv)])), (sa, .inl (D.1 23, 4, .inr (.inl ss)))] _ := hP
    have hD9 : va_D A [(h, .inr (3, [.int (nI pa), .int (nI pb), .int (nI en), .int ve, .long ti, .int (nI cb), .ref dw, .ref sa, .ref cf, .ref ct, .int (nI cl), .int ak, .int lf, .int (nI lv)])), (sa, .inl (D.1 23, 4, .inr (.inl ss)))] := hD
    exact W.iret (v := nI 2) hx hb hr (fun tq ht hW => ⟨⟨(), congrArg (fun z => Outcome.returned (some (Value.int z))) (by unfold kSF; rw [if_neg c_8]), trivial, by rw [ht]; exact hP9, va_K.moved hW.alike hK, hD9⟩, hS.F ht⟩) hS.2.2 dX3_spanFault_12

theorem iX3_putChainRow_X3 : ∀ w ∈ wsX30, w ∈ wsX3_putChainRow := by decide +kernel
theorem X3_putChainRow_hwd0 : (.fieldLink RX3 21 "SignatureSpans$Signature" "chainFrom" "[J" : Cond) ∈ wsX3_putChainRow := by decide +kernel
theorem X3_putChainRow_hwd1 : (.fieldLink RX3 51 "SignatureSpans$Signature" "chainLength" "I" : Cond) ∈ wsX3_putChainRow := by decide +kernel
theorem X3_putChainRow_hwd2 : (.fieldLink RX3 24 "SignatureSpans$Signature" "chainTo" "[J" : Cond) ∈ wsX3_putChainRow := by decide +kernel
set_option maxHeartbeats 4000000 in
set_option maxRecDepth 100000 in
/-- putChainRow -/
theorem c_X3_putChainRow (l : Launch) (D : va_G) (h dw sa cf ct pa pb en cb cl lv : Nat) (ve ak lf : Int32) (ti : Int64) (x y : Int64) (f9 t9 : Nat → Int64) (hcl : cl < 4) : kM (S := Unit) l yX3_putChainRow wsX3_putChainRow ({ frames := 7, cells := 0, slots := 0, locals := 100 }) 0 0 D [.ref h, .long x, .long y] [(h, .inr (3, [.int (nI pa), .int (nI pb), .int (nI en), .int ve, .long ti, .int (nI cb), .ref dw, .ref sa, .ref cf, .ref ct, .int (nI cl), .int ak, .int lf, .int (nI lv)])), (cf, .inl (D.1 23, 4, .inr (.inl f9))), (ct, .inl (D.1 23, 4, .inr (.inl t9)))] (fun _ => some (.int (nI (cl + 1)))) (fun _ => [(h, .inr (3, [.int (nI pa), .int (nI pb), .int (nI en), .int ve, .long ti, .int (nI cb), .ref dw, .ref sa, .ref cf, .ref ct, .int (nI (cl + 1)), .int ak, .int lf, .int (nI lv)])), (cf, .inl (D.1 23, 4, .inr (.inl (vp_updL f9 cl x)))), (ct, .inl (D.1 23, 4, .inr (.inl (vp_updL t9 cl y))))]) (fun _ => True) := by
  intro sz
  refine Met.ofW (cc := cX3_putChainRow) (maxL := 5) (ret := (some .int)) (by decide) rfl ?_
  intro p e s m args below meth c s₁ B hml hv
  obtain ⟨rfl, hsz, hP, hK, hD0, hE⟩ := hv
  have hx := B.exec
  have hb := B.bytes
  have hr := B.returns
  have hts := atoms_spec (ws := wsX3_putChainRow) B.pre
  have hown : s.vm.findClass RX3 = some m.cls := findClass_of_methodNamed B.named
  have hlocks := B.notSynchronized
  subst hsz
  have hD := hD0.self (sz := s.heap.size)
  generalize hAe : va_A [(h, .inr (3, [.int (nI pa), .int (nI pb), .int (nI en), .int ve, .long ti, .int (nI cb), .ref dw, .ref sa, .ref cf, .ref ct, .int (nI cl), .int ak, .int lf, .int (nI lv)])), (cf, .inl (D.1 23, 4, .inr (.inl f9))), (ct, .inl (D.1 23, 4, .inr (.inl t9)))] s.heap.size = A at hD hE ⊢
  have hA : ∀ q : Nat, s.heap.size ≤ q → A q := fun q h => by rw [← hAe]; exact Or.inr h
  have hS : va_S A s.heap s.heap [] := va_S.rf
  have hl := lv_entry ([.ref h, .long x, .long y]) (n := 5) (Nat.le_of_ble_eq_true rfl)
  have inX3 : ∀ w ∈ wsX30, w ∈ wsX3_putChainRow := iX3_putChainRow_X3
  have hwd0 := hts (.fieldLink RX3 21 "SignatureSpans$Signature" "chainFrom" "[J") X3_putChainRow_hwd0
  have hwd1 := hts (.fieldLink RX3 51 "SignatureSpans$Signature" "chainLength" "I") X3_putChainRow_hwd1
  have hwd2 := hts (.fieldLink RX3 24 "SignatureSpans$Signature" "chainTo" "[J") X3_putChainRow_hwd2
  refine kgenQ (fun Q hQ => ?_)
  rw [lg_entry_eq]
  generalize (lg_sl ([.ref h, .long x, .long y]) ++ List.replicate (5 - (lg_sl ([.ref h, .long x, .long y])).length) Slot.unset).toArray = ls at hl ⊢
  have hl : lv_has ls 5 [(0, .ref h), (1, .long x), (3, .long y)] := hl
  refine lv_aload_n hx hb dX3_putChainRow_0 rfl (lv_at hl 0 rfl) ?_
  refine va_get (D := D) (ci := 3) (v := .ref cf) (C := RX3) (T := TX3) (N := 14) hx hb hts inX3 hown hK hP 0 rfl rfl 8 (by decide) hwd0 (fun _ h9 => h9) rfl dX3_putChainRow_1 ?_
  refine lv_aload_n hx hb dX3_putChainRow_4 rfl (lv_at hl 0 rfl) ?_
  refine va_get (D := D) (ci := 3) (v := .int (nI cl)) (C := RX3) (T := TX3) (N := 14) hx hb hts inX3 hown hK hP 0 rfl rfl 10 (by decide) hwd1 (fun _ h9 => h9) rfl dX3_putChainRow_5 ?_
  refine lv_lload_n hx hb dX3_putChainRow_8 rfl (lv_at hl 1 rfl) ?_
  refine kn_last hx hb hK hP hD hS 1 3 rfl rfl (i := cl) (by omega) (by decide) dX3_putChainRow_9 (fun H locs hP hD hS => ?_)
  have hP : va_P D kC [(h, .inr (3, [.int (nI pa), .int (nI pb), .int (nI en), .int ve, .long ti, .int (nI cb), .ref dw, .ref sa, .ref cf, .ref ct, .int (nI cl), .int ak, .int lf, .int (nI lv)])), (cf, .inl (D.1 23, 4, .inr (.inl (vp_updL f9 cl x)))), (ct, .inl (D.1 23, 4, .inr (.inl t9)))] _ := hP
  have hD : va_D A [(h, .inr (3, [.int (nI pa), .int (nI pb), .int (nI en), .int ve, .long ti, .int (nI cb), .ref dw, .ref sa, .ref cf, .ref ct, .int (nI cl), .int ak, .int lf, .int (nI lv)])), (cf, .inl (D.1 23, 4, .inr (.inl (vp_updL f9 cl x)))), (ct, .inl (D.1 23, 4, .inr (.inl t9)))] := hD
  refine lv_aload_n hx hb dX3_putChainRow_10 rfl (lv_at hl 0 rfl) ?_
  refine va_get (D := D) (ci := 3) (v := .ref ct) (C := RX3) (T := TX3) (N := 14) hx hb hts inX3 hown hK hP 0 rfl rfl 9 (by decide) hwd2 (fun _ h9 => h9) rfl dX3_putChainRow_11 ?_
  refine lv_aload_n hx hb dX3_putChainRow_14 rfl (lv_at hl 0 rfl) ?_
  refine va_get (D := D) (ci := 3) (v := .int (nI cl)) (C := RX3) (T := TX3) (N := 14) hx hb hts inX3 hown hK hP 0 rfl rfl 10 (by decide) hwd1 (fun _ h9 => h9) rfl dX3_putChainRow_15 ?_
  refine lv_lload_n hx hb dX3_putChainRow_18 rfl (lv_at hl 2 rfl) ?_
  refine kn_last hx hb hK hP hD hS 2 3 rfl rfl (i := cl) (by omega) (by decide) dX3_putChainRow_19 (fun H locs hP hD hS => ?_)
  have hP : va_P D kC [(h, .inr (3, [.int (nI pa), .int (nI pb), .int (nI en), .int ve, .long ti, .int (nI cb), .ref dw, .ref sa, .ref cf, .ref ct, .int (nI cl), .int ak, .int lf, .int (nI lv)])), (cf, .inl (D.1 23, 4, .inr (.inl (vp_updL f9 cl x)))), (ct, .inl (D.1 23, 4, .inr (.inl (vp_updL t9 cl y))))] _ := hP
  have hD : va_D A [(h, .inr (3, [.int (nI pa), .int (nI pb), .int (nI en), .int ve, .long ti, .int (nI cb), .ref dw, .ref sa, .ref cf, .ref ct, .int (nI cl), .int ak, .int lf, .int (nI lv)])), (cf, .inl (D.1 23, 4, .inr (.inl (vp_updL f9 cl x)))), (ct, .inl (D.1 23, 4, .inr (.inl (vp_updL t9 cl y))))] := hD
  refine lv_aload_n hx hb dX3_putChainRow_20 rfl (lv_at hl 0 rfl) ?_
  refine lv_dup hx hb dX3_putChainRow_21 rfl ?_
  refine va_get (D := D) (ci := 3) (v := .int (nI cl)) (C := RX3) (T := TX3) (N := 14) hx hb hts inX3 hown hK hP 0 rfl rfl 10 (by decide) hwd1 (fun _ h9 => h9) rfl dX3_putChainRow_22 ?_
  refine lv_iconst (v := nI 1) hx hb dX3_putChainRow_25 (by decide) ?_
  refine kn_iadd hx hb dX3_putChainRow_26 ?_
  refine va_put (D := D) (ci := 3) (v := .int (nI (cl + 1))) (ty := .int) (C := RX3) (T := TX3) (N := 14) hx hb hts inX3 tyX3 tyX3_ok nmX3 hown hK hP hD hS 0 rfl rfl 10 (by decide) hwd1 (fun _ h9 => h9) rfl (by decide +kernel) rfl rfl (Nat.le_of_ble_eq_true rfl) dX3_putChainRow_27 (fun H locs hP hD hS => ?_)
  have hP : va_P D kC [(h, .inr (3, [.int (nI pa), .int (nI pb), .int (nI en), .int ve, .long ti, .int (nI cb), .ref dw, .ref sa, .ref cf, .ref ct, .int (nI (cl + 1)), .int ak, .int lf, .int (nI lv)])), (cf, .inl (D.1 23, 4, .inr (.inl (vp_updL f9 cl x)))), (ct, .inl (D.1 23, 4, .inr (.inl (vp_updL t9 cl y))))] _ := hP
  have hD : va_D A [(h, .inr (3, [.int (nI pa), .int (nI pb), .int (nI en), .int ve, .long ti, .int (nI cb), .ref dw, .ref sa, .ref cf, .ref ct, .int (nI (cl + 1)), .int ak, .int lf, .int (nI lv)])), (cf, .inl (D.1 23, 4, .inr (.inl (vp_updL f9 cl x)))), (ct, .inl (D.1 23, 4, .inr (.inl (vp_updL t9 cl y))))] := hD
  refine lv_aload_n hx hb dX3_putChainRow_30 rfl (lv_at hl 0 rfl) ?_
  refine va_get (D := D) (ci := 3) (v := .int (nI (cl + 1))) (C := RX3) (T := TX3) (N := 14) hx hb hts inX3 hown hK hP 0 rfl rfl 10 (by decide) hwd1 (fun _ h9 => h9) rfl dX3_putChainRow_31 ?_
  rw [hQ]
  have hP9 : va_P D kC [(h, .inr (3, [.int (nI pa), .int (nI pb), .int (nI en), .int ve, .long ti, .int (nI cb), .ref dw, .ref sa, .ref cf, .ref ct, .int (nI (cl + 1)), .int ak, .int lf, .int (nI lv)])), (cf, .inl (D.1 23, 4, .inr (.inl (vp_updL f9 cl x)))), (ct, .inl (D.1 23, 4, .inr (.inl (vp_updL t9 cl y))))] _ := hP
  have hD9 : va_D A [(h, .inr (3, [.int (nI pa), .int (nI pb), .int (nI en), .int ve, .long ti, .int (nI cb), .ref dw, .ref sa, .ref cf, .ref ct, .int (nI (cl + 1)), .int ak, .int lf, .int (nI lv)])), (cf, .inl (D.1 23, 4, .inr (.inl (vp_updL f9 cl x)))), (ct, .inl (D.1 23, 4, .inr (.inl (vp_updL t9 cl y))))] := hD
  exact W.iret (v := nI (cl + 1)) hx hb hr (fun tq ht hW => ⟨⟨(), rfl, trivial, by rw [ht]; exact hP9, va_K.moved hW.alike hK, hD9⟩, hS.F ht⟩) hS.2.2 dX3_putChainRow_34

theorem iX3_chainHasTime_X3 : ∀ w ∈ wsX30, w ∈ wsX3_chainHasTime := by decide +kernel
theorem X3_chainHasTime_hwd0 : (.fieldLink RX3 51 "SignatureSpans$Signature" "chainLength" "I" : Cond) ∈ wsX3_chainHasTime := by decide +kernel
theorem X3_chainHasTime_hwd1 : (.fieldLink RX3 44 "SignatureSpans$Signature" "time" "J" : Cond) ∈ wsX3_chainHasTime := by decide +kernel
theorem X3_chainHasTime_hwd2 : (.fieldLink RX3 21 "SignatureSpans$Signature" "chainFrom" "[J" : Cond) ∈ wsX3_chainHasTime := by decide +kernel
theorem X3_chainHasTime_hwd3 : (.fieldLink RX3 24 "SignatureSpans$Signature" "chainTo" "[J" : Cond) ∈ wsX3_chainHasTime := by decide +kernel
set_option maxHeartbeats 4000000 in
set_option maxRecDepth 100000 in
/-- chainHasTime -/
theorem c_X3_chainHasTime (l : Launch) (D : va_G) (h dw sa cf ct pa pb en cb cl lv : Nat) (ve ak lf : Int32) (ti : Int64) (f9 t9 : Nat → Int64) (hcl : cl ≤ 4) : kM (S := Unit) l yX3_chainHasTime wsX3_chainHasTime ({ frames := 7, cells := 0, slots := 0, locals := 100 }) 0 0 D [.ref h] [(h, .inr (3, [.int (nI pa), .int (nI pb), .int (nI en), .int ve, .long ti, .int (nI cb), .ref dw, .ref sa, .ref cf, .ref ct, .int (nI cl), .int ak, .int lf, .int (nI lv)])), (cf, .inl (D.1 23, 4, .inr (.inl f9))), (ct, .inl (D.1 23, 4, .inr (.inl t9)))] (fun _ => some (.int (kB (decide (0 < cl) && kChn f9 t9 ti cl)))) (fun _ => [(h, .inr (3, [.int (nI pa), .int (nI pb), .int (nI en), .int ve, .long ti, .int (nI cb), .ref dw, .ref sa, .ref cf, .ref ct, .int (nI cl), .int ak, .int lf, .int (nI lv)])), (cf, .inl (D.1 23, 4, .inr (.inl f9))), (ct, .inl (D.1 23, 4, .inr (.inl t9)))]) (fun _ => True) := by
  intro sz
  refine Met.ofW (cc := cX3_chainHasTime) (maxL := 2) (ret := (some .boolean)) (by decide) rfl ?_
  intro p e s m args below meth c s₁ B hml hv
  obtain ⟨rfl, hsz, hP, hK, hD0, hE⟩ := hv
  have hx := B.exec
  have hb := B.bytes
  have hr := B.returns
  have hts := atoms_spec (ws := wsX3_chainHasTime) B.pre
  have hown : s.vm.findClass RX3 = some m.cls := findClass_of_methodNamed B.named
  have hlocks := B.notSynchronized
  subst hsz
  have hD := hD0.self (sz := s.heap.size)
  generalize hAe : va_A [(h, .inr (3, [.int (nI pa), .int (nI pb), .int (nI en), .int ve, .long ti, .int (nI cb), .ref dw, .ref sa, .ref cf, .ref ct, .int (nI cl), .int ak, .int lf, .int (nI lv)])), (cf, .inl (D.1 23, 4, .inr (.inl f9))), (ct, .inl (D.1 23, 4, .inr (.inl t9)))] s.heap.size = A at hD hE ⊢
  have hA : ∀ q : Nat, s.heap.size ≤ q → A q := fun q h => by rw [← hAe]; exact Or.inr h
  have hS : va_S A s.heap s.heap [] := va_S.rf
  have hl := lv_entry ([.ref h]) (n := 2) (Nat.le_of_ble_eq_true rfl)
  have inX3 : ∀ w ∈ wsX30, w ∈ wsX3_chainHasTime := iX3_chainHasTime_X3
  have hwd0 := hts (.fieldLink RX3 51 "SignatureSpans$Signature" "chainLength" "I") X3_chainHasTime_hwd0
  have hwd1 := hts (.fieldLink RX3 44 "SignatureSpans$Signature" "time" "J") X3_chainHasTime_hwd1
  have hwd2 := hts (.fieldLink RX3 21 "SignatureSpans$Signature" "chainFrom" "[J") X3_chainHasTime_hwd2
  have hwd3 := hts (.fieldLink RX3 24 "SignatureSpans$Signature" "chainTo" "[J") X3_chainHasTime_hwd3
  refine kgenQ (fun Q hQ => ?_)
  rw [lg_entry_eq]
  generalize (lg_sl ([.ref h]) ++ List.replicate (2 - (lg_sl ([.ref h])).length) Slot.unset).toArray = ls at hl ⊢
  have hl : lv_has ls 2 [(0, .ref h)] := hl
  refine lv_iconst (v := nI 0) hx hb dX3_chainHasTime_0 (by decide) ?_
  refine lv_istore_n (lv' := [(1, .int (nI 0)), (0, .ref h)]) hx hb dX3_chainHasTime_1 rfl hl (by decide) rfl (fun ls hl => ?_)
  have la : ∀ fu : Nat, ∀ (k : Nat), (k ≤ cl) → (kChn f9 t9 ti k = true) → (cl + 1 ≤ k + fu) → ∀ (H : Heap) (locs : List Loc), va_P D kC [(h, .inr (3, [.int (nI pa), .int (nI pb), .int (nI en), .int ve, .long ti, .int (nI cb), .ref dw, .ref sa, .ref cf, .ref ct, .int (nI cl), .int ak, .int lf, .int (nI lv)])), (cf, .inl (D.1 23, 4, .inr (.inl f9))), (ct, .inl (D.1 23, 4, .inr (.inl t9)))] H → va_D A [(h, .inr (3, [.int (nI pa), .int (nI pb), .int (nI en), .int ve, .long ti, .int (nI cb), .ref dw, .ref sa, .ref cf, .ref ct, .int (nI cl), .int ak, .int lf, .int (nI lv)])), (cf, .inl (D.1 23, 4, .inr (.inl f9))), (ct, .inl (D.1 23, 4, .inr (.inl t9)))] → va_S A s.heap H locs → ∀ (ls : Array Slot), lv_has ls 2 [(0, .ref h), (1, .int (nI k))] → W p l e (headSpec wsX3_chainHasTime ({ frames := 7, cells := 0, slots := 0, locals := 100 })).room s m #[Value.ref h] below meth c H locs 0 0 Q (F0 m 2 ls []) := by
    intro fu
    induction fu with
    | zero =>
      intro k h1 h2 hfu H locs hP hD hS ls hl
      exfalso; omega
    | succ fu ih_la =>
      intro k h1 h2 hfu H locs hP hD hS ls hl
      refine lv_iload_n hx hb dX3_chainHasTime_2 rfl (lv_at hl 1 rfl) ?_
      refine lv_aload_n hx hb dX3_chainHasTime_3 rfl (lv_at hl 0 rfl) ?_
      refine va_get (D := D) (ci := 3) (v := .int (nI cl)) (C := RX3) (T := TX3) (N := 14) hx hb hts inX3 hown hK hP 0 rfl rfl 10 (by decide) hwd0 (fun _ h9 => h9) rfl dX3_chainHasTime_4 ?_
      refine kn_icmp_ge (tgt := 46) hx hb (by omega) (by omega) dX3_chainHasTime_7 (by decide) (fun c_7 => ?_) (fun c_7 => ?_)
      · refine lv_aload_n hx hb dX3_chainHasTime_46 rfl (lv_at hl 0 rfl) ?_
        refine va_get (D := D) (ci := 3) (v := .int (nI cl)) (C := RX3) (T := TX3) (N := 14) hx hb hts inX3 hown hK hP 0 rfl rfl 10 (by decide) hwd0 (fun _ h9 => h9) rfl dX3_chainHasTime_47 ?_
        refine kn_if_le (tgt := 57) hx hb (by omega) dX3_chainHasTime_50 (by decide) (fun c_50 => ?_) (fun c_50 => ?_)
        · refine lv_iconst (v := nI 0) hx hb dX3_chainHasTime_57 (by decide) ?_
          rw [hQ]
          have hP9 : va_P D kC [(h, .inr (3, [.int (nI pa), .int (nI pb), .int (nI en), .int ve, .long ti, .int (nI cb), .ref dw, .ref sa, .ref cf, .ref ct, .int (nI cl), .int ak, .int lf, .int (nI lv)])), (cf, .inl (D.1 23, 4, .inr (.inl f9))), (ct, .inl (D.1 23, 4, .inr (.inl t9)))] _ := hP
          have hD9 : va_D A [(h, .inr (3, [.int (nI pa), .int (nI pb), .int (nI en), .int ve, .long ti, .int (nI cb), .ref dw, .ref sa, .ref cf, .ref ct, .int (nI cl), .int ak, .int lf, .int (nI lv)])), (cf, .inl (D.1 23, 4, .inr (.inl f9))), (ct, .inl (D.1 23, 4, .inr (.inl t9)))] := hD
          exact W.zret (v := nI 0) hx hb hr (rfl) (fun tq ht hW => ⟨⟨(), congrArg (fun z => Outcome.returned (some (Value.int z))) (kB_f (by rw [decide_eq_false (by omega)]; rfl)), trivial, by rw [ht]; exact hP9, va_K.moved hW.alike hK, hD9⟩, hS.F ht⟩) hS.2.2 dX3_chainHasTime_58
        · refine lv_iconst (v := nI 1) hx hb dX3_chainHasTime_53 (by decide) ?_
          refine lv_goto (tgt := 58) hx hb dX3_chainHasTime_54 (by decide) ?_
          rw [hQ]
          have hP9 : va_P D kC [(h, .inr (3, [.int (nI pa), .int (nI pb), .int (nI en), .int ve, .long ti, .int (nI cb), .ref dw, .ref sa, .ref cf, .ref ct, .int (nI cl), .int ak, .int lf, .int (nI lv)])), (cf, .inl (D.1 23, 4, .inr (.inl f9))), (ct, .inl (D.1 23, 4, .inr (.inl t9)))] _ := hP
          have hD9 : va_D A [(h, .inr (3, [.int (nI pa), .int (nI pb), .int (nI en), .int ve, .long ti, .int (nI cb), .ref dw, .ref sa, .ref cf, .ref ct, .int (nI cl), .int ak, .int lf, .int (nI lv)])), (cf, .inl (D.1 23, 4, .inr (.inl f9))), (ct, .inl (D.1 23, 4, .inr (.inl t9)))] := hD
          exact W.zret (v := nI 1) hx hb hr (rfl) (fun tq ht hW => ⟨⟨(), congrArg (fun z => Outcome.returned (some (Value.int z))) (kB_t (by rw [(show k = cl by omega)] at h2; rw [h2, decide_eq_true c_50]; rfl)), trivial, by rw [ht]; exact hP9, va_K.moved hW.alike hK, hD9⟩, hS.F ht⟩) hS.2.2 dX3_chainHasTime_58
      · refine lv_aload_n hx hb dX3_chainHasTime_10 rfl (lv_at hl 0 rfl) ?_
        refine va_get (D := D) (ci := 3) (v := .long ti) (C := RX3) (T := TX3) (N := 14) hx hb hts inX3 hown hK hP 0 rfl rfl 4 (by decide) hwd1 (fun _ h9 => h9) rfl dX3_chainHasTime_11 ?_
        refine lv_aload_n hx hb dX3_chainHasTime_14 rfl (lv_at hl 0 rfl) ?_
        refine va_get (D := D) (ci := 3) (v := .ref cf) (C := RX3) (T := TX3) (N := 14) hx hb hts inX3 hown hK hP 0 rfl rfl 8 (by decide) hwd2 (fun _ h9 => h9) rfl dX3_chainHasTime_15 ?_
        refine lv_iload_n hx hb dX3_chainHasTime_18 rfl (lv_at hl 1 rfl) ?_
        refine kn_lald hx hb hK hP 1 3 rfl rfl (i := k) (by omega) (by decide) dX3_chainHasTime_19 ?_
        refine W.lcmp hx hb dX3_chainHasTime_20 ?_
        refine lv_if_lt (tgt := 38) hx hb dX3_chainHasTime_21 (by decide) (fun c_21 => ?_) (fun c_21 => ?_)
        · have c_21 := (lg_cmp_lt _ _).mp c_21
          refine lv_iconst (v := nI 0) hx hb dX3_chainHasTime_38 (by decide) ?_
          rw [hQ]
          have hP9 : va_P D kC [(h, .inr (3, [.int (nI pa), .int (nI pb), .int (nI en), .int ve, .long ti, .int (nI cb), .ref dw, .ref sa, .ref cf, .ref ct, .int (nI cl), .int ak, .int lf, .int (nI lv)])), (cf, .inl (D.1 23, 4, .inr (.inl f9))), (ct, .inl (D.1 23, 4, .inr (.inl t9)))] _ := hP
          have hD9 : va_D A [(h, .inr (3, [.int (nI pa), .int (nI pb), .int (nI en), .int ve, .long ti, .int (nI cb), .ref dw, .ref sa, .ref cf, .ref ct, .int (nI cl), .int ak, .int lf, .int (nI lv)])), (cf, .inl (D.1 23, 4, .inr (.inl f9))), (ct, .inl (D.1 23, 4, .inr (.inl t9)))] := hD
          exact W.zret (v := nI 0) hx hb hr (rfl) (fun tq ht hW => ⟨⟨(), congrArg (fun z => Outcome.returned (some (Value.int z))) (kB_f (by rw [kChn_f k (by omega) (by rw [decide_eq_false (Int64.not_le.mpr c_21)]; rfl), Bool.and_false])), trivial, by rw [ht]; exact hP9, va_K.moved hW.alike hK, hD9⟩, hS.F ht⟩) hS.2.2 dX3_chainHasTime_39
        · have c_21 := fun h9 => c_21 ((lg_cmp_lt _ _).mpr h9)
          refine lv_aload_n hx hb dX3_chainHasTime_24 rfl (lv_at hl 0 rfl) ?_
          refine va_get (D := D) (ci := 3) (v := .long ti) (C := RX3) (T := TX3) (N := 14) hx hb hts inX3 hown hK hP 0 rfl rfl 4 (by decide) hwd1 (fun _ h9 => h9) rfl dX3_chainHasTime_25 ?_
          refine lv_aload_n hx hb dX3_chainHasTime_28 rfl (lv_at hl 0 rfl) ?_
          refine va_get (D := D) (ci := 3) (v := .ref ct) (C := RX3) (T := TX3) (N := 14) hx hb hts inX3 hown hK hP 0 rfl rfl 9 (by decide) hwd3 (fun _ h9 => h9) rfl dX3_chainHasTime_29 ?_
          refine lv_iload_n hx hb dX3_chainHasTime_32 rfl (lv_at hl 1 rfl) ?_
          refine kn_lald hx hb hK hP 2 3 rfl rfl (i := k) (by omega) (by decide) dX3_chainHasTime_33 ?_
          refine W.lcmp hx hb dX3_chainHasTime_34 ?_
          refine lv_if_le (tgt := 40) hx hb dX3_chainHasTime_35 (by decide) (fun c_35 => ?_) (fun c_35 => ?_)
          · have c_35 := (lg_cmp_le _ _).mp c_35
            refine lv_iinc (v := nI (k + 1)) (lv' := [(1, .int (nI (k + 1))), (0, .ref h)]) hx hb dX3_chainHasTime_40 hl (k := 1) rfl (nI_1 _) (by decide) rfl (fun ls hl => ?_)
            refine lv_goto (tgt := 2) hx hb dX3_chainHasTime_43 (by decide) ?_
            exact ih_la (k + 1) (by omega) (by show (kChn f9 t9 ti k && _) = true; rw [h2, decide_eq_true (Int64.not_lt.mp c_21), decide_eq_true c_35]; rfl) (by omega) _ _ hP hD hS ls (lv_sub hl [1, 0] rfl)
          · have c_35 := fun h9 => c_35 ((lg_cmp_le _ _).mpr h9)
            refine lv_iconst (v := nI 0) hx hb dX3_chainHasTime_38 (by decide) ?_
            rw [hQ]
            have hP9 : va_P D kC [(h, .inr (3, [.int (nI pa), .int (nI pb), .int (nI en), .int ve, .long ti, .int (nI cb), .ref dw, .ref sa, .ref cf, .ref ct, .int (nI cl), .int ak, .int lf, .int (nI lv)])), (cf, .inl (D.1 23, 4, .inr (.inl f9))), (ct, .inl (D.1 23, 4, .inr (.inl t9)))] _ := hP
            have hD9 : va_D A [(h, .inr (3, [.int (nI pa), .int (nI pb), .int (nI en), .int ve, .long ti, .int (nI cb), .ref dw, .ref sa, .ref cf, .ref ct, .int (nI cl), .int ak, .int lf, .int (nI lv)])), (cf, .inl (D.1 23, 4, .inr (.inl f9))), (ct, .inl (D.1 23, 4, .inr (.inl t9)))] := hD
            exact W.zret (v := nI 0) hx hb hr (rfl) (fun tq ht hW => ⟨⟨(), congrArg (fun z => Outcome.returned (some (Value.int z))) (kB_f (by rw [kChn_f k (by omega) (by rw [decide_eq_false (p := ti ≤ t9 k) c_35, Bool.and_false]), Bool.and_false])), trivial, by rw [ht]; exact hP9, va_K.moved hW.alike hK, hD9⟩, hS.F ht⟩) hS.2.2 dX3_chainHasTime_39
  exact la (cl + 1) 0 (by omega) rfl (by omega) _ _ hP hD hS ls (lv_sub hl [1, 0] rfl)

theorem iX3_allows_X3 : ∀ w ∈ wsX30, w ∈ wsX3_allows := by decide +kernel
theorem X3_allows_hwd0 : (.fieldLink RX3 27 "SignatureSpans$Signature" "allowedKinds" "I" : Cond) ∈ wsX3_allows := by decide +kernel
theorem X3_allows_hwd1 : (.fieldLink RX3 54 "SignatureSpans$Signature" "level" "I" : Cond) ∈ wsX3_allows := by decide +kernel
theorem X3_allows_hwd2 : (.fieldLink RX3 57 "SignatureSpans$Signature" "lockedFields" "I" : Cond) ∈ wsX3_allows := by decide +kernel
theorem X3_allows_hwd3 : (.initialized RX5 : Cond) ∈ wsX3_allows := by decide +kernel
theorem X3_allows_hwd4 : (.static yX5_hasField : Cond) ∈ wsX3_allows := by decide +kernel
set_option maxHeartbeats 4000000 in
set_option maxRecDepth 100000 in
/-- allows -/
theorem c_X3_allows (l : Launch) (D : va_G) (h dw sa cf ct pa pb en cb cl lv : Nat) (ve ak lf : Int32) (ti : Int64) (kd fl : Nat) (hkd : kd < 4) (hlv : lv ≤ 3) : kM (S := Unit) l yX3_allows wsX3_allows ({ frames := 8, cells := 0, slots := 0, locals := 160 }) 0 0 D [.ref h, .int (nI kd), .int (nI fl)] [(h, .inr (3, [.int (nI pa), .int (nI pb), .int (nI en), .int ve, .long ti, .int (nI cb), .ref dw, .ref sa, .ref cf, .ref ct, .int (nI cl), .int ak, .int lf, .int (nI lv)]))] (fun _ => some (.int (kB (kMay ak lv (kBit lf fl) kd)))) (fun _ => [(h, .inr (3, [.int (nI pa), .int (nI pb), .int (nI en), .int ve, .long ti, .int (nI cb), .ref dw, .ref sa, .ref cf, .ref ct, .int (nI cl), .int ak, .int lf, .int (nI lv)]))]) (fun _ => True) := by
  intro sz
  refine Met.ofW (cc := cX3_allows) (maxL := 3) (ret := (some .boolean)) (by decide) rfl ?_
  intro p e s m args below meth c s₁ B hml hv
  obtain ⟨rfl, hsz, hP, hK, hD0, hE⟩ := hv
  have hx := B.exec
  have hb := B.bytes
  have hr := B.returns
  have hts := atoms_spec (ws := wsX3_allows) B.pre
  have hown : s.vm.findClass RX3 = some m.cls := findClass_of_methodNamed B.named
  have hlocks := B.notSynchronized
  subst hsz
  have hD := hD0.self (sz := s.heap.size)
  generalize hAe : va_A [(h, .inr (3, [.int (nI pa), .int (nI pb), .int (nI en), .int ve, .long ti, .int (nI cb), .ref dw, .ref sa, .ref cf, .ref ct, .int (nI cl), .int ak, .int lf, .int (nI lv)]))] s.heap.size = A at hD hE ⊢
  have hA : ∀ q : Nat, s.heap.size ≤ q → A q := fun q h => by rw [← hAe]; exact Or.inr h
  have hS : va_S A s.heap s.heap [] := va_S.rf
  have hl := lv_entry ([.ref h, .int (nI kd), .int (nI fl)]) (n := 3) (Nat.le_of_ble_eq_true rfl)
  have inX3 : ∀ w ∈ wsX30, w ∈ wsX3_allows := iX3_allows_X3
  have hwd0 := hts (.fieldLink RX3 27 "SignatureSpans$Signature" "allowedKinds" "I") X3_allows_hwd0
  have hwd1 := hts (.fieldLink RX3 54 "SignatureSpans$Signature" "level" "I") X3_allows_hwd1
  have hwd2 := hts (.fieldLink RX3 57 "SignatureSpans$Signature" "lockedFields" "I") X3_allows_hwd2
  have hwd3 := hts (.initialized RX5) X3_allows_hwd3
  have hwd4 := hts (.static yX5_hasField) X3_allows_hwd4
  refine kgenQ (fun Q hQ => ?_)
  rw [lg_entry_eq]
  generalize (lg_sl ([.ref h, .int (nI kd), .int (nI fl)]) ++ List.replicate (3 - (lg_sl ([.ref h, .int (nI kd), .int (nI fl)])).length) Slot.unset).toArray = ls at hl ⊢
  have hl : lv_has ls 3 [(0, .ref h), (1, .int (nI kd)), (2, .int (nI fl))] := hl
  refine lv_aload_n hx hb dX3_allows_0 rfl (lv_at hl 0 rfl) ?_
  refine va_get (D := D) (ci := 3) (v := .int ak) (C := RX3) (T := TX3) (N := 14) hx hb hts inX3 hown hK hP 0 rfl rfl 11 (by decide) hwd0 (fun _ h9 => h9) rfl dX3_allows_1 ?_
  refine lv_iload_n hx hb dX3_allows_4 rfl (lv_at hl 1 rfl) ?_
  refine lv_ishr hx hb dX3_allows_5 ?_
  refine lv_iconst (v := nI 1) hx hb dX3_allows_6 (by decide) ?_
  refine lv_iand hx hb dX3_allows_7 ?_
  refine lv_if_ne (tgt := 13) hx hb dX3_allows_8 (by decide) (fun c_8 => ?_) (fun c_8 => ?_)
  · have hbt : kBit ak kd = true := decide_eq_true c_8
    refine lv_aload_n hx hb dX3_allows_13 rfl (lv_at hl 0 rfl) ?_
    refine va_get (D := D) (ci := 3) (v := .int (nI lv)) (C := RX3) (T := TX3) (N := 14) hx hb hts inX3 hown hK hP 0 rfl rfl 13 (by decide) hwd1 (fun _ h9 => h9) rfl dX3_allows_14 ?_
    refine kn_if_eq (tgt := 32) hx hb (by omega) dX3_allows_17 (by decide) (fun c_17 => ?_) (fun c_17 => ?_)
    · refine lv_iload_n hx hb dX3_allows_32 rfl (lv_at hl 1 rfl) ?_
      refine kn_if_ne (tgt := 47) hx hb (by omega) dX3_allows_33 (by decide) (fun c_33 => ?_) (fun c_33 => ?_)
      · refine lv_iconst (v := nI 1) hx hb dX3_allows_47 (by decide) ?_
        refine lv_goto (tgt := 52) hx hb dX3_allows_48 (by decide) ?_
        rw [hQ]
        have hP9 : va_P D kC [(h, .inr (3, [.int (nI pa), .int (nI pb), .int (nI en), .int ve, .long ti, .int (nI cb), .ref dw, .ref sa, .ref cf, .ref ct, .int (nI cl), .int ak, .int lf, .int (nI lv)]))] _ := hP
        have hD9 : va_D A [(h, .inr (3, [.int (nI pa), .int (nI pb), .int (nI en), .int ve, .long ti, .int (nI cb), .ref dw, .ref sa, .ref cf, .ref ct, .int (nI cl), .int ak, .int lf, .int (nI lv)]))] := hD
        exact W.zret (v := nI 1) hx hb hr (rfl) (fun tq ht hW => ⟨⟨(), congrArg (fun z => Outcome.returned (some (Value.int z))) (kB_t (by unfold kMay; rw [hbt, decide_eq_true (p := lv = 0 ∨ lv = 2 ∧ kd = 0 ∨ lv = 3 ∧ kd ≤ 1) (by omega), decide_eq_false (p := kd = 0) (by omega)]; rfl)), trivial, by rw [ht]; exact hP9, va_K.moved hW.alike hK, hD9⟩, hS.F ht⟩) hS.2.2 dX3_allows_52
      · refine lv_aload_n hx hb dX3_allows_36 rfl (lv_at hl 0 rfl) ?_
        refine va_get (D := D) (ci := 3) (v := .int lf) (C := RX3) (T := TX3) (N := 14) hx hb hts inX3 hown hK hP 0 rfl rfl 12 (by decide) hwd2 (fun _ h9 => h9) rfl dX3_allows_37 ?_
        refine lv_iload_n hx hb dX3_allows_40 rfl (lv_at hl 2 rfl) ?_
        refine kcSN (As := [.int lf, .int (nI fl)]) (rest := []) (ws := []) (wr := [(h, .inr (3, [.int (nI pa), .int (nI pb), .int (nI en), .int ve, .long ti, .int (nI cb), .ref dw, .ref sa, .ref cf, .ref ct, .int (nI cl), .int ak, .int lf, .int (nI lv)]))]) ⟨hx, hb, hml, hown, hts⟩ (c_X5_hasField l D lf fl) (⟨va_cnB 2 hts gX3_allows_X5_hasField_n60 rfl rfl rfl (hE.2.2.2.2.1 (.methodLinkNest RX3 60 yX5_hasField RX5) (by decide +kernel)) hwd3 (by decide +kernel) ⟨Nat.le_of_ble_eq_true rfl, Nat.le_of_ble_eq_true rfl⟩, hwd4, trivial⟩) hK hE hP hD hS hA [] [0] rfl rfl rfl rfl (by decide) rfl hl.1 rfl (Nat.le_of_ble_eq_true rfl) dX3_allows_41 ⟨Nat.le_of_ble_eq_true rfl, Nat.le_of_ble_eq_true rfl⟩ (fun _ H locs hpo hP hD hS => ?_)
        have hP : va_P D kC [(h, .inr (3, [.int (nI pa), .int (nI pb), .int (nI en), .int ve, .long ti, .int (nI cb), .ref dw, .ref sa, .ref cf, .ref ct, .int (nI cl), .int ak, .int lf, .int (nI lv)]))] _ := hP
        have hD : va_D A [(h, .inr (3, [.int (nI pa), .int (nI pb), .int (nI en), .int ve, .long ti, .int (nI cb), .ref dw, .ref sa, .ref cf, .ref ct, .int (nI cl), .int ak, .int lf, .int (nI lv)]))] := hD
        refine W.eq (g2 := F0 m 44 ls [.int (kB (kBit lf fl))]) rfl ?_
        refine W.widen (k := 0) (n := 0) (Nat.le_of_ble_eq_true rfl) (Nat.le_of_ble_eq_true rfl) ?_
        refine lv_if_ne (tgt := 51) hx hb dX3_allows_44 (by decide) (fun c_44 => ?_) (fun c_44 => ?_)
        · have c_44 := kB_n0.mp c_44
          refine lv_iconst (v := nI 0) hx hb dX3_allows_51 (by decide) ?_
          rw [hQ]
          have hP9 : va_P D kC [(h, .inr (3, [.int (nI pa), .int (nI pb), .int (nI en), .int ve, .long ti, .int (nI cb), .ref dw, .ref sa, .ref cf, .ref ct, .int (nI cl), .int ak, .int lf, .int (nI lv)]))] _ := hP
          have hD9 : va_D A [(h, .inr (3, [.int (nI pa), .int (nI pb), .int (nI en), .int ve, .long ti, .int (nI cb), .ref dw, .ref sa, .ref cf, .ref ct, .int (nI cl), .int ak, .int lf, .int (nI lv)]))] := hD
          exact W.zret (v := nI 0) hx hb hr (rfl) (fun tq ht hW => ⟨⟨(), congrArg (fun z => Outcome.returned (some (Value.int z))) (kB_f (by unfold kMay; rw [c_44, decide_eq_true (p := kd = 0) c_33, Bool.and_true, Bool.not_true, Bool.and_false, Bool.and_false])), trivial, by rw [ht]; exact hP9, va_K.moved hW.alike hK, hD9⟩, hS.F ht⟩) hS.2.2 dX3_allows_52
        · have c_44 := kB_e0.mp c_44
          refine lv_iconst (v := nI 1) hx hb dX3_allows_47 (by decide) ?_
          refine lv_goto (tgt := 52) hx hb dX3_allows_48 (by decide) ?_
          rw [hQ]
          have hP9 : va_P D kC [(h, .inr (3, [.int (nI pa), .int (nI pb), .int (nI en), .int ve, .long ti, .int (nI cb), .ref dw, .ref sa, .ref cf, .ref ct, .int (nI cl), .int ak, .int lf, .int (nI lv)]))] _ := hP
          have hD9 : va_D A [(h, .inr (3, [.int (nI pa), .int (nI pb), .int (nI en), .int ve, .long ti, .int (nI cb), .ref dw, .ref sa, .ref cf, .ref ct, .int (nI cl), .int ak, .int lf, .int (nI lv)]))] := hD
          exact W.zret (v := nI 1) hx hb hr (rfl) (fun tq ht hW => ⟨⟨(), congrArg (fun z => Outcome.returned (some (Value.int z))) (kB_t (by unfold kMay; rw [hbt, decide_eq_true (p := lv = 0 ∨ lv = 2 ∧ kd = 0 ∨ lv = 3 ∧ kd ≤ 1) (by omega), c_44, Bool.and_false]; rfl)), trivial, by rw [ht]; exact hP9, va_K.moved hW.alike hK, hD9⟩, hS.F ht⟩) hS.2.2 dX3_allows_52
    · refine lv_iload_n hx hb dX3_allows_20 rfl (lv_at hl 1 rfl) ?_
      refine lv_aload_n hx hb dX3_allows_21 rfl (lv_at hl 0 rfl) ?_
      refine va_get (D := D) (ci := 3) (v := .int (nI lv)) (C := RX3) (T := TX3) (N := 14) hx hb hts inX3 hown hK hP 0 rfl rfl 13 (by decide) hwd1 (fun _ h9 => h9) rfl dX3_allows_22 ?_
      refine lv_iconst (v := nI 2) hx hb dX3_allows_25 (by decide) ?_
      refine lv_isub hx hb dX3_allows_26 ?_
      refine lv_icmp_le (tgt := 32) hx hb dX3_allows_27 (by decide) (fun c_27 => ?_) (fun c_27 => ?_)
      · have c_27 := (k_lv lv (by omega) kd (by omega) c_17).mp c_27
        refine lv_iload_n hx hb dX3_allows_32 rfl (lv_at hl 1 rfl) ?_
        refine kn_if_ne (tgt := 47) hx hb (by omega) dX3_allows_33 (by decide) (fun c_33 => ?_) (fun c_33 => ?_)
        · refine lv_iconst (v := nI 1) hx hb dX3_allows_47 (by decide) ?_
          refine lv_goto (tgt := 52) hx hb dX3_allows_48 (by decide) ?_
          rw [hQ]
          have hP9 : va_P D kC [(h, .inr (3, [.int (nI pa), .int (nI pb), .int (nI en), .int ve, .long ti, .int (nI cb), .ref dw, .ref sa, .ref cf, .ref ct, .int (nI cl), .int ak, .int lf, .int (nI lv)]))] _ := hP
          have hD9 : va_D A [(h, .inr (3, [.int (nI pa), .int (nI pb), .int (nI en), .int ve, .long ti, .int (nI cb), .ref dw, .ref sa, .ref cf, .ref ct, .int (nI cl), .int ak, .int lf, .int (nI lv)]))] := hD
          exact W.zret (v := nI 1) hx hb hr (rfl) (fun tq ht hW => ⟨⟨(), congrArg (fun z => Outcome.returned (some (Value.int z))) (kB_t (by unfold kMay; rw [hbt, decide_eq_true (p := lv = 0 ∨ lv = 2 ∧ kd = 0 ∨ lv = 3 ∧ kd ≤ 1) (by omega), decide_eq_false (p := kd = 0) (by omega)]; rfl)), trivial, by rw [ht]; exact hP9, va_K.moved hW.alike hK, hD9⟩, hS.F ht⟩) hS.2.2 dX3_allows_52
        · refine lv_aload_n hx hb dX3_allows_36 rfl (lv_at hl 0 rfl) ?_
          refine va_get (D := D) (ci := 3) (v := .int lf) (C := RX3) (T := TX3) (N := 14) hx hb hts inX3 hown hK hP 0 rfl rfl 12 (by decide) hwd2 (fun _ h9 => h9) rfl dX3_allows_37 ?_
          refine lv_iload_n hx hb dX3_allows_40 rfl (lv_at hl 2 rfl) ?_
          refine kcSN (As := [.int lf, .int (nI fl)]) (rest := []) (ws := []) (wr := [(h, .inr (3, [.int (nI pa), .int (nI pb), .int (nI en), .int ve, .long ti, .int (nI cb), .ref dw, .ref sa, .ref cf, .ref ct, .int (nI cl), .int ak, .int lf, .int (nI lv)]))]) ⟨hx, hb, hml, hown, hts⟩ (c_X5_hasField l D lf fl) (⟨va_cnB 2 hts gX3_allows_X5_hasField_n60 rfl rfl rfl (hE.2.2.2.2.1 (.methodLinkNest RX3 60 yX5_hasField RX5) (by decide +kernel)) hwd3 (by decide +kernel) ⟨Nat.le_of_ble_eq_true rfl, Nat.le_of_ble_eq_true rfl⟩, hwd4, trivial⟩) hK hE hP hD hS hA [] [0] rfl rfl rfl rfl (by decide) rfl hl.1 rfl (Nat.le_of_ble_eq_true rfl) dX3_allows_41 ⟨Nat.le_of_ble_eq_true rfl, Nat.le_of_ble_eq_true rfl⟩ (fun _ H locs hpo hP hD hS => ?_)
          have hP : va_P D kC [(h, .inr (3, [.int (nI pa), .int (nI pb), .int (nI en), .int ve, .long ti, .int (nI cb), .ref dw, .ref sa, .ref cf, .ref ct, .int (nI cl), .int ak, .int lf, .int (nI lv)]))] _ := hP
          have hD : va_D A [(h, .inr (3, [.int (nI pa), .int (nI pb), .int (nI en), .int ve, .long ti, .int (nI cb), .ref dw, .ref sa, .ref cf, .ref ct, .int (nI cl), .int ak, .int lf, .int (nI lv)]))] := hD
          refine W.eq (g2 := F0 m 44 ls [.int (kB (kBit lf fl))]) rfl ?_
          refine W.widen (k := 0) (n := 0) (Nat.le_of_ble_eq_true rfl) (Nat.le_of_ble_eq_true rfl) ?_
          refine lv_if_ne (tgt := 51) hx hb dX3_allows_44 (by decide) (fun c_44 => ?_) (fun c_44 => ?_)
          · have c_44 := kB_n0.mp c_44
            refine lv_iconst (v := nI 0) hx hb dX3_allows_51 (by decide) ?_
            rw [hQ]
            have hP9 : va_P D kC [(h, .inr (3, [.int (nI pa), .int (nI pb), .int (nI en), .int ve, .long ti, .int (nI cb), .ref dw, .ref sa, .ref cf, .ref ct, .int (nI cl), .int ak, .int lf, .int (nI lv)]))] _ := hP
            have hD9 : va_D A [(h, .inr (3, [.int (nI pa), .int (nI pb), .int (nI en), .int ve, .long ti, .int (nI cb), .ref dw, .ref sa, .ref cf, .ref ct, .int (nI cl), .int ak, .int lf, .int (nI lv)]))] := hD
            exact W.zret (v := nI 0) hx hb hr (rfl) (fun tq ht hW => ⟨⟨(), congrArg (fun z => Outcome.returned (some (Value.int z))) (kB_f (by unfold kMay; rw [c_44, decide_eq_true (p := kd = 0) c_33, Bool.and_true, Bool.not_true, Bool.and_false, Bool.and_false])), trivial, by rw [ht]; exact hP9, va_K.moved hW.alike hK, hD9⟩, hS.F ht⟩) hS.2.2 dX3_allows_52
          · have c_44 := kB_e0.mp c_44
            refine lv_iconst (v := nI 1) hx hb dX3_allows_47 (by decide) ?_
            refine lv_goto (tgt := 52) hx hb dX3_allows_48 (by decide) ?_
            rw [hQ]
            have hP9 : va_P D kC [(h, .inr (3, [.int (nI pa), .int (nI pb), .int (nI en), .int ve, .long ti, .int (nI cb), .ref dw, .ref sa, .ref cf, .ref ct, .int (nI cl), .int ak, .int lf, .int (nI lv)]))] _ := hP
            have hD9 : va_D A [(h, .inr (3, [.int (nI pa), .int (nI pb), .int (nI en), .int ve, .long ti, .int (nI cb), .ref dw, .ref sa, .ref cf, .ref ct, .int (nI cl), .int ak, .int lf, .int (nI lv)]))] := hD
            exact W.zret (v := nI 1) hx hb hr (rfl) (fun tq ht hW => ⟨⟨(), congrArg (fun z => Outcome.returned (some (Value.int z))) (kB_t (by unfold kMay; rw [hbt, decide_eq_true (p := lv = 0 ∨ lv = 2 ∧ kd = 0 ∨ lv = 3 ∧ kd ≤ 1) (by omega), c_44, Bool.and_false]; rfl)), trivial, by rw [ht]; exact hP9, va_K.moved hW.alike hK, hD9⟩, hS.F ht⟩) hS.2.2 dX3_allows_52
      · have c_27 : ¬ kd + 2 ≤ lv := fun q => c_27 ((k_lv lv (by omega) kd (by omega) c_17).mpr q)
        refine lv_iconst (v := nI 0) hx hb dX3_allows_30 (by decide) ?_
        rw [hQ]
        have hP9 : va_P D kC [(h, .inr (3, [.int (nI pa), .int (nI pb), .int (nI en), .int ve, .long ti, .int (nI cb), .ref dw, .ref sa, .ref cf, .ref ct, .int (nI cl), .int ak, .int lf, .int (nI lv)]))] _ := hP
        have hD9 : va_D A [(h, .inr (3, [.int (nI pa), .int (nI pb), .int (nI en), .int ve, .long ti, .int (nI cb), .ref dw, .ref sa, .ref cf, .ref ct, .int (nI cl), .int ak, .int lf, .int (nI lv)]))] := hD
        exact W.zret (v := nI 0) hx hb hr (rfl) (fun tq ht hW => ⟨⟨(), congrArg (fun z => Outcome.returned (some (Value.int z))) (kB_f (by unfold kMay; rw [decide_eq_false (p := lv = 0 ∨ lv = 2 ∧ kd = 0 ∨ lv = 3 ∧ kd ≤ 1) (by omega), Bool.false_and, Bool.and_false])), trivial, by rw [ht]; exact hP9, va_K.moved hW.alike hK, hD9⟩, hS.F ht⟩) hS.2.2 dX3_allows_31
  · refine lv_iconst (v := nI 0) hx hb dX3_allows_11 (by decide) ?_
    rw [hQ]
    have hP9 : va_P D kC [(h, .inr (3, [.int (nI pa), .int (nI pb), .int (nI en), .int ve, .long ti, .int (nI cb), .ref dw, .ref sa, .ref cf, .ref ct, .int (nI cl), .int ak, .int lf, .int (nI lv)]))] _ := hP
    have hD9 : va_D A [(h, .inr (3, [.int (nI pa), .int (nI pb), .int (nI en), .int ve, .long ti, .int (nI cb), .ref dw, .ref sa, .ref cf, .ref ct, .int (nI cl), .int ak, .int lf, .int (nI lv)]))] := hD
    exact W.zret (v := nI 0) hx hb hr (rfl) (fun tq ht hW => ⟨⟨(), congrArg (fun z => Outcome.returned (some (Value.int z))) (kB_f (by unfold kMay kBit; rw [decide_eq_false (fun q => q c_8)]; rfl)), trivial, by rw [ht]; exact hP9, va_K.moved hW.alike hK, hD9⟩, hS.F ht⟩) hS.2.2 dX3_allows_12
