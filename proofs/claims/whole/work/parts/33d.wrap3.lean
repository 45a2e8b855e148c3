/-! ===== over the words of NoSuchElementException's throw as it is (kNsA) ===== -/
theorem wholds_k03 : (.classLink RL 37 kNse : Cond) ∈ wsL_holds3 := by decide +kernel
set_option maxHeartbeats 2000000 in
set_option maxRecDepth 100000 in
theorem w_holds3 (l : Launch) (D : va_G) (hx9 ao : Nat) (p1 : Int32) (f : Nat → Int64) {S : Type} (ws : va_W) (ws' : S → va_W) (po : S → Prop) (v : S → Int32) (code mc ms q0 : Nat) (rm : Room) (fs : List Value) (he : ws[q0]? = some (hx9, .inr (5, fs))) (hrm : rm.cells = mc ∧ rm.slots = ms ∧ rm.frames ≤ 11 ∧ rm.locals ≤ 340) (hcd : code ≤ 1)
    (hM : kX l yX5_holds wsX5_holds3 rm mc ms D [.ref hx9, .int p1] ws (kEx [kNse] code) (fun u => some (.int (v u))) ws' po) :
    kM (S := Option S) l yL_holds wsL_holds3 ({ frames := 12, cells := mc, slots := ms, locals := 420 }) mc ms D [.ref hx9, .int p1, .ref ao] ([(ao, .inl (D.1 23, 1, .inr (.inl f)))] ++ ws) (fun _ => some (.int (nI code))) (fun u => match u with | some z => [(ao, .inl (D.1 23, 1, .inr (.inl (vp_updL f 0 (v z).toInt64))))] ++ ws' z | none => ([(ao, .inl (D.1 23, 1, .inr (.inl f)))] ++ ws)) (fun u => match u with | some z => code = 0 ∧ po z | none => 0 < code) := by
  intro sz
  refine kmet (vx_ofWH (cc := cL_holds) (maxL := 4) (ret := some .int) (by decide) rfl ?_)
  intro p e s m args below meth c s₁ B hml hv
  obtain ⟨rfl, hsz, hP, hK, hD0, hE⟩ := hv
  have hx := B.exec
  have hb := B.bytes
  have hr := B.returns
  have hts := atoms_spec (ws := wsL_holds3) B.pre
  have htab : c.exceptionTable.toList = tableOf [(0, 9, 12, 37)] := vx_table (x := yL_holds) B (hts (.codeWith yL_holds cL_holds 4 (some .int) [(0, 9, 12, 37)]) List.mem_cons_self)
  have hown : s.vm.findClass RL = some m.cls := findClass_of_methodNamed B.named
  subst hsz
  have hD := hD0.self (sz := s.heap.size)
  generalize hAe : va_A ([(ao, .inl (D.1 23, 1, .inr (.inl f)))] ++ ws) s.heap.size = A at hD hE ⊢
  have hA : ∀ q : Nat, s.heap.size ≤ q → A q := fun q h => by rw [← hAe]; exact Or.inr h
  have hS : va_S A s.heap s.heap [] := va_S.rf
  have hl := lv_entry ([.ref hx9, .int p1, .ref ao]) (n := 4) (Nat.le_of_ble_eq_true rfl)
  have hk0 := hts (.classLink RL 37 kNse) wholds_k03
  refine kgenQ (fun Q hQ => ?_)
  rw [lg_entry_eq]
  generalize (lg_sl ([.ref hx9, .int p1, .ref ao]) ++ List.replicate (4 - (lg_sl ([.ref hx9, .int p1, .ref ao])).length) Slot.unset).toArray = ls at hl ⊢
  have hl : lv_has ls 4 [(0, .ref hx9), (1, .int p1), (2, .ref ao)] := hl
  refine lv_aload_n hx hb dL_holds_0 rfl (lv_at hl 2 rfl) ?_
  refine lv_iconst (v := nI 0) hx hb dL_holds_1 (by decide) ?_
  refine lv_aload_n hx hb dL_holds_2 rfl (lv_at hl 0 rfl) ?_
  refine lv_iload_n hx hb dL_holds_3 rfl (lv_at hl 1 rfl) ?_
  refine kxVR (C := RX5) (As := [.int p1]) (rest := [.int (nI 0), .ref ao]) (wr := [(ao, .inl (D.1 23, 1, .inr (.inl f)))]) (ws := ws) ⟨hx, hb, hml, hown, hts⟩ hM (cwV 1 hts gL_holds_X5_holds3 rfl hrm.1 hrm.2.1 (by decide +kernel) ⟨Nat.succ_le_succ hrm.2.2.1, Nat.le_trans (Nat.add_le_add_left hrm.2.2.2 _) (Nat.le_of_ble_eq_true rfl)⟩) hK hE hP hD hS hA q0 5 he rfl rfl rfl hl.1 rfl (Nat.le_of_ble_eq_true rfl) dL_holds_4 ⟨Nat.le_of_eq (Nat.zero_add _), Nat.le_of_eq (Nat.zero_add _)⟩ (fun E ce qx H locs hthr hP hD hS hce hcv hcl => ?_) (fun z H locs hthr hpo hP hD hS => ?_)
  · obtain ⟨k, rfl, hE9, hlt⟩ := kEx_inv hthr
    have hlt : k < 1 := hlt
    obtain rfl : k = 0 := by omega
    obtain rfl : kNse = E := Option.some.inj hE9
    refine vx_catch (own := RL) (name := kNse) (E := kNse) hown [] ⟨0, 9, 12, 37⟩ [] (by rw [htab]; rfl) (fun z hz => nomatch hz) (by decide) (by decide) hk0 (va_Nw.use rfl (hE.2.2.2.2.1 (.castable kNse kNse) (by decide +kernel))) hce hcv hcl ?_
    refine W.eq (g2 := F0 m 12 ls [.ref qx]) rfl ?_
    refine W.widen (k := mc) (n := ms) (Nat.le_of_eq (Nat.zero_add _)) (Nat.le_of_eq (Nat.zero_add _)) ?_
    refine lv_astore_n (lv' := [(3, .ref qx), (0, .ref hx9), (1, .int p1), (2, .ref ao)]) hx hb dL_holds_12 rfl hl (by decide) rfl (fun ls hl => ?_)
    refine lv_iconst (v := nI 1) hx hb dL_holds_13 (by decide) ?_
    rw [hQ]
    refine vx_ret ?_
    exact W.iret (v := nI 1) hx hb hr (fun tq ht hW => ⟨⟨none, rfl, Nat.succ_pos _, by rw [ht]; exact hP, va_K.moved hW.alike hK, hD⟩, hS.F ht⟩) hS.2.2 dL_holds_14
  · have hc0 : code = 0 := kEx_none hthr hcd
    subst hc0
    refine W.eq (g2 := F0 m 7 ls [.int (v z), .int (nI 0), .ref ao]) rfl ?_
    refine W.widen (k := mc) (n := ms) (Nat.le_of_eq (Nat.zero_add _)) (Nat.le_of_eq (Nat.zero_add _)) ?_
    refine lv_i2l (v := (v z).toInt64) hx hb dL_holds_7 (rfl) ?_
    refine kn_last hx hb hK hP hD hS 0 3 rfl rfl (i := 0) (by omega) (by decide) dL_holds_8 (fun H locs hP hD hS => ?_)
    refine lv_goto (tgt := 15) hx hb dL_holds_9 (by decide) ?_
    refine lv_iconst (v := nI 0) hx hb dL_holds_15 (by decide) ?_
    rw [hQ]
    refine vx_ret ?_
    exact W.iret (v := nI 0) hx hb hr (fun tq ht hW => ⟨⟨some z, rfl, ⟨rfl, hpo⟩, by rw [ht]; exact hP, va_K.moved hW.alike hK, hD⟩, hS.F ht⟩) hS.2.2 dL_holds_16
theorem wspan_k03 : (.classLink RL 37 kNse : Cond) ∈ wsL_span3 := by decide +kernel
theorem wspan_k13 : (.classLink RL 19 kIob : Cond) ∈ wsL_span3 := by decide +kernel
set_option maxHeartbeats 2000000 in
set_option maxRecDepth 100000 in
theorem w_span3 (l : Launch) (D : va_G) (hx9 ao : Nat) (p1 : Int32) (p2 : Int32) (p3 : Int32) (f : Nat → Int64) {S : Type} (ws : va_W) (ws' : S → va_W) (po : S → Prop) (v : S → Int64) (code mc ms q0 : Nat) (rm : Room) (fs : List Value) (he : ws[q0]? = some (hx9, .inr (5, fs))) (hrm : rm.cells = mc ∧ rm.slots = ms ∧ rm.frames ≤ 11 ∧ rm.locals ≤ 340) (hcd : code ≤ 2)
    (hM : kX l yX5_span wsX5_span3 rm mc ms D [.ref hx9, .int p1, .int p2, .int p3] ws (kEx [kNse, kIob] code) (fun u => some (.long (v u))) ws' po) :
    kM (S := Option S) l yL_span wsL_span3 ({ frames := 12, cells := mc, slots := ms, locals := 420 }) mc ms D [.ref hx9, .int p1, .int p2, .int p3, .ref ao] ([(ao, .inl (D.1 23, 1, .inr (.inl f)))] ++ ws) (fun _ => some (.int (nI code))) (fun u => match u with | some z => [(ao, .inl (D.1 23, 1, .inr (.inl (vp_updL f 0 (v z)))))] ++ ws' z | none => ([(ao, .inl (D.1 23, 1, .inr (.inl f)))] ++ ws)) (fun u => match u with | some z => code = 0 ∧ po z | none => 0 < code) := by
  intro sz
  refine kmet (vx_ofWH (cc := cL_span) (maxL := 6) (ret := some .int) (by decide) rfl ?_)
  intro p e s m args below meth c s₁ B hml hv
  obtain ⟨rfl, hsz, hP, hK, hD0, hE⟩ := hv
  have hx := B.exec
  have hb := B.bytes
  have hr := B.returns
  have hts := atoms_spec (ws := wsL_span3) B.pre
  have htab : c.exceptionTable.toList = tableOf [(0, 11, 14, 37), (0, 11, 18, 19)] := vx_table (x := yL_span) B (hts (.codeWith yL_span cL_span 6 (some .int) [(0, 11, 14, 37), (0, 11, 18, 19)]) List.mem_cons_self)
  have hown : s.vm.findClass RL = some m.cls := findClass_of_methodNamed B.named
  subst hsz
  have hD := hD0.self (sz := s.heap.size)
  generalize hAe : va_A ([(ao, .inl (D.1 23, 1, .inr (.inl f)))] ++ ws) s.heap.size = A at hD hE ⊢
  have hA : ∀ q : Nat, s.heap.size ≤ q → A q := fun q h => by rw [← hAe]; exact Or.inr h
  have hS : va_S A s.heap s.heap [] := va_S.rf
  have hl := lv_entry ([.ref hx9, .int p1, .int p2, .int p3, .ref ao]) (n := 6) (Nat.le_of_ble_eq_true rfl)
  have hk0 := hts (.classLink RL 37 kNse) wspan_k03
  have hk1 := hts (.classLink RL 19 kIob) wspan_k13
  refine kgenQ (fun Q hQ => ?_)
  rw [lg_entry_eq]
  generalize (lg_sl ([.ref hx9, .int p1, .int p2, .int p3, .ref ao]) ++ List.replicate (6 - (lg_sl ([.ref hx9, .int p1, .int p2, .int p3, .ref ao])).length) Slot.unset).toArray = ls at hl ⊢
  have hl : lv_has ls 6 [(0, .ref hx9), (1, .int p1), (2, .int p2), (3, .int p3), (4, .ref ao)] := hl
  refine lv_aload hx hb dL_span_0 (lv_at hl 4 rfl) ?_
  refine lv_iconst (v := nI 0) hx hb dL_span_2 (by decide) ?_
  refine lv_aload_n hx hb dL_span_3 rfl (lv_at hl 0 rfl) ?_
  refine lv_iload_n hx hb dL_span_4 rfl (lv_at hl 1 rfl) ?_
  refine lv_iload_n hx hb dL_span_5 rfl (lv_at hl 2 rfl) ?_
  refine lv_iload_n hx hb dL_span_6 rfl (lv_at hl 3 rfl) ?_
  refine kxVR (C := RX5) (As := [.int p1, .int p2, .int p3]) (rest := [.int (nI 0), .ref ao]) (wr := [(ao, .inl (D.1 23, 1, .inr (.inl f)))]) (ws := ws) ⟨hx, hb, hml, hown, hts⟩ hM (cwV 3 hts gL_span_X5_span3 rfl hrm.1 hrm.2.1 (by decide +kernel) ⟨Nat.succ_le_succ hrm.2.2.1, Nat.le_trans (Nat.add_le_add_left hrm.2.2.2 _) (Nat.le_of_ble_eq_true rfl)⟩) hK hE hP hD hS hA q0 5 he rfl rfl rfl hl.1 rfl (Nat.le_of_ble_eq_true rfl) dL_span_7 ⟨Nat.le_of_eq (Nat.zero_add _), Nat.le_of_eq (Nat.zero_add _)⟩ (fun E ce qx H locs hthr hP hD hS hce hcv hcl => ?_) (fun z H locs hthr hpo hP hD hS => ?_)
  · obtain ⟨k, rfl, hE9, hlt⟩ := kEx_inv hthr
    have hlt : k < 2 := hlt
    rcases (show k = 0 ∨ k = 1 by omega) with rfl | rfl
    · obtain rfl : kNse = E := Option.some.inj hE9
      refine vx_catch (own := RL) (name := kNse) (E := kNse) hown [] ⟨0, 11, 14, 37⟩ [⟨0, 11, 18, 19⟩] (by rw [htab]; rfl) (fun z hz => nomatch hz) (by decide) (by decide) hk0 (va_Nw.use rfl (hE.2.2.2.2.1 (.castable kNse kNse) (by decide +kernel))) hce hcv hcl ?_
      refine W.eq (g2 := F0 m 14 ls [.ref qx]) rfl ?_
      refine W.widen (k := mc) (n := ms) (Nat.le_of_eq (Nat.zero_add _)) (Nat.le_of_eq (Nat.zero_add _)) ?_
      refine lv_astore (lv' := [(5, .ref qx), (0, .ref hx9), (1, .int p1), (2, .int p2), (3, .int p3), (4, .ref ao)]) hx hb dL_span_14 hl (by decide) rfl (fun ls hl => ?_)
      refine lv_iconst (v := nI 1) hx hb dL_span_16 (by decide) ?_
      rw [hQ]
      refine vx_ret ?_
      exact W.iret (v := nI 1) hx hb hr (fun tq ht hW => ⟨⟨none, rfl, Nat.succ_pos _, by rw [ht]; exact hP, va_K.moved hW.alike hK, hD⟩, hS.F ht⟩) hS.2.2 dL_span_17
    · obtain rfl : kIob = E := Option.some.inj hE9
      refine vx_catch (own := RL) (name := kIob) (E := kIob) hown [⟨0, 11, 14, 37⟩] ⟨0, 11, 18, 19⟩ [] (by rw [htab]; rfl) (fun z hz => by
        simp only [List.mem_cons, List.not_mem_nil, or_false] at hz
        subst hz
        exact Or.inr ⟨by decide, kNse, hk0, hE.2.2.2.2.2.1 (kIob, kNse) (by decide +kernel)⟩) (by decide) (by decide) hk1 (va_Nw.use rfl (hE.2.2.2.2.1 (.castable kIob kIob) (by decide +kernel))) hce hcv hcl ?_
      refine W.eq (g2 := F0 m 18 ls [.ref qx]) rfl ?_
      refine W.widen (k := mc) (n := ms) (Nat.le_of_eq (Nat.zero_add _)) (Nat.le_of_eq (Nat.zero_add _)) ?_
      refine lv_astore (lv' := [(5, .ref qx), (0, .ref hx9), (1, .int p1), (2, .int p2), (3, .int p3), (4, .ref ao)]) hx hb dL_span_18 hl (by decide) rfl (fun ls hl => ?_)
      refine lv_iconst (v := nI 2) hx hb dL_span_20 (by decide) ?_
      rw [hQ]
      refine vx_ret ?_
      exact W.iret (v := nI 2) hx hb hr (fun tq ht hW => ⟨⟨none, rfl, Nat.succ_pos _, by rw [ht]; exact hP, va_K.moved hW.alike hK, hD⟩, hS.F ht⟩) hS.2.2 dL_span_21
  · have hc0 : code = 0 := kEx_none hthr hcd
    subst hc0
    refine W.eq (g2 := F0 m 10 ls [.long (v z), .int (nI 0), .ref ao]) rfl ?_
    refine W.widen (k := mc) (n := ms) (Nat.le_of_eq (Nat.zero_add _)) (Nat.le_of_eq (Nat.zero_add _)) ?_
    refine kn_last hx hb hK hP hD hS 0 3 rfl rfl (i := 0) (by omega) (by decide) dL_span_10 (fun H locs hP hD hS => ?_)
    refine lv_goto (tgt := 22) hx hb dL_span_11 (by decide) ?_
    refine lv_iconst (v := nI 0) hx hb dL_span_22 (by decide) ?_
    rw [hQ]
    refine vx_ret ?_
    exact W.iret (v := nI 0) hx hb hr (fun tq ht hW => ⟨⟨some z, rfl, ⟨rfl, hpo⟩, by rw [ht]; exact hP, va_K.moved hW.alike hK, hD⟩, hS.F ht⟩) hS.2.2 dL_span_23
theorem wtell_k03 : (.classLink RL 37 kNse : Cond) ∈ wsL_tell3 := by decide +kernel
theorem wtell_k13 : (.classLink RL 19 kIob : Cond) ∈ wsL_tell3 := by decide +kernel
set_option maxHeartbeats 2000000 in
set_option maxRecDepth 100000 in
theorem w_tell3 (l : Launch) (D : va_G) (hx9 : Nat) (p1 : Int32) (p2 : Int32) (p3 : Int64) (p4 : Int64) {S : Type} (ws : va_W) (ws' : S → va_W) (po : S → Prop) (code mc ms q0 : Nat) (rm : Room) (fs : List Value) (he : ws[q0]? = some (hx9, .inr (5, fs))) (hrm : rm.cells = mc ∧ rm.slots = ms ∧ rm.frames ≤ 11 ∧ rm.locals ≤ 340) (hcd : code ≤ 2)
    (hM : kX l yX5_tell wsX5_tell3 rm mc ms D [.ref hx9, .int p1, .int p2, .long p3, .long p4] ws (kEx [kNse, kIob] code) (fun _ => none) ws' po) :
    kM (S := Option S) l yL_tell wsL_tell3 ({ frames := 12, cells := mc, slots := ms, locals := 420 }) mc ms D [.ref hx9, .int p1, .int p2, .long p3, .long p4] ws (fun _ => some (.int (nI code))) (fun u => match u with | some z => ws' z | none => ws) (fun u => match u with | some z => code = 0 ∧ po z | none => 0 < code) := by
  intro sz
  refine kmet (vx_ofWH (cc := cL_tell) (maxL := 8) (ret := some .int) (by decide) rfl ?_)
  intro p e s m args below meth c s₁ B hml hv
  obtain ⟨rfl, hsz, hP, hK, hD0, hE⟩ := hv
  have hx := B.exec
  have hb := B.bytes
  have hr := B.returns
  have hts := atoms_spec (ws := wsL_tell3) B.pre
  have htab : c.exceptionTable.toList = tableOf [(0, 9, 12, 37), (0, 9, 16, 19)] := vx_table (x := yL_tell) B (hts (.codeWith yL_tell cL_tell 8 (some .int) [(0, 9, 12, 37), (0, 9, 16, 19)]) List.mem_cons_self)
  have hown : s.vm.findClass RL = some m.cls := findClass_of_methodNamed B.named
  subst hsz
  have hD := hD0.self (sz := s.heap.size)
  generalize hAe : va_A ws s.heap.size = A at hD hE ⊢
  have hA : ∀ q : Nat, s.heap.size ≤ q → A q := fun q h => by rw [← hAe]; exact Or.inr h
  have hS : va_S A s.heap s.heap [] := va_S.rf
  have hl := lv_entry ([.ref hx9, .int p1, .int p2, .long p3, .long p4]) (n := 8) (Nat.le_of_ble_eq_true rfl)
  have hk0 := hts (.classLink RL 37 kNse) wtell_k03
  have hk1 := hts (.classLink RL 19 kIob) wtell_k13
  refine kgenQ (fun Q hQ => ?_)
  rw [lg_entry_eq]
  generalize (lg_sl ([.ref hx9, .int p1, .int p2, .long p3, .long p4]) ++ List.replicate (8 - (lg_sl ([.ref hx9, .int p1, .int p2, .long p3, .long p4])).length) Slot.unset).toArray = ls at hl ⊢
  have hl : lv_has ls 8 [(0, .ref hx9), (1, .int p1), (2, .int p2), (3, .long p3), (5, .long p4)] := hl
  refine lv_aload_n hx hb dL_tell_0 rfl (lv_at hl 0 rfl) ?_
  refine lv_iload_n hx hb dL_tell_1 rfl (lv_at hl 1 rfl) ?_
  refine lv_iload_n hx hb dL_tell_2 rfl (lv_at hl 2 rfl) ?_
  refine lv_lload_n hx hb dL_tell_3 rfl (lv_at hl 3 rfl) ?_
  refine lv_lload hx hb dL_tell_4 (lv_at hl 4 rfl) ?_
  refine kxVR (C := RX5) (As := [.int p1, .int p2, .long p3, .long p4]) (rest := []) (wr := []) (ws := ws) ⟨hx, hb, hml, hown, hts⟩ hM (cwV 4 hts gL_tell_X5_tell3 rfl hrm.1 hrm.2.1 (by decide +kernel) ⟨Nat.succ_le_succ hrm.2.2.1, Nat.le_trans (Nat.add_le_add_left hrm.2.2.2 _) (Nat.le_of_ble_eq_true rfl)⟩) hK hE hP hD hS hA q0 5 he rfl rfl rfl hl.1 rfl (Nat.le_of_ble_eq_true rfl) dL_tell_6 ⟨Nat.le_of_eq (Nat.zero_add _), Nat.le_of_eq (Nat.zero_add _)⟩ (fun E ce qx H locs hthr hP hD hS hce hcv hcl => ?_) (fun z H locs hthr hpo hP hD hS => ?_)
  · obtain ⟨k, rfl, hE9, hlt⟩ := kEx_inv hthr
    have hlt : k < 2 := hlt
    rcases (show k = 0 ∨ k = 1 by omega) with rfl | rfl
    · obtain rfl : kNse = E := Option.some.inj hE9
      refine vx_catch (own := RL) (name := kNse) (E := kNse) hown [] ⟨0, 9, 12, 37⟩ [⟨0, 9, 16, 19⟩] (by rw [htab]; rfl) (fun z hz => nomatch hz) (by decide) (by decide) hk0 (va_Nw.use rfl (hE.2.2.2.2.1 (.castable kNse kNse) (by decide +kernel))) hce hcv hcl ?_
      refine W.eq (g2 := F0 m 12 ls [.ref qx]) rfl ?_
      refine W.widen (k := mc) (n := ms) (Nat.le_of_eq (Nat.zero_add _)) (Nat.le_of_eq (Nat.zero_add _)) ?_
      refine lv_astore (lv' := [(7, .ref qx), (0, .ref hx9), (1, .int p1), (2, .int p2), (3, .long p3), (5, .long p4)]) hx hb dL_tell_12 hl (by decide) rfl (fun ls hl => ?_)
      refine lv_iconst (v := nI 1) hx hb dL_tell_14 (by decide) ?_
      rw [hQ]
      refine vx_ret ?_
      exact W.iret (v := nI 1) hx hb hr (fun tq ht hW => ⟨⟨none, rfl, Nat.succ_pos _, by rw [ht]; exact hP, va_K.moved hW.alike hK, hD⟩, hS.F ht⟩) hS.2.2 dL_tell_15
    · obtain rfl : kIob = E := Option.some.inj hE9
      refine vx_catch (own := RL) (name := kIob) (E := kIob) hown [⟨0, 9, 12, 37⟩] ⟨0, 9, 16, 19⟩ [] (by rw [htab]; rfl) (fun z hz => by
        simp only [List.mem_cons, List.not_mem_nil, or_false] at hz
        subst hz
        exact Or.inr ⟨by decide, kNse, hk0, hE.2.2.2.2.2.1 (kIob, kNse) (by decide +kernel)⟩) (by decide) (by decide) hk1 (va_Nw.use rfl (hE.2.2.2.2.1 (.castable kIob kIob) (by decide +kernel))) hce hcv hcl ?_
      refine W.eq (g2 := F0 m 16 ls [.ref qx]) rfl ?_
      refine W.widen (k := mc) (n := ms) (Nat.le_of_eq (Nat.zero_add _)) (Nat.le_of_eq (Nat.zero_add _)) ?_
      refine lv_astore (lv' := [(7, .ref qx), (0, .ref hx9), (1, .int p1), (2, .int p2), (3, .long p3), (5, .long p4)]) hx hb dL_tell_16 hl (by decide) rfl (fun ls hl => ?_)
      refine lv_iconst (v := nI 2) hx hb dL_tell_18 (by decide) ?_
      rw [hQ]
      refine vx_ret ?_
      exact W.iret (v := nI 2) hx hb hr (fun tq ht hW => ⟨⟨none, rfl, Nat.succ_pos _, by rw [ht]; exact hP, va_K.moved hW.alike hK, hD⟩, hS.F ht⟩) hS.2.2 dL_tell_19
  · have hc0 : code = 0 := kEx_none hthr hcd
    subst hc0
    refine W.eq (g2 := F0 m 9 ls []) rfl ?_
    refine W.widen (k := mc) (n := ms) (Nat.le_of_eq (Nat.zero_add _)) (Nat.le_of_eq (Nat.zero_add _)) ?_
    refine lv_goto (tgt := 20) hx hb dL_tell_9 (by decide) ?_
    refine lv_iconst (v := nI 0) hx hb dL_tell_20 (by decide) ?_
    rw [hQ]
    refine vx_ret ?_
    exact W.iret (v := nI 0) hx hb hr (fun tq ht hW => ⟨⟨some z, rfl, ⟨rfl, hpo⟩, by rw [ht]; exact hP, va_K.moved hW.alike hK, hD⟩, hS.F ht⟩) hS.2.2 dL_tell_21
theorem wchain_k03 : (.classLink RL 37 kNse : Cond) ∈ wsL_chain3 := by decide +kernel
theorem wchain_k13 : (.classLink RL 25 kIae : Cond) ∈ wsL_chain3 := by decide +kernel
theorem wchain_k23 : (.classLink RL 13 kUoe : Cond) ∈ wsL_chain3 := by decide +kernel
set_option maxHeartbeats 2000000 in
set_option maxRecDepth 100000 in
theorem w_chain3 (l : Launch) (D : va_G) (hx9 ao : Nat) (p1 : Int32) (p2 : Int64) (p3 : Int64) (f : Nat → Int64) {S : Type} (ws : va_W) (ws' : S → va_W) (po : S → Prop) (v : S → Int32) (code mc ms q0 : Nat) (rm : Room) (fs : List Value) (he : ws[q0]? = some (hx9, .inr (5, fs))) (hrm : rm.cells = mc ∧ rm.slots = ms ∧ rm.frames ≤ 11 ∧ rm.locals ≤ 340) (hcd : code ≤ 3)
    (hM : kX l yX5_chain wsX5_chain3 rm mc ms D [.ref hx9, .int p1, .long p2, .long p3] ws (kEx [kNse, kIae, kUoe] code) (fun u => some (.int (v u))) ws' po) :
    kM (S := Option S) l yL_chain wsL_chain3 ({ frames := 12, cells := mc, slots := ms, locals := 420 }) mc ms D [.ref hx9, .int p1, .long p2, .long p3, .ref ao] ([(ao, .inl (D.1 23, 1, .inr (.inl f)))] ++ ws) (fun _ => some (.int (nI code))) (fun u => match u with | some z => [(ao, .inl (D.1 23, 1, .inr (.inl (vp_updL f 0 (v z).toInt64))))] ++ ws' z | none => ([(ao, .inl (D.1 23, 1, .inr (.inl f)))] ++ ws)) (fun u => match u with | some z => code = 0 ∧ po z | none => 0 < code) := by
  intro sz
  refine kmet (vx_ofWH (cc := cL_chain) (maxL := 8) (ret := some .int) (by decide) rfl ?_)
  intro p e s m args below meth c s₁ B hml hv
  obtain ⟨rfl, hsz, hP, hK, hD0, hE⟩ := hv
  have hx := B.exec
  have hb := B.bytes
  have hr := B.returns
  have hts := atoms_spec (ws := wsL_chain3) B.pre
  have htab : c.exceptionTable.toList = tableOf [(0, 13, 16, 37), (0, 13, 20, 25), (0, 13, 24, 13)] := vx_table (x := yL_chain) B (hts (.codeWith yL_chain cL_chain 8 (some .int) [(0, 13, 16, 37), (0, 13, 20, 25), (0, 13, 24, 13)]) List.mem_cons_self)
  have hown : s.vm.findClass RL = some m.cls := findClass_of_methodNamed B.named
  subst hsz
  have hD := hD0.self (sz := s.heap.size)
  generalize hAe : va_A ([(ao, .inl (D.1 23, 1, .inr (.inl f)))] ++ ws) s.heap.size = A at hD hE ⊢
  have hA : ∀ q : Nat, s.heap.size ≤ q → A q := fun q h => by rw [← hAe]; exact Or.inr h
  have hS : va_S A s.heap s.heap [] := va_S.rf
  have hl := lv_entry ([.ref hx9, .int p1, .long p2, .long p3, .ref ao]) (n := 8) (Nat.le_of_ble_eq_true rfl)
  have hk0 := hts (.classLink RL 37 kNse) wchain_k03
  have hk1 := hts (.classLink RL 25 kIae) wchain_k13
  have hk2 := hts (.classLink RL 13 kUoe) wchain_k23
  refine kgenQ (fun Q hQ => ?_)
  rw [lg_entry_eq]
  generalize (lg_sl ([.ref hx9, .int p1, .long p2, .long p3, .ref ao]) ++ List.replicate (8 - (lg_sl ([.ref hx9, .int p1, .long p2, .long p3, .ref ao])).length) Slot.unset).toArray = ls at hl ⊢
  have hl : lv_has ls 8 [(0, .ref hx9), (1, .int p1), (2, .long p2), (4, .long p3), (6, .ref ao)] := hl
  refine lv_aload hx hb dL_chain_0 (lv_at hl 4 rfl) ?_
  refine lv_iconst (v := nI 0) hx hb dL_chain_2 (by decide) ?_
  refine lv_aload_n hx hb dL_chain_3 rfl (lv_at hl 0 rfl) ?_
  refine lv_iload_n hx hb dL_chain_4 rfl (lv_at hl 1 rfl) ?_
  refine lv_lload_n hx hb dL_chain_5 rfl (lv_at hl 2 rfl) ?_
  refine lv_lload hx hb dL_chain_6 (lv_at hl 3 rfl) ?_
  refine kxVR (C := RX5) (As := [.int p1, .long p2, .long p3]) (rest := [.int (nI 0), .ref ao]) (wr := [(ao, .inl (D.1 23, 1, .inr (.inl f)))]) (ws := ws) ⟨hx, hb, hml, hown, hts⟩ hM (cwV 3 hts gL_chain_X5_chain3 rfl hrm.1 hrm.2.1 (by decide +kernel) ⟨Nat.succ_le_succ hrm.2.2.1, Nat.le_trans (Nat.add_le_add_left hrm.2.2.2 _) (Nat.le_of_ble_eq_true rfl)⟩) hK hE hP hD hS hA q0 5 he rfl rfl rfl hl.1 rfl (Nat.le_of_ble_eq_true rfl) dL_chain_8 ⟨Nat.le_of_eq (Nat.zero_add _), Nat.le_of_eq (Nat.zero_add _)⟩ (fun E ce qx H locs hthr hP hD hS hce hcv hcl => ?_) (fun z H locs hthr hpo hP hD hS => ?_)
  · obtain ⟨k, rfl, hE9, hlt⟩ := kEx_inv hthr
    have hlt : k < 3 := hlt
    rcases (show k = 0 ∨ k = 1 ∨ k = 2 by omega) with rfl | rfl | rfl
    · obtain rfl : kNse = E := Option.some.inj hE9
      refine vx_catch (own := RL) (name := kNse) (E := kNse) hown [] ⟨0, 13, 16, 37⟩ [⟨0, 13, 20, 25⟩, ⟨0, 13, 24, 13⟩] (by rw [htab]; rfl) (fun z hz => nomatch hz) (by decide) (by decide) hk0 (va_Nw.use rfl (hE.2.2.2.2.1 (.castable kNse kNse) (by decide +kernel))) hce hcv hcl ?_
      refine W.eq (g2 := F0 m 16 ls [.ref qx]) rfl ?_
      refine W.widen (k := mc) (n := ms) (Nat.le_of_eq (Nat.zero_add _)) (Nat.le_of_eq (Nat.zero_add _)) ?_
      refine lv_astore (lv' := [(7, .ref qx), (0, .ref hx9), (1, .int p1), (2, .long p2), (4, .long p3), (6, .ref ao)]) hx hb dL_chain_16 hl (by decide) rfl (fun ls hl => ?_)
      refine lv_iconst (v := nI 1) hx hb dL_chain_18 (by decide) ?_
      rw [hQ]
      refine vx_ret ?_
      exact W.iret (v := nI 1) hx hb hr (fun tq ht hW => ⟨⟨none, rfl, Nat.succ_pos _, by rw [ht]; exact hP, va_K.moved hW.alike hK, hD⟩, hS.F ht⟩) hS.2.2 dL_chain_19
    · obtain rfl : kIae = E := Option.some.inj hE9
      refine vx_catch (own := RL) (name := kIae) (E := kIae) hown [⟨0, 13, 16, 37⟩] ⟨0, 13, 20, 25⟩ [⟨0, 13, 24, 13⟩] (by rw [htab]; rfl) (fun z hz => by
        simp only [List.mem_cons, List.not_mem_nil, or_false] at hz
        subst hz
        exact Or.inr ⟨by decide, kNse, hk0, hE.2.2.2.2.2.1 (kIae, kNse) (by decide +kernel)⟩) (by decide) (by decide) hk1 (va_Nw.use rfl (hE.2.2.2.2.1 (.castable kIae kIae) (by decide +kernel))) hce hcv hcl ?_
      refine W.eq (g2 := F0 m 20 ls [.ref qx]) rfl ?_
      refine W.widen (k := mc) (n := ms) (Nat.le_of_eq (Nat.zero_add _)) (Nat.le_of_eq (Nat.zero_add _)) ?_
      refine lv_astore (lv' := [(7, .ref qx), (0, .ref hx9), (1, .int p1), (2, .long p2), (4, .long p3), (6, .ref ao)]) hx hb dL_chain_20 hl (by decide) rfl (fun ls hl => ?_)
      refine lv_iconst (v := nI 2) hx hb dL_chain_22 (by decide) ?_
      rw [hQ]
      refine vx_ret ?_
      exact W.iret (v := nI 2) hx hb hr (fun tq ht hW => ⟨⟨none, rfl, Nat.succ_pos _, by rw [ht]; exact hP, va_K.moved hW.alike hK, hD⟩, hS.F ht⟩) hS.2.2 dL_chain_23
    · obtain rfl : kUoe = E := Option.some.inj hE9
      refine vx_catch (own := RL) (name := kUoe) (E := kUoe) hown [⟨0, 13, 16, 37⟩, ⟨0, 13, 20, 25⟩] ⟨0, 13, 24, 13⟩ [] (by rw [htab]; rfl) (fun z hz => by
        simp only [List.mem_cons, List.not_mem_nil, or_false] at hz
        rcases hz with rfl | rfl
        · exact Or.inr ⟨by decide, kNse, hk0, hE.2.2.2.2.2.1 (kUoe, kNse) (by decide +kernel)⟩
        · exact Or.inr ⟨by decide, kIae, hk1, hE.2.2.2.2.2.1 (kUoe, kIae) (by decide +kernel)⟩) (by decide) (by decide) hk2 (va_Nw.use rfl (hE.2.2.2.2.1 (.castable kUoe kUoe) (by decide +kernel))) hce hcv hcl ?_
      refine W.eq (g2 := F0 m 24 ls [.ref qx]) rfl ?_
      refine W.widen (k := mc) (n := ms) (Nat.le_of_eq (Nat.zero_add _)) (Nat.le_of_eq (Nat.zero_add _)) ?_
      refine lv_astore (lv' := [(7, .ref qx), (0, .ref hx9), (1, .int p1), (2, .long p2), (4, .long p3), (6, .ref ao)]) hx hb dL_chain_24 hl (by decide) rfl (fun ls hl => ?_)
      refine lv_iconst (v := nI 3) hx hb dL_chain_26 (by decide) ?_
      rw [hQ]
      refine vx_ret ?_
      exact W.iret (v := nI 3) hx hb hr (fun tq ht hW => ⟨⟨none, rfl, Nat.succ_pos _, by rw [ht]; exact hP, va_K.moved hW.alike hK, hD⟩, hS.F ht⟩) hS.2.2 dL_chain_27
  · have hc0 : code = 0 := kEx_none hthr hcd
    subst hc0
    refine W.eq (g2 := F0 m 11 ls [.int (v z), .int (nI 0), .ref ao]) rfl ?_
    refine W.widen (k := mc) (n := ms) (Nat.le_of_eq (Nat.zero_add _)) (Nat.le_of_eq (Nat.zero_add _)) ?_
    refine lv_i2l (v := (v z).toInt64) hx hb dL_chain_11 (rfl) ?_
    refine kn_last hx hb hK hP hD hS 0 3 rfl rfl (i := 0) (by omega) (by decide) dL_chain_12 (fun H locs hP hD hS => ?_)
    refine lv_goto (tgt := 28) hx hb dL_chain_13 (by decide) ?_
    refine lv_iconst (v := nI 0) hx hb dL_chain_28 (by decide) ?_
    rw [hQ]
    refine vx_ret ?_
    exact W.iret (v := nI 0) hx hb hr (fun tq ht hW => ⟨⟨some z, rfl, ⟨rfl, hpo⟩, by rw [ht]; exact hP, va_K.moved hW.alike hK, hD⟩, hS.F ht⟩) hS.2.2 dL_chain_29
theorem wallow_k03 : (.classLink RL 37 kNse : Cond) ∈ wsL_allow3 := by decide +kernel
set_option maxHeartbeats 2000000 in
set_option maxRecDepth 100000 in
theorem w_allow3 (l : Launch) (D : va_G) (hx9 ao : Nat) (p1 : Int32) (p2 : Int32) (f : Nat → Int64) {S : Type} (ws : va_W) (ws' : S → va_W) (po : S → Prop) (v : S → Int32) (code mc ms q0 : Nat) (rm : Room) (fs : List Value) (he : ws[q0]? = some (hx9, .inr (5, fs))) (hrm : rm.cells = mc ∧ rm.slots = ms ∧ rm.frames ≤ 11 ∧ rm.locals ≤ 340) (hcd : code ≤ 1)
    (hM : kX l yX5_allow wsX5_allow3 rm mc ms D [.ref hx9, .int p1, .int p2] ws (kEx [kNse] code) (fun u => some (.int (v u))) ws' po) :
    kM (S := Option S) l yL_allow wsL_allow3 ({ frames := 12, cells := mc, slots := ms, locals := 420 }) mc ms D [.ref hx9, .int p1, .int p2, .ref ao] ([(ao, .inl (D.1 23, 1, .inr (.inl f)))] ++ ws) (fun _ => some (.int (nI code))) (fun u => match u with | some z => [(ao, .inl (D.1 23, 1, .inr (.inl (vp_updL f 0 (v z).toInt64))))] ++ ws' z | none => ([(ao, .inl (D.1 23, 1, .inr (.inl f)))] ++ ws)) (fun u => match u with | some z => code = 0 ∧ po z | none => 0 < code) := by
  intro sz
  refine kmet (vx_ofWH (cc := cL_allow) (maxL := 5) (ret := some .int) (by decide) rfl ?_)
  intro p e s m args below meth c s₁ B hml hv
  obtain ⟨rfl, hsz, hP, hK, hD0, hE⟩ := hv
  have hx := B.exec
  have hb := B.bytes
  have hr := B.returns
  have hts := atoms_spec (ws := wsL_allow3) B.pre
  have htab : c.exceptionTable.toList = tableOf [(0, 10, 13, 37)] := vx_table (x := yL_allow) B (hts (.codeWith yL_allow cL_allow 5 (some .int) [(0, 10, 13, 37)]) List.mem_cons_self)
  have hown : s.vm.findClass RL = some m.cls := findClass_of_methodNamed B.named
  subst hsz
  have hD := hD0.self (sz := s.heap.size)
  generalize hAe : va_A ([(ao, .inl (D.1 23, 1, .inr (.inl f)))] ++ ws) s.heap.size = A at hD hE ⊢
  have hA : ∀ q : Nat, s.heap.size ≤ q → A q := fun q h => by rw [← hAe]; exact Or.inr h
  have hS : va_S A s.heap s.heap [] := va_S.rf
  have hl := lv_entry ([.ref hx9, .int p1, .int p2, .ref ao]) (n := 5) (Nat.le_of_ble_eq_true rfl)
  have hk0 := hts (.classLink RL 37 kNse) wallow_k03
  refine kgenQ (fun Q hQ => ?_)
  rw [lg_entry_eq]
  generalize (lg_sl ([.ref hx9, .int p1, .int p2, .ref ao]) ++ List.replicate (5 - (lg_sl ([.ref hx9, .int p1, .int p2, .ref ao])).length) Slot.unset).toArray = ls at hl ⊢
  have hl : lv_has ls 5 [(0, .ref hx9), (1, .int p1), (2, .int p2), (3, .ref ao)] := hl
  refine lv_aload_n hx hb dL_allow_0 rfl (lv_at hl 3 rfl) ?_
  refine lv_iconst (v := nI 0) hx hb dL_allow_1 (by decide) ?_
  refine lv_aload_n hx hb dL_allow_2 rfl (lv_at hl 0 rfl) ?_
  refine lv_iload_n hx hb dL_allow_3 rfl (lv_at hl 1 rfl) ?_
  refine lv_iload_n hx hb dL_allow_4 rfl (lv_at hl 2 rfl) ?_
  refine kxVR (C := RX5) (As := [.int p1, .int p2]) (rest := [.int (nI 0), .ref ao]) (wr := [(ao, .inl (D.1 23, 1, .inr (.inl f)))]) (ws := ws) ⟨hx, hb, hml, hown, hts⟩ hM (cwV 2 hts gL_allow_X5_allow3 rfl hrm.1 hrm.2.1 (by decide +kernel) ⟨Nat.succ_le_succ hrm.2.2.1, Nat.le_trans (Nat.add_le_add_left hrm.2.2.2 _) (Nat.le_of_ble_eq_true rfl)⟩) hK hE hP hD hS hA q0 5 he rfl rfl rfl hl.1 rfl (Nat.le_of_ble_eq_true rfl) dL_allow_5 ⟨Nat.le_of_eq (Nat.zero_add _), Nat.le_of_eq (Nat.zero_add _)⟩ (fun E ce qx H locs hthr hP hD hS hce hcv hcl => ?_) (fun z H locs hthr hpo hP hD hS => ?_)
  · obtain ⟨k, rfl, hE9, hlt⟩ := kEx_inv hthr
    have hlt : k < 1 := hlt
    obtain rfl : k = 0 := by omega
    obtain rfl : kNse = E := Option.some.inj hE9
    refine vx_catch (own := RL) (name := kNse) (E := kNse) hown [] ⟨0, 10, 13, 37⟩ [] (by rw [htab]; rfl) (fun z hz => nomatch hz) (by decide) (by decide) hk0 (va_Nw.use rfl (hE.2.2.2.2.1 (.castable kNse kNse) (by decide +kernel))) hce hcv hcl ?_
    refine W.eq (g2 := F0 m 13 ls [.ref qx]) rfl ?_
    refine W.widen (k := mc) (n := ms) (Nat.le_of_eq (Nat.zero_add _)) (Nat.le_of_eq (Nat.zero_add _)) ?_
    refine lv_astore (lv' := [(4, .ref qx), (0, .ref hx9), (1, .int p1), (2, .int p2), (3, .ref ao)]) hx hb dL_allow_13 hl (by decide) rfl (fun ls hl => ?_)
    refine lv_iconst (v := nI 1) hx hb dL_allow_15 (by decide) ?_
    rw [hQ]
    refine vx_ret ?_
    exact W.iret (v := nI 1) hx hb hr (fun tq ht hW => ⟨⟨none, rfl, Nat.succ_pos _, by rw [ht]; exact hP, va_K.moved hW.alike hK, hD⟩, hS.F ht⟩) hS.2.2 dL_allow_16
  · have hc0 : code = 0 := kEx_none hthr hcd
    subst hc0
    refine W.eq (g2 := F0 m 8 ls [.int (v z), .int (nI 0), .ref ao]) rfl ?_
    refine W.widen (k := mc) (n := ms) (Nat.le_of_eq (Nat.zero_add _)) (Nat.le_of_eq (Nat.zero_add _)) ?_
    refine lv_i2l (v := (v z).toInt64) hx hb dL_allow_8 (rfl) ?_
    refine kn_last hx hb hK hP hD hS 0 3 rfl rfl (i := 0) (by omega) (by decide) dL_allow_9 (fun H locs hP hD hS => ?_)
    refine lv_goto (tgt := 17) hx hb dL_allow_10 (by decide) ?_
    refine lv_iconst (v := nI 0) hx hb dL_allow_17 (by decide) ?_
    rw [hQ]
    refine vx_ret ?_
    exact W.iret (v := nI 0) hx hb hr (fun tq ht hW => ⟨⟨some z, rfl, ⟨rfl, hpo⟩, by rw [ht]; exact hP, va_K.moved hW.alike hK, hD⟩, hS.F ht⟩) hS.2.2 dL_allow_18
theorem wlock_k03 : (.classLink RL 37 kNse : Cond) ∈ wsL_lock3 := by decide +kernel
theorem wlock_k13 : (.classLink RL 25 kIae : Cond) ∈ wsL_lock3 := by decide +kernel
set_option maxHeartbeats 2000000 in
set_option maxRecDepth 100000 in
theorem w_lock3 (l : Launch) (D : va_G) (hx9 ao : Nat) (p1 : Int32) (p2 : Int32) (f : Nat → Int64) {S : Type} (ws : va_W) (ws' : S → va_W) (po : S → Prop) (v : S → Int32) (code mc ms q0 : Nat) (rm : Room) (fs : List Value) (he : ws[q0]? = some (hx9, .inr (5, fs))) (hrm : rm.cells = mc ∧ rm.slots = ms ∧ rm.frames ≤ 11 ∧ rm.locals ≤ 340) (hcd : code ≤ 2)
    (hM : kX l yX5_lock wsX5_lock3 rm mc ms D [.ref hx9, .int p1, .int p2] ws (kEx [kNse, kIae] code) (fun u => some (.int (v u))) ws' po) :
    kM (S := Option S) l yL_lock wsL_lock3 ({ frames := 12, cells := mc, slots := ms, locals := 420 }) mc ms D [.ref hx9, .int p1, .int p2, .ref ao] ([(ao, .inl (D.1 23, 1, .inr (.inl f)))] ++ ws) (fun _ => some (.int (nI code))) (fun u => match u with | some z => [(ao, .inl (D.1 23, 1, .inr (.inl (vp_updL f 0 (v z).toInt64))))] ++ ws' z | none => ([(ao, .inl (D.1 23, 1, .inr (.inl f)))] ++ ws)) (fun u => match u with | some z => code = 0 ∧ po z | none => 0 < code) := by
  intro sz
  refine kmet (vx_ofWH (cc := cL_lock) (maxL := 5) (ret := some .int) (by decide) rfl ?_)
  intro p e s m args below meth c s₁ B hml hv
  obtain ⟨rfl, hsz, hP, hK, hD0, hE⟩ := hv
  have hx := B.exec
  have hb := B.bytes
  have hr := B.returns
  have hts := atoms_spec (ws := wsL_lock3) B.pre
  have htab : c.exceptionTable.toList = tableOf [(0, 10, 13, 37), (0, 10, 17, 25)] := vx_table (x := yL_lock) B (hts (.codeWith yL_lock cL_lock 5 (some .int) [(0, 10, 13, 37), (0, 10, 17, 25)]) List.mem_cons_self)
  have hown : s.vm.findClass RL = some m.cls := findClass_of_methodNamed B.named
  subst hsz
  have hD := hD0.self (sz := s.heap.size)
  generalize hAe : va_A ([(ao, .inl (D.1 23, 1, .inr (.inl f)))] ++ ws) s.heap.size = A at hD hE ⊢
  have hA : ∀ q : Nat, s.heap.size ≤ q → A q := fun q h => by rw [← hAe]; exact Or.inr h
  have hS : va_S A s.heap s.heap [] := va_S.rf
  have hl := lv_entry ([.ref hx9, .int p1, .int p2, .ref ao]) (n := 5) (Nat.le_of_ble_eq_true rfl)
  have hk0 := hts (.classLink RL 37 kNse) wlock_k03
  have hk1 := hts (.classLink RL 25 kIae) wlock_k13
  refine kgenQ (fun Q hQ => ?_)
  rw [lg_entry_eq]
  generalize (lg_sl ([.ref hx9, .int p1, .int p2, .ref ao]) ++ List.replicate (5 - (lg_sl ([.ref hx9, .int p1, .int p2, .ref ao])).length) Slot.unset).toArray = ls at hl ⊢
  have hl : lv_has ls 5 [(0, .ref hx9), (1, .int p1), (2, .int p2), (3, .ref ao)] := hl
  refine lv_aload_n hx hb dL_lock_0 rfl (lv_at hl 3 rfl) ?_
  refine lv_iconst (v := nI 0) hx hb dL_lock_1 (by decide) ?_
  refine lv_aload_n hx hb dL_lock_2 rfl (lv_at hl 0 rfl) ?_
  refine lv_iload_n hx hb dL_lock_3 rfl (lv_at hl 1 rfl) ?_
  refine lv_iload_n hx hb dL_lock_4 rfl (lv_at hl 2 rfl) ?_
  refine kxVR (C := RX5) (As := [.int p1, .int p2]) (rest := [.int (nI 0), .ref ao]) (wr := [(ao, .inl (D.1 23, 1, .inr (.inl f)))]) (ws := ws) ⟨hx, hb, hml, hown, hts⟩ hM (cwV 2 hts gL_lock_X5_lock3 rfl hrm.1 hrm.2.1 (by decide +kernel) ⟨Nat.succ_le_succ hrm.2.2.1, Nat.le_trans (Nat.add_le_add_left hrm.2.2.2 _) (Nat.le_of_ble_eq_true rfl)⟩) hK hE hP hD hS hA q0 5 he rfl rfl rfl hl.1 rfl (Nat.le_of_ble_eq_true rfl) dL_lock_5 ⟨Nat.le_of_eq (Nat.zero_add _), Nat.le_of_eq (Nat.zero_add _)⟩ (fun E ce qx H locs hthr hP hD hS hce hcv hcl => ?_) (fun z H locs hthr hpo hP hD hS => ?_)
  · obtain ⟨k, rfl, hE9, hlt⟩ := kEx_inv hthr
    have hlt : k < 2 := hlt
    rcases (show k = 0 ∨ k = 1 by omega) with rfl | rfl
    · obtain rfl : kNse = E := Option.some.inj hE9
      refine vx_catch (own := RL) (name := kNse) (E := kNse) hown [] ⟨0, 10, 13, 37⟩ [⟨0, 10, 17, 25⟩] (by rw [htab]; rfl) (fun z hz => nomatch hz) (by decide) (by decide) hk0 (va_Nw.use rfl (hE.2.2.2.2.1 (.castable kNse kNse) (by decide +kernel))) hce hcv hcl ?_
      refine W.eq (g2 := F0 m 13 ls [.ref qx]) rfl ?_
      refine W.widen (k := mc) (n := ms) (Nat.le_of_eq (Nat.zero_add _)) (Nat.le_of_eq (Nat.zero_add _)) ?_
      refine lv_astore (lv' := [(4, .ref qx), (0, .ref hx9), (1, .int p1), (2, .int p2), (3, .ref ao)]) hx hb dL_lock_13 hl (by decide) rfl (fun ls hl => ?_)
      refine lv_iconst (v := nI 1) hx hb dL_lock_15 (by decide) ?_
      rw [hQ]
      refine vx_ret ?_
      exact W.iret (v := nI 1) hx hb hr (fun tq ht hW => ⟨⟨none, rfl, Nat.succ_pos _, by rw [ht]; exact hP, va_K.moved hW.alike hK, hD⟩, hS.F ht⟩) hS.2.2 dL_lock_16
    · obtain rfl : kIae = E := Option.some.inj hE9
      refine vx_catch (own := RL) (name := kIae) (E := kIae) hown [⟨0, 10, 13, 37⟩] ⟨0, 10, 17, 25⟩ [] (by rw [htab]; rfl) (fun z hz => by
        simp only [List.mem_cons, List.not_mem_nil, or_false] at hz
        subst hz
        exact Or.inr ⟨by decide, kNse, hk0, hE.2.2.2.2.2.1 (kIae, kNse) (by decide +kernel)⟩) (by decide) (by decide) hk1 (va_Nw.use rfl (hE.2.2.2.2.1 (.castable kIae kIae) (by decide +kernel))) hce hcv hcl ?_
      refine W.eq (g2 := F0 m 17 ls [.ref qx]) rfl ?_
      refine W.widen (k := mc) (n := ms) (Nat.le_of_eq (Nat.zero_add _)) (Nat.le_of_eq (Nat.zero_add _)) ?_
      refine lv_astore (lv' := [(4, .ref qx), (0, .ref hx9), (1, .int p1), (2, .int p2), (3, .ref ao)]) hx hb dL_lock_17 hl (by decide) rfl (fun ls hl => ?_)
      refine lv_iconst (v := nI 2) hx hb dL_lock_19 (by decide) ?_
      rw [hQ]
      refine vx_ret ?_
      exact W.iret (v := nI 2) hx hb hr (fun tq ht hW => ⟨⟨none, rfl, Nat.succ_pos _, by rw [ht]; exact hP, va_K.moved hW.alike hK, hD⟩, hS.F ht⟩) hS.2.2 dL_lock_20
  · have hc0 : code = 0 := kEx_none hthr hcd
    subst hc0
    refine W.eq (g2 := F0 m 8 ls [.int (v z), .int (nI 0), .ref ao]) rfl ?_
    refine W.widen (k := mc) (n := ms) (Nat.le_of_eq (Nat.zero_add _)) (Nat.le_of_eq (Nat.zero_add _)) ?_
    refine lv_i2l (v := (v z).toInt64) hx hb dL_lock_8 (rfl) ?_
    refine kn_last hx hb hK hP hD hS 0 3 rfl rfl (i := 0) (by omega) (by decide) dL_lock_9 (fun H locs hP hD hS => ?_)
    refine lv_goto (tgt := 21) hx hb dL_lock_10 (by decide) ?_
    refine lv_iconst (v := nI 0) hx hb dL_lock_21 (by decide) ?_
    rw [hQ]
    refine vx_ret ?_
    exact W.iret (v := nI 0) hx hb hr (fun tq ht hW => ⟨⟨some z, rfl, ⟨rfl, hpo⟩, by rw [ht]; exact hP, va_K.moved hW.alike hK, hD⟩, hS.F ht⟩) hS.2.2 dL_lock_22
theorem wcertify_k03 : (.classLink RL 37 kNse : Cond) ∈ wsL_certify3 := by decide +kernel
theorem wcertify_k13 : (.classLink RL 25 kIae : Cond) ∈ wsL_certify3 := by decide +kernel
set_option maxHeartbeats 2000000 in
set_option maxRecDepth 100000 in
theorem w_certify3 (l : Launch) (D : va_G) (hx9 ao : Nat) (p1 : Int32) (p2 : Int32) (f : Nat → Int64) {S : Type} (ws : va_W) (ws' : S → va_W) (po : S → Prop) (v : S → Int32) (code mc ms q0 : Nat) (rm : Room) (fs : List Value) (he : ws[q0]? = some (hx9, .inr (5, fs))) (hrm : rm.cells = mc ∧ rm.slots = ms ∧ rm.frames ≤ 11 ∧ rm.locals ≤ 340) (hcd : code ≤ 2)
    (hM : kX l yX5_certify wsX5_certify3 rm mc ms D [.ref hx9, .int p1, .int p2] ws (kEx [kNse, kIae] code) (fun u => some (.int (v u))) ws' po) :
    kM (S := Option S) l yL_certify wsL_certify3 ({ frames := 12, cells := mc, slots := ms, locals := 420 }) mc ms D [.ref hx9, .int p1, .int p2, .ref ao] ([(ao, .inl (D.1 23, 1, .inr (.inl f)))] ++ ws) (fun _ => some (.int (nI code))) (fun u => match u with | some z => [(ao, .inl (D.1 23, 1, .inr (.inl (vp_updL f 0 (v z).toInt64))))] ++ ws' z | none => ([(ao, .inl (D.1 23, 1, .inr (.inl f)))] ++ ws)) (fun u => match u with | some z => code = 0 ∧ po z | none => 0 < code) := by
  intro sz
  refine kmet (vx_ofWH (cc := cL_certify) (maxL := 5) (ret := some .int) (by decide) rfl ?_)
  intro p e s m args below meth c s₁ B hml hv
  obtain ⟨rfl, hsz, hP, hK, hD0, hE⟩ := hv
  have hx := B.exec
  have hb := B.bytes
  have hr := B.returns
  have hts := atoms_spec (ws := wsL_certify3) B.pre
  have htab : c.exceptionTable.toList = tableOf [(0, 10, 13, 37), (0, 10, 17, 25)] := vx_table (x := yL_certify) B (hts (.codeWith yL_certify cL_certify 5 (some .int) [(0, 10, 13, 37), (0, 10, 17, 25)]) List.mem_cons_self)
  have hown : s.vm.findClass RL = some m.cls := findClass_of_methodNamed B.named
  subst hsz
  have hD := hD0.self (sz := s.heap.size)
  generalize hAe : va_A ([(ao, .inl (D.1 23, 1, .inr (.inl f)))] ++ ws) s.heap.size = A at hD hE ⊢
  have hA : ∀ q : Nat, s.heap.size ≤ q → A q := fun q h => by rw [← hAe]; exact Or.inr h
  have hS : va_S A s.heap s.heap [] := va_S.rf
  have hl := lv_entry ([.ref hx9, .int p1, .int p2, .ref ao]) (n := 5) (Nat.le_of_ble_eq_true rfl)
  have hk0 := hts (.classLink RL 37 kNse) wcertify_k03
  have hk1 := hts (.classLink RL 25 kIae) wcertify_k13
  refine kgenQ (fun Q hQ => ?_)
  rw [lg_entry_eq]
  generalize (lg_sl ([.ref hx9, .int p1, .int p2, .ref ao]) ++ List.replicate (5 - (lg_sl ([.ref hx9, .int p1, .int p2, .ref ao])).length) Slot.unset).toArray = ls at hl ⊢
  have hl : lv_has ls 5 [(0, .ref hx9), (1, .int p1), (2, .int p2), (3, .ref ao)] := hl
  refine lv_aload_n hx hb dL_certify_0 rfl (lv_at hl 3 rfl) ?_
  refine lv_iconst (v := nI 0) hx hb dL_certify_1 (by decide) ?_
  refine lv_aload_n hx hb dL_certify_2 rfl (lv_at hl 0 rfl) ?_
  refine lv_iload_n hx hb dL_certify_3 rfl (lv_at hl 1 rfl) ?_
  refine lv_iload_n hx hb dL_certify_4 rfl (lv_at hl 2 rfl) ?_
  refine kxVR (C := RX5) (As := [.int p1, .int p2]) (rest := [.int (nI 0), .ref ao]) (wr := [(ao, .inl (D.1 23, 1, .inr (.inl f)))]) (ws := ws) ⟨hx, hb, hml, hown, hts⟩ hM (cwV 2 hts gL_certify_X5_certify3 rfl hrm.1 hrm.2.1 (by decide +kernel) ⟨Nat.succ_le_succ hrm.2.2.1, Nat.le_trans (Nat.add_le_add_left hrm.2.2.2 _) (Nat.le_of_ble_eq_true rfl)⟩) hK hE hP hD hS hA q0 5 he rfl rfl rfl hl.1 rfl (Nat.le_of_ble_eq_true rfl) dL_certify_5 ⟨Nat.le_of_eq (Nat.zero_add _), Nat.le_of_eq (Nat.zero_add _)⟩ (fun E ce qx H locs hthr hP hD hS hce hcv hcl => ?_) (fun z H locs hthr hpo hP hD hS => ?_)
  · obtain ⟨k, rfl, hE9, hlt⟩ := kEx_inv hthr
    have hlt : k < 2 := hlt
    rcases (show k = 0 ∨ k = 1 by omega) with rfl | rfl
    · obtain rfl : kNse = E := Option.some.inj hE9
      refine vx_catch (own := RL) (name := kNse) (E := kNse) hown [] ⟨0, 10, 13, 37⟩ [⟨0, 10, 17, 25⟩] (by rw [htab]; rfl) (fun z hz => nomatch hz) (by decide) (by decide) hk0 (va_Nw.use rfl (hE.2.2.2.2.1 (.castable kNse kNse) (by decide +kernel))) hce hcv hcl ?_
      refine W.eq (g2 := F0 m 13 ls [.ref qx]) rfl ?_
      refine W.widen (k := mc) (n := ms) (Nat.le_of_eq (Nat.zero_add _)) (Nat.le_of_eq (Nat.zero_add _)) ?_
      refine lv_astore (lv' := [(4, .ref qx), (0, .ref hx9), (1, .int p1), (2, .int p2), (3, .ref ao)]) hx hb dL_certify_13 hl (by decide) rfl (fun ls hl => ?_)
      refine lv_iconst (v := nI 1) hx hb dL_certify_15 (by decide) ?_
      rw [hQ]
      refine vx_ret ?_
      exact W.iret (v := nI 1) hx hb hr (fun tq ht hW => ⟨⟨none, rfl, Nat.succ_pos _, by rw [ht]; exact hP, va_K.moved hW.alike hK, hD⟩, hS.F ht⟩) hS.2.2 dL_certify_16
    · obtain rfl : kIae = E := Option.some.inj hE9
      refine vx_catch (own := RL) (name := kIae) (E := kIae) hown [⟨0, 10, 13, 37⟩] ⟨0, 10, 17, 25⟩ [] (by rw [htab]; rfl) (fun z hz => by
        simp only [List.mem_cons, List.not_mem_nil, or_false] at hz
        subst hz
        exact Or.inr ⟨by decide, kNse, hk0, hE.2.2.2.2.2.1 (kIae, kNse) (by decide +kernel)⟩) (by decide) (by decide) hk1 (va_Nw.use rfl (hE.2.2.2.2.1 (.castable kIae kIae) (by decide +kernel))) hce hcv hcl ?_
      refine W.eq (g2 := F0 m 17 ls [.ref qx]) rfl ?_
      refine W.widen (k := mc) (n := ms) (Nat.le_of_eq (Nat.zero_add _)) (Nat.le_of_eq (Nat.zero_add _)) ?_
      refine lv_astore (lv' := [(4, .ref qx), (0, .ref hx9), (1, .int p1), (2, .int p2), (3, .ref ao)]) hx hb dL_certify_17 hl (by decide) rfl (fun ls hl => ?_)
      refine lv_iconst (v := nI 2) hx hb dL_certify_19 (by decide) ?_
      rw [hQ]
      refine vx_ret ?_
      exact W.iret (v := nI 2) hx hb hr (fun tq ht hW => ⟨⟨none, rfl, Nat.succ_pos _, by rw [ht]; exact hP, va_K.moved hW.alike hK, hD⟩, hS.F ht⟩) hS.2.2 dL_certify_20
  · have hc0 : code = 0 := kEx_none hthr hcd
    subst hc0
    refine W.eq (g2 := F0 m 8 ls [.int (v z), .int (nI 0), .ref ao]) rfl ?_
    refine W.widen (k := mc) (n := ms) (Nat.le_of_eq (Nat.zero_add _)) (Nat.le_of_eq (Nat.zero_add _)) ?_
    refine lv_i2l (v := (v z).toInt64) hx hb dL_certify_8 (rfl) ?_
    refine kn_last hx hb hK hP hD hS 0 3 rfl rfl (i := 0) (by omega) (by decide) dL_certify_9 (fun H locs hP hD hS => ?_)
    refine lv_goto (tgt := 21) hx hb dL_certify_10 (by decide) ?_
    refine lv_iconst (v := nI 0) hx hb dL_certify_21 (by decide) ?_
    rw [hQ]
    refine vx_ret ?_
    exact W.iret (v := nI 0) hx hb hr (fun tq ht hW => ⟨⟨some z, rfl, ⟨rfl, hpo⟩, by rw [ht]; exact hP, va_K.moved hW.alike hK, hD⟩, hS.F ht⟩) hS.2.2 dL_certify_22
theorem wsince_k03 : (.classLink RL 37 kNse : Cond) ∈ wsL_since3 := by decide +kernel
theorem wsince_k13 : (.classLink RL 19 kIob : Cond) ∈ wsL_since3 := by decide +kernel
set_option maxHeartbeats 2000000 in
set_option maxRecDepth 100000 in
theorem w_since3 (l : Launch) (D : va_G) (hx9 ao : Nat) (p1 : Int32) (p2 : Int32) (p3 : Int32) (f : Nat → Int64) {S : Type} (ws : va_W) (ws' : S → va_W) (po : S → Prop) (v : S → Int32) (code mc ms q0 : Nat) (rm : Room) (fs : List Value) (he : ws[q0]? = some (hx9, .inr (5, fs))) (hrm : rm.cells = mc ∧ rm.slots = ms ∧ rm.frames ≤ 11 ∧ rm.locals ≤ 340) (hcd : code ≤ 2)
    (hM : kX l yX5_since wsX5_since3 rm mc ms D [.ref hx9, .int p1, .int p2, .int p3] ws (kEx [kNse, kIob] code) (fun u => some (.int (v u))) ws' po) :
    kM (S := Option S) l yL_since wsL_since3 ({ frames := 12, cells := mc, slots := ms, locals := 420 }) mc ms D [.ref hx9, .int p1, .int p2, .int p3, .ref ao] ([(ao, .inl (D.1 23, 1, .inr (.inl f)))] ++ ws) (fun _ => some (.int (nI code))) (fun u => match u with | some z => [(ao, .inl (D.1 23, 1, .inr (.inl (vp_updL f 0 (v z).toInt64))))] ++ ws' z | none => ([(ao, .inl (D.1 23, 1, .inr (.inl f)))] ++ ws)) (fun u => match u with | some z => code = 0 ∧ po z | none => 0 < code) := by
  intro sz
  refine kmet (vx_ofWH (cc := cL_since) (maxL := 6) (ret := some .int) (by decide) rfl ?_)
  intro p e s m args below meth c s₁ B hml hv
  obtain ⟨rfl, hsz, hP, hK, hD0, hE⟩ := hv
  have hx := B.exec
  have hb := B.bytes
  have hr := B.returns
  have hts := atoms_spec (ws := wsL_since3) B.pre
  have htab : c.exceptionTable.toList = tableOf [(0, 12, 15, 37), (0, 12, 19, 19)] := vx_table (x := yL_since) B (hts (.codeWith yL_since cL_since 6 (some .int) [(0, 12, 15, 37), (0, 12, 19, 19)]) List.mem_cons_self)
  have hown : s.vm.findClass RL = some m.cls := findClass_of_methodNamed B.named
  subst hsz
  have hD := hD0.self (sz := s.heap.size)
  generalize hAe : va_A ([(ao, .inl (D.1 23, 1, .inr (.inl f)))] ++ ws) s.heap.size = A at hD hE ⊢
  have hA : ∀ q : Nat, s.heap.size ≤ q → A q := fun q h => by rw [← hAe]; exact Or.inr h
  have hS : va_S A s.heap s.heap [] := va_S.rf
  have hl := lv_entry ([.ref hx9, .int p1, .int p2, .int p3, .ref ao]) (n := 6) (Nat.le_of_ble_eq_true rfl)
  have hk0 := hts (.classLink RL 37 kNse) wsince_k03
  have hk1 := hts (.classLink RL 19 kIob) wsince_k13
  refine kgenQ (fun Q hQ => ?_)
  rw [lg_entry_eq]
  generalize (lg_sl ([.ref hx9, .int p1, .int p2, .int p3, .ref ao]) ++ List.replicate (6 - (lg_sl ([.ref hx9, .int p1, .int p2, .int p3, .ref ao])).length) Slot.unset).toArray = ls at hl ⊢
  have hl : lv_has ls 6 [(0, .ref hx9), (1, .int p1), (2, .int p2), (3, .int p3), (4, .ref ao)] := hl
  refine lv_aload hx hb dL_since_0 (lv_at hl 4 rfl) ?_
  refine lv_iconst (v := nI 0) hx hb dL_since_2 (by decide) ?_
  refine lv_aload_n hx hb dL_since_3 rfl (lv_at hl 0 rfl) ?_
  refine lv_iload_n hx hb dL_since_4 rfl (lv_at hl 1 rfl) ?_
  refine lv_iload_n hx hb dL_since_5 rfl (lv_at hl 2 rfl) ?_
  refine lv_iload_n hx hb dL_since_6 rfl (lv_at hl 3 rfl) ?_
  refine kxVR (C := RX5) (As := [.int p1, .int p2, .int p3]) (rest := [.int (nI 0), .ref ao]) (wr := [(ao, .inl (D.1 23, 1, .inr (.inl f)))]) (ws := ws) ⟨hx, hb, hml, hown, hts⟩ hM (cwV 3 hts gL_since_X5_since3 rfl hrm.1 hrm.2.1 (by decide +kernel) ⟨Nat.succ_le_succ hrm.2.2.1, Nat.le_trans (Nat.add_le_add_left hrm.2.2.2 _) (Nat.le_of_ble_eq_true rfl)⟩) hK hE hP hD hS hA q0 5 he rfl rfl rfl hl.1 rfl (Nat.le_of_ble_eq_true rfl) dL_since_7 ⟨Nat.le_of_eq (Nat.zero_add _), Nat.le_of_eq (Nat.zero_add _)⟩ (fun E ce qx H locs hthr hP hD hS hce hcv hcl => ?_) (fun z H locs hthr hpo hP hD hS => ?_)
  · obtain ⟨k, rfl, hE9, hlt⟩ := kEx_inv hthr
    have hlt : k < 2 := hlt
    rcases (show k = 0 ∨ k = 1 by omega) with rfl | rfl
    · obtain rfl : kNse = E := Option.some.inj hE9
      refine vx_catch (own := RL) (name := kNse) (E := kNse) hown [] ⟨0, 12, 15, 37⟩ [⟨0, 12, 19, 19⟩] (by rw [htab]; rfl) (fun z hz => nomatch hz) (by decide) (by decide) hk0 (va_Nw.use rfl (hE.2.2.2.2.1 (.castable kNse kNse) (by decide +kernel))) hce hcv hcl ?_
      refine W.eq (g2 := F0 m 15 ls [.ref qx]) rfl ?_
      refine W.widen (k := mc) (n := ms) (Nat.le_of_eq (Nat.zero_add _)) (Nat.le_of_eq (Nat.zero_add _)) ?_
      refine lv_astore (lv' := [(5, .ref qx), (0, .ref hx9), (1, .int p1), (2, .int p2), (3, .int p3), (4, .ref ao)]) hx hb dL_since_15 hl (by decide) rfl (fun ls hl => ?_)
      refine lv_iconst (v := nI 1) hx hb dL_since_17 (by decide) ?_
      rw [hQ]
      refine vx_ret ?_
      exact W.iret (v := nI 1) hx hb hr (fun tq ht hW => ⟨⟨none, rfl, Nat.succ_pos _, by rw [ht]; exact hP, va_K.moved hW.alike hK, hD⟩, hS.F ht⟩) hS.2.2 dL_since_18
    · obtain rfl : kIob = E := Option.some.inj hE9
      refine vx_catch (own := RL) (name := kIob) (E := kIob) hown [⟨0, 12, 15, 37⟩] ⟨0, 12, 19, 19⟩ [] (by rw [htab]; rfl) (fun z hz => by
        simp only [List.mem_cons, List.not_mem_nil, or_false] at hz
        subst hz
        exact Or.inr ⟨by decide, kNse, hk0, hE.2.2.2.2.2.1 (kIob, kNse) (by decide +kernel)⟩) (by decide) (by decide) hk1 (va_Nw.use rfl (hE.2.2.2.2.1 (.castable kIob kIob) (by decide +kernel))) hce hcv hcl ?_
      refine W.eq (g2 := F0 m 19 ls [.ref qx]) rfl ?_
      refine W.widen (k := mc) (n := ms) (Nat.le_of_eq (Nat.zero_add _)) (Nat.le_of_eq (Nat.zero_add _)) ?_
      refine lv_astore (lv' := [(5, .ref qx), (0, .ref hx9), (1, .int p1), (2, .int p2), (3, .int p3), (4, .ref ao)]) hx hb dL_since_19 hl (by decide) rfl (fun ls hl => ?_)
      refine lv_iconst (v := nI 2) hx hb dL_since_21 (by decide) ?_
      rw [hQ]
      refine vx_ret ?_
      exact W.iret (v := nI 2) hx hb hr (fun tq ht hW => ⟨⟨none, rfl, Nat.succ_pos _, by rw [ht]; exact hP, va_K.moved hW.alike hK, hD⟩, hS.F ht⟩) hS.2.2 dL_since_22
  · have hc0 : code = 0 := kEx_none hthr hcd
    subst hc0
    refine W.eq (g2 := F0 m 10 ls [.int (v z), .int (nI 0), .ref ao]) rfl ?_
    refine W.widen (k := mc) (n := ms) (Nat.le_of_eq (Nat.zero_add _)) (Nat.le_of_eq (Nat.zero_add _)) ?_
    refine lv_i2l (v := (v z).toInt64) hx hb dL_since_10 (rfl) ?_
    refine kn_last hx hb hK hP hD hS 0 3 rfl rfl (i := 0) (by omega) (by decide) dL_since_11 (fun H locs hP hD hS => ?_)
    refine lv_goto (tgt := 23) hx hb dL_since_12 (by decide) ?_
    refine lv_iconst (v := nI 0) hx hb dL_since_23 (by decide) ?_
    rw [hQ]
    refine vx_ret ?_
    exact W.iret (v := nI 0) hx hb hr (fun tq ht hW => ⟨⟨some z, rfl, ⟨rfl, hpo⟩, by rw [ht]; exact hP, va_K.moved hW.alike hK, hD⟩, hS.F ht⟩) hS.2.2 dL_since_24
theorem wdigest_k03 : (.classLink RL 37 kNse : Cond) ∈ wsL_digest23 := by decide +kernel
theorem wdigest_k13 : (.classLink RL 72 kAio : Cond) ∈ wsL_digest23 := by decide +kernel
set_option maxHeartbeats 2000000 in
set_option maxRecDepth 100000 in
theorem w_digest3 (l : Launch) (D : va_G) (hx9 ao : Nat) (p1 : Int32) (p2 : Int32) (f : Nat → Int64) {S : Type} (ws : va_W) (ws' : S → va_W) (po : S → Prop) (v : S → Int32) (code mc ms q0 : Nat) (rm : Room) (fs : List Value) (he : ws[q0]? = some (hx9, .inr (5, fs))) (hrm : rm.cells = mc ∧ rm.slots = ms ∧ rm.frames ≤ 11 ∧ rm.locals ≤ 340) (hcd : code ≤ 2)
    (hM : kX l yX5_digest wsX5_digest23 rm mc ms D [.ref hx9, .int p1, .int p2] ws (kEx [kNse, kAio] code) (fun u => some (.int (v u))) ws' po) :
    kM (S := Option S) l yL_digest wsL_digest23 ({ frames := 12, cells := mc, slots := ms, locals := 420 }) mc ms D [.ref hx9, .int p1, .int p2, .ref ao] ([(ao, .inl (D.1 23, 1, .inr (.inl f)))] ++ ws) (fun _ => some (.int (nI code))) (fun u => match u with | some z => [(ao, .inl (D.1 23, 1, .inr (.inl (vp_updL f 0 (v z).toInt64))))] ++ ws' z | none => ([(ao, .inl (D.1 23, 1, .inr (.inl f)))] ++ ws)) (fun u => match u with | some z => code = 0 ∧ po z | none => 0 < code) := by
  intro sz
  refine kmet (vx_ofWH (cc := cL_digest) (maxL := 5) (ret := some .int) (by decide) rfl ?_)
  intro p e s m args below meth c s₁ B hml hv
  obtain ⟨rfl, hsz, hP, hK, hD0, hE⟩ := hv
  have hx := B.exec
  have hb := B.bytes
  have hr := B.returns
  have hts := atoms_spec (ws := wsL_digest23) B.pre
  have htab : c.exceptionTable.toList = tableOf [(0, 10, 13, 37), (0, 10, 17, 72)] := vx_table (x := yL_digest) B (hts (.codeWith yL_digest cL_digest 5 (some .int) [(0, 10, 13, 37), (0, 10, 17, 72)]) List.mem_cons_self)
  have hown : s.vm.findClass RL = some m.cls := findClass_of_methodNamed B.named
  subst hsz
  have hD := hD0.self (sz := s.heap.size)
  generalize hAe : va_A ([(ao, .inl (D.1 23, 1, .inr (.inl f)))] ++ ws) s.heap.size = A at hD hE ⊢
  have hA : ∀ q : Nat, s.heap.size ≤ q → A q := fun q h => by rw [← hAe]; exact Or.inr h
  have hS : va_S A s.heap s.heap [] := va_S.rf
  have hl := lv_entry ([.ref hx9, .int p1, .int p2, .ref ao]) (n := 5) (Nat.le_of_ble_eq_true rfl)
  have hk0 := hts (.classLink RL 37 kNse) wdigest_k03
  have hk1 := hts (.classLink RL 72 kAio) wdigest_k13
  refine kgenQ (fun Q hQ => ?_)
  rw [lg_entry_eq]
  generalize (lg_sl ([.ref hx9, .int p1, .int p2, .ref ao]) ++ List.replicate (5 - (lg_sl ([.ref hx9, .int p1, .int p2, .ref ao])).length) Slot.unset).toArray = ls at hl ⊢
  have hl : lv_has ls 5 [(0, .ref hx9), (1, .int p1), (2, .int p2), (3, .ref ao)] := hl
  refine lv_aload_n hx hb dL_digest_0 rfl (lv_at hl 3 rfl) ?_
  refine lv_iconst (v := nI 0) hx hb dL_digest_1 (by decide) ?_
  refine lv_aload_n hx hb dL_digest_2 rfl (lv_at hl 0 rfl) ?_
  refine lv_iload_n hx hb dL_digest_3 rfl (lv_at hl 1 rfl) ?_
  refine lv_iload_n hx hb dL_digest_4 rfl (lv_at hl 2 rfl) ?_
  refine kxVR (C := RX5) (As := [.int p1, .int p2]) (rest := [.int (nI 0), .ref ao]) (wr := [(ao, .inl (D.1 23, 1, .inr (.inl f)))]) (ws := ws) ⟨hx, hb, hml, hown, hts⟩ hM (cwV 2 hts gL_digest2_X5_digest3 rfl hrm.1 hrm.2.1 (by decide +kernel) ⟨Nat.succ_le_succ hrm.2.2.1, Nat.le_trans (Nat.add_le_add_left hrm.2.2.2 _) (Nat.le_of_ble_eq_true rfl)⟩) hK hE hP hD hS hA q0 5 he rfl rfl rfl hl.1 rfl (Nat.le_of_ble_eq_true rfl) dL_digest_5 ⟨Nat.le_of_eq (Nat.zero_add _), Nat.le_of_eq (Nat.zero_add _)⟩ (fun E ce qx H locs hthr hP hD hS hce hcv hcl => ?_) (fun z H locs hthr hpo hP hD hS => ?_)
  · obtain ⟨k, rfl, hE9, hlt⟩ := kEx_inv hthr
    have hlt : k < 2 := hlt
    rcases (show k = 0 ∨ k = 1 by omega) with rfl | rfl
    · obtain rfl : kNse = E := Option.some.inj hE9
      refine vx_catch (own := RL) (name := kNse) (E := kNse) hown [] ⟨0, 10, 13, 37⟩ [⟨0, 10, 17, 72⟩] (by rw [htab]; rfl) (fun z hz => nomatch hz) (by decide) (by decide) hk0 (va_Nw.use rfl (hE.2.2.2.2.1 (.castable kNse kNse) (by decide +kernel))) hce hcv hcl ?_
      refine W.eq (g2 := F0 m 13 ls [.ref qx]) rfl ?_
      refine W.widen (k := mc) (n := ms) (Nat.le_of_eq (Nat.zero_add _)) (Nat.le_of_eq (Nat.zero_add _)) ?_
      refine lv_astore (lv' := [(4, .ref qx), (0, .ref hx9), (1, .int p1), (2, .int p2), (3, .ref ao)]) hx hb dL_digest_13 hl (by decide) rfl (fun ls hl => ?_)
      refine lv_iconst (v := nI 1) hx hb dL_digest_15 (by decide) ?_
      rw [hQ]
      refine vx_ret ?_
      exact W.iret (v := nI 1) hx hb hr (fun tq ht hW => ⟨⟨none, rfl, Nat.succ_pos _, by rw [ht]; exact hP, va_K.moved hW.alike hK, hD⟩, hS.F ht⟩) hS.2.2 dL_digest_16
    · obtain rfl : kAio = E := Option.some.inj hE9
      refine vx_catch (own := RL) (name := kAio) (E := kAio) hown [⟨0, 10, 13, 37⟩] ⟨0, 10, 17, 72⟩ [] (by rw [htab]; rfl) (fun z hz => by
        simp only [List.mem_cons, List.not_mem_nil, or_false] at hz
        subst hz
        exact Or.inr ⟨by decide, kNse, hk0, hE.2.2.2.2.2.1 (kAio, kNse) (by decide +kernel)⟩) (by decide) (by decide) hk1 (va_Nw.use rfl (hE.2.2.2.2.1 (.castable kAio kAio) (by decide +kernel))) hce hcv hcl ?_
      refine W.eq (g2 := F0 m 17 ls [.ref qx]) rfl ?_
      refine W.widen (k := mc) (n := ms) (Nat.le_of_eq (Nat.zero_add _)) (Nat.le_of_eq (Nat.zero_add _)) ?_
      refine lv_astore (lv' := [(4, .ref qx), (0, .ref hx9), (1, .int p1), (2, .int p2), (3, .ref ao)]) hx hb dL_digest_17 hl (by decide) rfl (fun ls hl => ?_)
      refine lv_iconst (v := nI 2) hx hb dL_digest_19 (by decide) ?_
      rw [hQ]
      refine vx_ret ?_
      exact W.iret (v := nI 2) hx hb hr (fun tq ht hW => ⟨⟨none, rfl, Nat.succ_pos _, by rw [ht]; exact hP, va_K.moved hW.alike hK, hD⟩, hS.F ht⟩) hS.2.2 dL_digest_20
  · have hc0 : code = 0 := kEx_none hthr hcd
    subst hc0
    refine W.eq (g2 := F0 m 8 ls [.int (v z), .int (nI 0), .ref ao]) rfl ?_
    refine W.widen (k := mc) (n := ms) (Nat.le_of_eq (Nat.zero_add _)) (Nat.le_of_eq (Nat.zero_add _)) ?_
    refine lv_i2l (v := (v z).toInt64) hx hb dL_digest_8 (rfl) ?_
    refine kn_last hx hb hK hP hD hS 0 3 rfl rfl (i := 0) (by omega) (by decide) dL_digest_9 (fun H locs hP hD hS => ?_)
    refine lv_goto (tgt := 21) hx hb dL_digest_10 (by decide) ?_
    refine lv_iconst (v := nI 0) hx hb dL_digest_21 (by decide) ?_
    rw [hQ]
    refine vx_ret ?_
    exact W.iret (v := nI 0) hx hb hr (fun tq ht hW => ⟨⟨some z, rfl, ⟨rfl, hpo⟩, by rw [ht]; exact hP, va_K.moved hW.alike hK, hD⟩, hS.F ht⟩) hS.2.2 dL_digest_22
theorem wbehind_k03 : (.classLink RL 37 kNse : Cond) ∈ wsL_behind3 := by decide +kernel
set_option maxHeartbeats 2000000 in
set_option maxRecDepth 100000 in
theorem w_behind3 (l : Launch) (D : va_G) (hx9 ao : Nat) (p1 : Int32) (f : Nat → Int64) {S : Type} (ws : va_W) (ws' : S → va_W) (po : S → Prop) (v : S → Int64) (code mc ms q0 : Nat) (rm : Room) (fs : List Value) (he : ws[q0]? = some (hx9, .inr (5, fs))) (hrm : rm.cells = mc ∧ rm.slots = ms ∧ rm.frames ≤ 11 ∧ rm.locals ≤ 340) (hcd : code ≤ 1)
    (hM : kX l yX5_behind wsX5_behind3 rm mc ms D [.ref hx9, .int p1] ws (kEx [kNse] code) (fun u => some (.long (v u))) ws' po) :
    kM (S := Option S) l yL_behind wsL_behind3 ({ frames := 12, cells := mc, slots := ms, locals := 420 }) mc ms D [.ref hx9, .int p1, .ref ao] ([(ao, .inl (D.1 23, 1, .inr (.inl f)))] ++ ws) (fun _ => some (.int (nI code))) (fun u => match u with | some z => [(ao, .inl (D.1 23, 1, .inr (.inl (vp_updL f 0 (v z)))))] ++ ws' z | none => ([(ao, .inl (D.1 23, 1, .inr (.inl f)))] ++ ws)) (fun u => match u with | some z => code = 0 ∧ po z | none => 0 < code) := by
  intro sz
  refine kmet (vx_ofWH (cc := cL_behind) (maxL := 4) (ret := some .int) (by decide) rfl ?_)
  intro p e s m args below meth c s₁ B hml hv
  obtain ⟨rfl, hsz, hP, hK, hD0, hE⟩ := hv
  have hx := B.exec
  have hb := B.bytes
  have hr := B.returns
  have hts := atoms_spec (ws := wsL_behind3) B.pre
  have htab : c.exceptionTable.toList = tableOf [(0, 8, 11, 37)] := vx_table (x := yL_behind) B (hts (.codeWith yL_behind cL_behind 4 (some .int) [(0, 8, 11, 37)]) List.mem_cons_self)
  have hown : s.vm.findClass RL = some m.cls := findClass_of_methodNamed B.named
  subst hsz
  have hD := hD0.self (sz := s.heap.size)
  generalize hAe : va_A ([(ao, .inl (D.1 23, 1, .inr (.inl f)))] ++ ws) s.heap.size = A at hD hE ⊢
  have hA : ∀ q : Nat, s.heap.size ≤ q → A q := fun q h => by rw [← hAe]; exact Or.inr h
  have hS : va_S A s.heap s.heap [] := va_S.rf
  have hl := lv_entry ([.ref hx9, .int p1, .ref ao]) (n := 4) (Nat.le_of_ble_eq_true rfl)
  have hk0 := hts (.classLink RL 37 kNse) wbehind_k03
  refine kgenQ (fun Q hQ => ?_)
  rw [lg_entry_eq]
  generalize (lg_sl ([.ref hx9, .int p1, .ref ao]) ++ List.replicate (4 - (lg_sl ([.ref hx9, .int p1, .ref ao])).length) Slot.unset).toArray = ls at hl ⊢
  have hl : lv_has ls 4 [(0, .ref hx9), (1, .int p1), (2, .ref ao)] := hl
  refine lv_aload_n hx hb dL_behind_0 rfl (lv_at hl 2 rfl) ?_
  refine lv_iconst (v := nI 0) hx hb dL_behind_1 (by decide) ?_
  refine lv_aload_n hx hb dL_behind_2 rfl (lv_at hl 0 rfl) ?_
  refine lv_iload_n hx hb dL_behind_3 rfl (lv_at hl 1 rfl) ?_
  refine kxVR (C := RX5) (As := [.int p1]) (rest := [.int (nI 0), .ref ao]) (wr := [(ao, .inl (D.1 23, 1, .inr (.inl f)))]) (ws := ws) ⟨hx, hb, hml, hown, hts⟩ hM (cwV 1 hts gL_behind_X5_behind3 rfl hrm.1 hrm.2.1 (by decide +kernel) ⟨Nat.succ_le_succ hrm.2.2.1, Nat.le_trans (Nat.add_le_add_left hrm.2.2.2 _) (Nat.le_of_ble_eq_true rfl)⟩) hK hE hP hD hS hA q0 5 he rfl rfl rfl hl.1 rfl (Nat.le_of_ble_eq_true rfl) dL_behind_4 ⟨Nat.le_of_eq (Nat.zero_add _), Nat.le_of_eq (Nat.zero_add _)⟩ (fun E ce qx H locs hthr hP hD hS hce hcv hcl => ?_) (fun z H locs hthr hpo hP hD hS => ?_)
  · obtain ⟨k, rfl, hE9, hlt⟩ := kEx_inv hthr
    have hlt : k < 1 := hlt
    obtain rfl : k = 0 := by omega
    obtain rfl : kNse = E := Option.some.inj hE9
    refine vx_catch (own := RL) (name := kNse) (E := kNse) hown [] ⟨0, 8, 11, 37⟩ [] (by rw [htab]; rfl) (fun z hz => nomatch hz) (by decide) (by decide) hk0 (va_Nw.use rfl (hE.2.2.2.2.1 (.castable kNse kNse) (by decide +kernel))) hce hcv hcl ?_
    refine W.eq (g2 := F0 m 11 ls [.ref qx]) rfl ?_
    refine W.widen (k := mc) (n := ms) (Nat.le_of_eq (Nat.zero_add _)) (Nat.le_of_eq (Nat.zero_add _)) ?_
    refine lv_astore_n (lv' := [(3, .ref qx), (0, .ref hx9), (1, .int p1), (2, .ref ao)]) hx hb dL_behind_11 rfl hl (by decide) rfl (fun ls hl => ?_)
    refine lv_iconst (v := nI 1) hx hb dL_behind_12 (by decide) ?_
    rw [hQ]
    refine vx_ret ?_
    exact W.iret (v := nI 1) hx hb hr (fun tq ht hW => ⟨⟨none, rfl, Nat.succ_pos _, by rw [ht]; exact hP, va_K.moved hW.alike hK, hD⟩, hS.F ht⟩) hS.2.2 dL_behind_13
  · have hc0 : code = 0 := kEx_none hthr hcd
    subst hc0
    refine W.eq (g2 := F0 m 7 ls [.long (v z), .int (nI 0), .ref ao]) rfl ?_
    refine W.widen (k := mc) (n := ms) (Nat.le_of_eq (Nat.zero_add _)) (Nat.le_of_eq (Nat.zero_add _)) ?_
    refine kn_last hx hb hK hP hD hS 0 3 rfl rfl (i := 0) (by omega) (by decide) dL_behind_7 (fun H locs hP hD hS => ?_)
    refine lv_goto (tgt := 14) hx hb dL_behind_8 (by decide) ?_
    refine lv_iconst (v := nI 0) hx hb dL_behind_14 (by decide) ?_
    rw [hQ]
    refine vx_ret ?_
    exact W.iret (v := nI 0) hx hb hr (fun tq ht hW => ⟨⟨some z, rfl, ⟨rfl, hpo⟩, by rw [ht]; exact hP, va_K.moved hW.alike hK, hD⟩, hS.F ht⟩) hS.2.2 dL_behind_15
