theorem iX0_allAllowedBy_X0 : ∀ w ∈ wsX00, w ∈ wsX0_allAllowedBy := by decide +kernel
theorem iX0_allAllowedBy_X3 : ∀ w ∈ wsX30, w ∈ wsX0_allAllowedBy := by decide +kernel
theorem X0_allAllowedBy_hwd0 : (.fieldLink RX0 22 "SignatureSpans$Signature" "changesBefore" "I" : Cond) ∈ wsX0_allAllowedBy := by decide +kernel
theorem X0_allAllowedBy_hwd1 : (.fieldLink RX0 18 "SignatureSpans$Changes" "count" "I" : Cond) ∈ wsX0_allAllowedBy := by decide +kernel
theorem X0_allAllowedBy_hwd2 : (.fieldLink RX0 9 "SignatureSpans$Changes" "kinds" "[I" : Cond) ∈ wsX0_allAllowedBy := by decide +kernel
theorem X0_allAllowedBy_hwd3 : (.fieldLink RX0 15 "SignatureSpans$Changes" "fields" "[I" : Cond) ∈ wsX0_allAllowedBy := by decide +kernel
set_option maxHeartbeats 4000000 in
set_option maxRecDepth 100000 in
/-- allAllowedBy -/
theorem c_X0_allAllowedBy (l : Launch) (D : va_G) (h0 ck cg ch : Nat) (kd fd : Nat → Nat) (h dw sa cf ct pa pb en cb cl lv : Nat) (ve ak lf : Int32) (ti : Int64) (hcb : cb ≤ ch) (hch : ch ≤ 40) (hlv : lv ≤ 3) (hkd : ∀ k, k < ch → kd k < 4) : kM (S := Unit) l yX0_allAllowedBy wsX0_allAllowedBy ({ frames := 9, cells := 0, slots := 0, locals := 220 }) 0 0 D [.ref h0, .ref h] [(h0, .inr (0, [.ref ck, .ref cg, .int (nI ch)])), (ck, .inl (D.1 20, 40, .inl (fun j => nI (kd j)))), (cg, .inl (D.1 20, 40, .inl (fun j => nI (fd j)))), (h, .inr (3, [.int (nI pa), .int (nI pb), .int (nI en), .int ve, .long ti, .int (nI cb), .ref dw, .ref sa, .ref cf, .ref ct, .int (nI cl), .int ak, .int lf, .int (nI lv)]))] (fun _ => some (.int (kB (!kAnyR (fun k => !kMay ak lv (kBit lf (fd k)) (kd k)) cb (ch - cb))))) (fun _ => [(h0, .inr (0, [.ref ck, .ref cg, .int (nI ch)])), (ck, .inl (D.1 20, 40, .inl (fun j => nI (kd j)))), (cg, .inl (D.1 20, 40, .inl (fun j => nI (fd j)))), (h, .inr (3, [.int (nI pa), .int (nI pb), .int (nI en), .int ve, .long ti, .int (nI cb), .ref dw, .ref sa, .ref cf, .ref ct, .int (nI cl), .int ak, .int lf, .int (nI lv)]))]) (fun _ => True) := by
  intro sz
  refine Met.ofW (cc := cX0_allAllowedBy) (maxL := 3) (ret := (some .boolean)) (by decide) rfl ?_
  intro p e s m args below meth c s₁ B hml hv
  obtain ⟨rfl, hsz, hP, hK, hD0, hE⟩ := hv
  have hx := B.exec
  have hb := B.bytes
  have hr := B.returns
  have hts := atoms_spec (ws := wsX0_allAllowedBy) B.pre
  have hown : s.vm.findClass RX0 = some m.cls := findClass_of_methodNamed B.named
  have hlocks := B.notSynchronized
  subst hsz
  have hD := hD0.self (sz := s.heap.size)
  generalize hAe : va_A [(h0, .inr (0, [.ref ck, .ref cg, .int (nI ch)])), (ck, .inl (D.1 20, 40, .inl (fun j => nI (kd j)))), (cg, .inl (D.1 20, 40, .inl (fun j => nI (fd j)))), (h, .inr (3, [.int (nI pa), .int (nI pb), .int (nI en), .int ve, .long ti, .int (nI cb), .ref dw, .ref sa, .ref cf, .ref ct, .int (nI cl), .int ak, .int lf, .int (nI lv)]))] s.heap.size = A at hD hE ⊢
  have hA : ∀ q : Nat, s.heap.size ≤ q → A q := fun q h => by rw [← hAe]; exact Or.inr h
  have hS : va_S A s.heap s.heap [] := va_S.rf
  have hl := lv_entry ([.ref h0, .ref h]) (n := 3) (Nat.le_of_ble_eq_true rfl)
  have inX0 : ∀ w ∈ wsX00, w ∈ wsX0_allAllowedBy := iX0_allAllowedBy_X0
  have inX3 : ∀ w ∈ wsX30, w ∈ wsX0_allAllowedBy := iX0_allAllowedBy_X3
  have hwd0 := hts (.fieldLink RX0 22 "SignatureSpans$Signature" "changesBefore" "I") X0_allAllowedBy_hwd0
  have hwd1 := hts (.fieldLink RX0 18 "SignatureSpans$Changes" "count" "I") X0_allAllowedBy_hwd1
  have hwd2 := hts (.fieldLink RX0 9 "SignatureSpans$Changes" "kinds" "[I") X0_allAllowedBy_hwd2
  have hwd3 := hts (.fieldLink RX0 15 "SignatureSpans$Changes" "fields" "[I") X0_allAllowedBy_hwd3
  refine kgenQ (fun Q hQ => ?_)
  rw [lg_entry_eq]
  generalize (lg_sl ([.ref h0, .ref h]) ++ List.replicate (3 - (lg_sl ([.ref h0, .ref h])).length) Slot.unset).toArray = ls at hl ⊢
  have hl : lv_has ls 3 [(0, .ref h0), (1, .ref h)] := hl
  refine lv_aload_n hx hb dX0_allAllowedBy_0 rfl (lv_at hl 1 rfl) ?_
  refine va_get (D := D) (ci := 3) (v := .int (nI cb)) (C := RX3) (T := TX3) (N := 14) hx hb hts inX3 hown hK hP 3 rfl rfl 5 (by decide) hwd0 (fun _ h9 => h9) rfl dX0_allAllowedBy_1 ?_
  refine lv_istore_n (lv' := [(2, .int (nI cb)), (0, .ref h0), (1, .ref h)]) hx hb dX0_allAllowedBy_4 rfl hl (by decide) rfl (fun ls hl => ?_)
  have la : ∀ fu : Nat, ∀ (k : Nat), (cb ≤ k) → (k ≤ ch) → (∀ j, cb ≤ j → j < k → kMay ak lv (kBit lf (fd j)) (kd j) = true) → (ch + 1 ≤ k + fu) → ∀ (H : Heap) (locs : List Loc), va_P D kC [(h0, .inr (0, [.ref ck, .ref cg, .int (nI ch)])), (ck, .inl (D.1 20, 40, .inl (fun j => nI (kd j)))), (cg, .inl (D.1 20, 40, .inl (fun j => nI (fd j)))), (h, .inr (3, [.int (nI pa), .int (nI pb), .int (nI en), .int ve, .long ti, .int (nI cb), .ref dw, .ref sa, .ref cf, .ref ct, .int (nI cl), .int ak, .int lf, .int (nI lv)]))] H → va_D A [(h0, .inr (0, [.ref ck, .ref cg, .int (nI ch)])), (ck, .inl (D.1 20, 40, .inl (fun j => nI (kd j)))), (cg, .inl (D.1 20, 40, .inl (fun j => nI (fd j)))), (h, .inr (3, [.int (nI pa), .int (nI pb), .int (nI en), .int ve, .long ti, .int (nI cb), .ref dw, .ref sa, .ref cf, .ref ct, .int (nI cl), .int ak, .int lf, .int (nI lv)]))] → va_S A s.heap H locs → ∀ (ls : Array Slot), lv_has ls 3 [(0, .ref h0), (1, .ref h), (2, .int (nI k))] → W p l e (headSpec wsX0_allAllowedBy ({ frames := 9, cells := 0, slots := 0, locals := 220 })).room s m #[Value.ref h0, Value.ref h] below meth c H locs 0 0 Q (F0 m 5 ls []) := by
    intro fu
    induction fu with
    | zero =>
      intro k h1 h2 h3 hfu H locs hP hD hS ls hl
      exfalso; omega
    | succ fu ih_la =>
      intro k h1 h2 h3 hfu H locs hP hD hS ls hl
      refine lv_iload_n hx hb dX0_allAllowedBy_5 rfl (lv_at hl 2 rfl) ?_
      refine lv_aload_n hx hb dX0_allAllowedBy_6 rfl (lv_at hl 0 rfl) ?_
      refine va_get (D := D) (ci := 0) (v := .int (nI ch)) (C := RX0) (T := TX0) (N := 3) hx hb hts inX0 hown hK hP 0 rfl rfl 2 (by decide) hwd1 (fun _ h9 => h9) rfl dX0_allAllowedBy_7 ?_
      refine kn_icmp_ge (tgt := 40) hx hb (by omega) (by omega) dX0_allAllowedBy_10 (by decide) (fun c_10 => ?_) (fun c_10 => ?_)
      · refine lv_iconst (v := nI 1) hx hb dX0_allAllowedBy_40 (by decide) ?_
        rw [hQ]
        have hP9 : va_P D kC [(h0, .inr (0, [.ref ck, .ref cg, .int (nI ch)])), (ck, .inl (D.1 20, 40, .inl (fun j => nI (kd j)))), (cg, .inl (D.1 20, 40, .inl (fun j => nI (fd j)))), (h, .inr (3, [.int (nI pa), .int (nI pb), .int (nI en), .int ve, .long ti, .int (nI cb), .ref dw, .ref sa, .ref cf, .ref ct, .int (nI cl), .int ak, .int lf, .int (nI lv)]))] _ := hP
        have hD9 : va_D A [(h0, .inr (0, [.ref ck, .ref cg, .int (nI ch)])), (ck, .inl (D.1 20, 40, .inl (fun j => nI (kd j)))), (cg, .inl (D.1 20, 40, .inl (fun j => nI (fd j)))), (h, .inr (3, [.int (nI pa), .int (nI pb), .int (nI en), .int ve, .long ti, .int (nI cb), .ref dw, .ref sa, .ref cf, .ref ct, .int (nI cl), .int ak, .int lf, .int (nI lv)]))] := hD
        exact W.zret (v := nI 1) hx hb hr (rfl) (fun tq ht hW => ⟨⟨(), congrArg (fun z => Outcome.returned (some (Value.int z))) (kB_t (by rw [kAnyR_f (fun j hj => by show (!kMay ak lv (kBit lf (fd (cb + j))) (kd (cb + j))) = false; rw [h3 (cb + j) (by omega) (by omega)]; rfl)]; rfl)), trivial, by rw [ht]; exact hP9, va_K.moved hW.alike hK, hD9⟩, hS.F ht⟩) hS.2.2 dX0_allAllowedBy_41
      · have hk4 := hkd k (by omega)
        refine lv_aload_n hx hb dX0_allAllowedBy_13 rfl (lv_at hl 1 rfl) ?_
        refine lv_aload_n hx hb dX0_allAllowedBy_14 rfl (lv_at hl 0 rfl) ?_
        refine va_get (D := D) (ci := 0) (v := .ref ck) (C := RX0) (T := TX0) (N := 3) hx hb hts inX0 hown hK hP 0 rfl rfl 0 (by decide) hwd2 (fun _ h9 => h9) rfl dX0_allAllowedBy_15 ?_
        refine lv_iload_n hx hb dX0_allAllowedBy_18 rfl (lv_at hl 2 rfl) ?_
        refine kn_iald hx hb hK hP 1 0 rfl rfl (i := k) (by omega) (by decide) dX0_allAllowedBy_19 ?_
        refine lv_aload_n hx hb dX0_allAllowedBy_20 rfl (lv_at hl 0 rfl) ?_
        refine va_get (D := D) (ci := 0) (v := .ref cg) (C := RX0) (T := TX0) (N := 3) hx hb hts inX0 hown hK hP 0 rfl rfl 1 (by decide) hwd3 (fun _ h9 => h9) rfl dX0_allAllowedBy_21 ?_
        refine lv_iload_n hx hb dX0_allAllowedBy_24 rfl (lv_at hl 2 rfl) ?_
        refine kn_iald hx hb hK hP 2 0 rfl rfl (i := k) (by omega) (by decide) dX0_allAllowedBy_25 ?_
        refine kcV (C := RX3) (As := [.int (nI (kd k)), .int (nI (fd k))]) (rest := []) (ws := [(h, .inr (3, [.int (nI pa), .int (nI pb), .int (nI en), .int ve, .long ti, .int (nI cb), .ref dw, .ref sa, .ref cf, .ref ct, .int (nI cl), .int ak, .int lf, .int (nI lv)]))]) (wr := [(h0, .inr (0, [.ref ck, .ref cg, .int (nI ch)])), (ck, .inl (D.1 20, 40, .inl (fun j => nI (kd j)))), (cg, .inl (D.1 20, 40, .inl (fun j => nI (fd j))))]) ⟨hx, hb, hml, hown, hts⟩ (c_X3_allows l D h dw sa cf ct pa pb en cb cl lv ve ak lf ti  (kd k) (fd k) (by omega) (by omega)) (cwV 2 hts gX0_allAllowedBy_X3_allows rfl rfl rfl (by decide +kernel) ⟨Nat.le_of_ble_eq_true rfl, Nat.le_of_ble_eq_true rfl⟩) hK hE hP hD hS hA [3] [0, 1, 2] rfl rfl rfl rfl (by decide) 3 3 rfl rfl rfl rfl hl.1 rfl (Nat.le_of_ble_eq_true rfl) dX0_allAllowedBy_26 ⟨Nat.le_of_ble_eq_true rfl, Nat.le_of_ble_eq_true rfl⟩ (fun _ H locs hpo hP hD hS => ?_)
        have hP : va_P D kC [(h0, .inr (0, [.ref ck, .ref cg, .int (nI ch)])), (ck, .inl (D.1 20, 40, .inl (fun j => nI (kd j)))), (cg, .inl (D.1 20, 40, .inl (fun j => nI (fd j)))), (h, .inr (3, [.int (nI pa), .int (nI pb), .int (nI en), .int ve, .long ti, .int (nI cb), .ref dw, .ref sa, .ref cf, .ref ct, .int (nI cl), .int ak, .int lf, .int (nI lv)]))] _ := hP
        have hD : va_D A [(h0, .inr (0, [.ref ck, .ref cg, .int (nI ch)])), (ck, .inl (D.1 20, 40, .inl (fun j => nI (kd j)))), (cg, .inl (D.1 20, 40, .inl (fun j => nI (fd j)))), (h, .inr (3, [.int (nI pa), .int (nI pb), .int (nI en), .int ve, .long ti, .int (nI cb), .ref dw, .ref sa, .ref cf, .ref ct, .int (nI cl), .int ak, .int lf, .int (nI lv)]))] := hD
        refine W.eq (g2 := F0 m 29 ls [.int (kB (kMay ak lv (kBit lf (fd k)) (kd k)))]) rfl ?_
        refine W.widen (k := 0) (n := 0) (Nat.le_of_ble_eq_true rfl) (Nat.le_of_ble_eq_true rfl) ?_
        refine lv_if_ne (tgt := 34) hx hb dX0_allAllowedBy_29 (by decide) (fun c_29 => ?_) (fun c_29 => ?_)
        · have c_29 := kB_n0.mp c_29
          refine lv_iinc (v := nI (k + 1)) (lv' := [(2, .int (nI (k + 1))), (0, .ref h0), (1, .ref h)]) hx hb dX0_allAllowedBy_34 hl (k := 2) rfl (nI_1 _) (by decide) rfl (fun ls hl => ?_)
          refine lv_goto (tgt := 5) hx hb dX0_allAllowedBy_37 (by decide) ?_
          exact ih_la (k + 1) (by omega) (by omega) (fun j q1 q2 => (Nat.lt_succ_iff_lt_or_eq.mp q2).elim (h3 j q1) (fun e => by rw [e]; exact c_29)) (by omega) _ _ hP hD hS ls (lv_sub hl [1, 2, 0] rfl)
        · have c_29 := kB_e0.mp c_29
          refine lv_iconst (v := nI 0) hx hb dX0_allAllowedBy_32 (by decide) ?_
          rw [hQ]
          have hP9 : va_P D kC [(h0, .inr (0, [.ref ck, .ref cg, .int (nI ch)])), (ck, .inl (D.1 20, 40, .inl (fun j => nI (kd j)))), (cg, .inl (D.1 20, 40, .inl (fun j => nI (fd j)))), (h, .inr (3, [.int (nI pa), .int (nI pb), .int (nI en), .int ve, .long ti, .int (nI cb), .ref dw, .ref sa, .ref cf, .ref ct, .int (nI cl), .int ak, .int lf, .int (nI lv)]))] _ := hP
          have hD9 : va_D A [(h0, .inr (0, [.ref ck, .ref cg, .int (nI ch)])), (ck, .inl (D.1 20, 40, .inl (fun j => nI (kd j)))), (cg, .inl (D.1 20, 40, .inl (fun j => nI (fd j)))), (h, .inr (3, [.int (nI pa), .int (nI pb), .int (nI en), .int ve, .long ti, .int (nI cb), .ref dw, .ref sa, .ref cf, .ref ct, .int (nI cl), .int ak, .int lf, .int (nI lv)]))] := hD
          exact W.zret (v := nI 0) hx hb hr (rfl) (fun tq ht hW => ⟨⟨(), congrArg (fun z => Outcome.returned (some (Value.int z))) (kB_f (by rw [kAnyR_t (k - cb) (by omega) (by show (!kMay ak lv (kBit lf (fd (cb + (k - cb)))) (kd (cb + (k - cb)))) = true; rw [show cb + (k - cb) = k by omega, c_29]; rfl)]; rfl)), trivial, by rw [ht]; exact hP9, va_K.moved hW.alike hK, hD9⟩, hS.F ht⟩) hS.2.2 dX0_allAllowedBy_33
  exact la (ch + 1 - cb) cb (by omega) (by omega) (fun j h1 h2 => absurd h1 (by omega)) (by omega) _ _ hP hD hS ls (lv_sub hl [1, 2, 0] rfl)

theorem k_ins1 (od : Nat → Nat) (n q : Nat) (h0 : 0 < q) (h1 : q ≤ n) : va_up (fun j => if q < j ∧ j ≤ n then od (j - 1) else od j) q (od (q - 1)) = (fun j => if q - 1 < j ∧ j ≤ n then od (j - 1) else od j) := by
  funext j
  by_cases e : j = q
  · subst e; rw [va_up_self]; exact (if_pos (by omega)).symm
  · rw [va_up_ne _ _ e]
    by_cases c : q < j ∧ j ≤ n
    · exact (if_pos c).trans (if_pos (by omega)).symm
    · exact (if_neg c).trans (if_neg (by omega)).symm
theorem k_ins2 (od : Nat → Nat) (n q : Nat) (h1 : q ≤ n) : va_up (fun j => if q < j ∧ j ≤ n then od (j - 1) else od j) q n = kIns od n q := by
  funext j
  unfold kIns
  by_cases e : j = q
  · subst e; rw [va_up_self, if_neg (Nat.lt_irrefl _), if_pos rfl]
  · rw [va_up_ne _ _ e]
    by_cases c : j < q
    · rw [if_pos c]; exact if_neg (by omega)
    · rw [if_neg c, if_neg e]
      by_cases z : j ≤ n
      · rw [if_pos z]; exact if_pos (by omega)
      · rw [if_neg z]; exact if_neg (by omega)

theorem iX4_put_X4 : ∀ w ∈ wsX40, w ∈ wsX4_put := by decide +kernel
theorem X4_put_hwd0 : (.fieldLink RX4 29 "SignatureSpans$Stamps" "count" "I" : Cond) ∈ wsX4_put := by decide +kernel
theorem X4_put_hwd1 : (.fieldLink RX4 9 "SignatureSpans$Stamps" "times" "[J" : Cond) ∈ wsX4_put := by decide +kernel
theorem X4_put_hwd2 : (.fieldLink RX4 15 "SignatureSpans$Stamps" "sizes" "[I" : Cond) ∈ wsX4_put := by decide +kernel
theorem X4_put_hwd3 : (.fieldLink RX4 26 "SignatureSpans$Stamps" "order" "[I" : Cond) ∈ wsX4_put := by decide +kernel
set_option maxHeartbeats 4000000 in
set_option maxRecDepth 100000 in
/-- put -/
theorem c_X4_put (l : Launch) (D : va_G) (h tt tz td to n x : Nat) (t : Int64) (tm : Nat → Int64) (ts od : Nat → Nat) (hn : n < 10) (hod : ∀ j, j < n → od j < n) : kM (S := Nat) l yX4_put wsX4_put ({ frames := 7, cells := 0, slots := 0, locals := 100 }) 0 0 D [.ref h, .long t, .int (nI x)] [(h, .inr (4, [.ref tt, .ref tz, .ref td, .ref to, .int (nI n)])), (tt, .inl (D.1 23, 10, .inr (.inl tm))), (tz, .inl (D.1 20, 10, .inl (fun j => nI (ts j)))), (to, .inl (D.1 20, 10, .inl (fun j => nI (od j))))] (fun _ => some (.int (nI n))) (fun q => [(h, .inr (4, [.ref tt, .ref tz, .ref td, .ref to, .int (nI (n + 1))])), (tt, .inl (D.1 23, 10, .inr (.inl (vp_updL tm n t)))), (tz, .inl (D.1 20, 10, .inl (fun j => nI ((va_up ts n x) j)))), (to, .inl (D.1 20, 10, .inl (fun j => nI ((kIns od n q) j))))]) (fun q => q ≤ n ∧ (∀ j, q ≤ j → j < n → t < tm (od j)) ∧ (q = 0 ∨ tm (od (q - 1)) ≤ t)) := by
  intro sz
  refine Met.ofW (cc := cX4_put) (maxL := 6) (ret := (some .int)) (by decide) rfl ?_
  intro p e s m args below meth c s₁ B hml hv
  obtain ⟨rfl, hsz, hP, hK, hD0, hE⟩ := hv
  have hx := B.exec
  have hb := B.bytes
  have hr := B.returns
  have hts := atoms_spec (ws := wsX4_put) B.pre
  have hown : s.vm.findClass RX4 = some m.cls := findClass_of_methodNamed B.named
  have hlocks := B.notSynchronized
  subst hsz
  have hD := hD0.self (sz := s.heap.size)
  generalize hAe : va_A [(h, .inr (4, [.ref tt, .ref tz, .ref td, .ref to, .int (nI n)])), (tt, .inl (D.1 23, 10, .inr (.inl tm))), (tz, .inl (D.1 20, 10, .inl (fun j => nI (ts j)))), (to, .inl (D.1 20, 10, .inl (fun j => nI (od j))))] s.heap.size = A at hD hE ⊢
  have hA : ∀ q : Nat, s.heap.size ≤ q → A q := fun q h => by rw [← hAe]; exact Or.inr h
  have hS : va_S A s.heap s.heap [] := va_S.rf
  have hl := lv_entry ([.ref h, .long t, .int (nI x)]) (n := 6) (Nat.le_of_ble_eq_true rfl)
  have inX4 : ∀ w ∈ wsX40, w ∈ wsX4_put := iX4_put_X4
  have hwd0 := hts (.fieldLink RX4 29 "SignatureSpans$Stamps" "count" "I") X4_put_hwd0
  have hwd1 := hts (.fieldLink RX4 9 "SignatureSpans$Stamps" "times" "[J") X4_put_hwd1
  have hwd2 := hts (.fieldLink RX4 15 "SignatureSpans$Stamps" "sizes" "[I") X4_put_hwd2
  have hwd3 := hts (.fieldLink RX4 26 "SignatureSpans$Stamps" "order" "[I") X4_put_hwd3
  refine kgenQ (fun Q hQ => ?_)
  rw [lg_entry_eq]
  generalize (lg_sl ([.ref h, .long t, .int (nI x)]) ++ List.replicate (6 - (lg_sl ([.ref h, .long t, .int (nI x)])).length) Slot.unset).toArray = ls at hl ⊢
  have hl : lv_has ls 6 [(0, .ref h), (1, .long t), (3, .int (nI x))] := hl
  refine lv_aload_n hx hb dX4_put_0 rfl (lv_at hl 0 rfl) ?_
  refine va_get (D := D) (ci := 4) (v := .int (nI n)) (C := RX4) (T := TX4) (N := 5) hx hb hts inX4 hown hK hP 0 rfl rfl 4 (by decide) hwd0 (fun _ h9 => h9) rfl dX4_put_1 ?_
  refine lv_istore (lv' := [(4, .int (nI n)), (0, .ref h), (1, .long t), (3, .int (nI x))]) hx hb dX4_put_4 hl (by decide) rfl (fun ls hl => ?_)
  refine lv_aload_n hx hb dX4_put_6 rfl (lv_at hl 1 rfl) ?_
  refine va_get (D := D) (ci := 4) (v := .ref tt) (C := RX4) (T := TX4) (N := 5) hx hb hts inX4 hown hK hP 0 rfl rfl 0 (by decide) hwd1 (fun _ h9 => h9) rfl dX4_put_7 ?_
  refine lv_iload hx hb dX4_put_10 (lv_at hl 0 rfl) ?_
  refine lv_lload_n hx hb dX4_put_12 rfl (lv_at hl 2 rfl) ?_
  refine kn_last hx hb hK hP hD hS 1 3 rfl rfl (i := n) (by omega) (by decide) dX4_put_13 (fun H locs hP hD hS => ?_)
  have hP : va_P D kC [(h, .inr (4, [.ref tt, .ref tz, .ref td, .ref to, .int (nI n)])), (tt, .inl (D.1 23, 10, .inr (.inl (vp_updL tm n t)))), (tz, .inl (D.1 20, 10, .inl (fun j => nI (ts j)))), (to, .inl (D.1 20, 10, .inl (fun j => nI (od j))))] _ := hP
  have hD : va_D A [(h, .inr (4, [.ref tt, .ref tz, .ref td, .ref to, .int (nI n)])), (tt, .inl (D.1 23, 10, .inr (.inl (vp_updL tm n t)))), (tz, .inl (D.1 20, 10, .inl (fun j => nI (ts j)))), (to, .inl (D.1 20, 10, .inl (fun j => nI (od j))))] := hD
  refine lv_aload_n hx hb dX4_put_14 rfl (lv_at hl 1 rfl) ?_
  refine va_get (D := D) (ci := 4) (v := .ref tz) (C := RX4) (T := TX4) (N := 5) hx hb hts inX4 hown hK hP 0 rfl rfl 1 (by decide) hwd2 (fun _ h9 => h9) rfl dX4_put_15 ?_
  refine lv_iload hx hb dX4_put_18 (lv_at hl 0 rfl) ?_
  refine lv_iload_n hx hb dX4_put_20 rfl (lv_at hl 3 rfl) ?_
  refine kn_iast hx hb hK hP hD hS 2 0 rfl rfl (i := n) (by omega) (by decide) dX4_put_21 (fun H locs hP hD hS => ?_)
  have hP : va_P D kC [(h, .inr (4, [.ref tt, .ref tz, .ref td, .ref to, .int (nI n)])), (tt, .inl (D.1 23, 10, .inr (.inl (vp_updL tm n t)))), (tz, .inl (D.1 20, 10, .inl (upd (fun j => nI (ts j)) n (nI x)))), (to, .inl (D.1 20, 10, .inl (fun j => nI (od j))))] _ := hP
  have hD : va_D A [(h, .inr (4, [.ref tt, .ref tz, .ref td, .ref to, .int (nI n)])), (tt, .inl (D.1 23, 10, .inr (.inl (vp_updL tm n t)))), (tz, .inl (D.1 20, 10, .inl (upd (fun j => nI (ts j)) n (nI x)))), (to, .inl (D.1 20, 10, .inl (fun j => nI (od j))))] := hD
  have eu21 : upd (fun j => nI (ts j)) n (nI x) = (fun j => nI ((va_up ts n x) j)) := kUpN _ _ _
  rw [eu21] at hP hD
  refine lv_iload hx hb dX4_put_22 (lv_at hl 0 rfl) ?_
  refine lv_istore (lv' := [(5, .int (nI n)), (4, .int (nI n)), (0, .ref h), (1, .long t), (3, .int (nI x))]) hx hb dX4_put_24 hl (by decide) rfl (fun ls hl => ?_)
  have la : ∀ fu : Nat, ∀ (q : Nat), (q ≤ n) → (∀ j, q ≤ j → j < n → t < tm (od j)) → (q + 1 ≤ fu) → ∀ (H : Heap) (locs : List Loc), va_P D kC [(h, .inr (4, [.ref tt, .ref tz, .ref td, .ref to, .int (nI n)])), (tt, .inl (D.1 23, 10, .inr (.inl (vp_updL tm n t)))), (tz, .inl (D.1 20, 10, .inl (fun j => nI ((va_up ts n x) j)))), (to, .inl (D.1 20, 10, .inl (fun j => nI ((fun j => if q < j ∧ j ≤ n then od (j - 1) else od j) j))))] H → va_D A [(h, .inr (4, [.ref tt, .ref tz, .ref td, .ref to, .int (nI n)])), (tt, .inl (D.1 23, 10, .inr (.inl (vp_updL tm n t)))), (tz, .inl (D.1 20, 10, .inl (fun j => nI ((va_up ts n x) j)))), (to, .inl (D.1 20, 10, .inl (fun j => nI ((fun j => if q < j ∧ j ≤ n then od (j - 1) else od j) j))))] → va_S A s.heap H locs → ∀ (ls : Array Slot), lv_has ls 6 [(0, .ref h), (1, .long t), (4, .int (nI n)), (5, .int (nI q))] → W p l e (headSpec wsX4_put ({ frames := 7, cells := 0, slots := 0, locals := 100 })).room s m #[Value.ref h, Value.long t, Value.int (nI x)] below meth c H locs 0 0 Q (F0 m 26 ls []) := by
    intro fu
    induction fu with
    | zero =>
      intro q h1 h2 hfu H locs hP hD hS ls hl
      exfalso; omega
    | succ fu ih_la =>
      intro q h1 h2 hfu H locs hP hD hS ls hl
      refine lv_iload hx hb dX4_put_26 (lv_at hl 3 rfl) ?_
      refine kn_if_le (tgt := 72) hx hb (by omega) dX4_put_28 (by decide) (fun c_28 => ?_) (fun c_28 => ?_)
      · refine lv_aload_n hx hb dX4_put_72 rfl (lv_at hl 0 rfl) ?_
        refine va_get (D := D) (ci := 4) (v := .ref to) (C := RX4) (T := TX4) (N := 5) hx hb hts inX4 hown hK hP 0 rfl rfl 3 (by decide) hwd3 (fun _ h9 => h9) rfl dX4_put_73 ?_
        refine lv_iload hx hb dX4_put_76 (lv_at hl 3 rfl) ?_
        refine lv_iload hx hb dX4_put_78 (lv_at hl 2 rfl) ?_
        refine kn_iast hx hb hK hP hD hS 3 0 rfl rfl (i := q) (by omega) (by decide) dX4_put_80 (fun H locs hP hD hS => ?_)
        have hP : va_P D kC [(h, .inr (4, [.ref tt, .ref tz, .ref td, .ref to, .int (nI n)])), (tt, .inl (D.1 23, 10, .inr (.inl (vp_updL tm n t)))), (tz, .inl (D.1 20, 10, .inl (fun j => nI ((va_up ts n x) j)))), (to, .inl (D.1 20, 10, .inl (upd (fun j => nI ((fun j => if q < j ∧ j ≤ n then od (j - 1) else od j) j)) q (nI n))))] _ := hP
        have hD : va_D A [(h, .inr (4, [.ref tt, .ref tz, .ref td, .ref to, .int (nI n)])), (tt, .inl (D.1 23, 10, .inr (.inl (vp_updL tm n t)))), (tz, .inl (D.1 20, 10, .inl (fun j => nI ((va_up ts n x) j)))), (to, .inl (D.1 20, 10, .inl (upd (fun j => nI ((fun j => if q < j ∧ j ≤ n then od (j - 1) else od j) j)) q (nI n))))] := hD
        have eu80 : upd (fun j => nI ((fun j => if q < j ∧ j ≤ n then od (j - 1) else od j) j)) q (nI n) = (fun j => nI ((va_up (fun j => if q < j ∧ j ≤ n then od (j - 1) else od j) q n) j)) := kUpN _ _ _
        rw [eu80] at hP hD
        have ez : va_up (fun j => if q < j ∧ j ≤ n then od (j - 1) else od j) q n = kIns od n q := k_ins2 od n q h1
        rw [ez] at hP hD
        refine lv_aload_n hx hb dX4_put_81 rfl (lv_at hl 0 rfl) ?_
        refine lv_dup hx hb dX4_put_82 rfl ?_
        refine va_get (D := D) (ci := 4) (v := .int (nI n)) (C := RX4) (T := TX4) (N := 5) hx hb hts inX4 hown hK hP 0 rfl rfl 4 (by decide) hwd0 (fun _ h9 => h9) rfl dX4_put_83 ?_
        refine lv_iconst (v := nI 1) hx hb dX4_put_86 (by decide) ?_
        refine kn_iadd hx hb dX4_put_87 ?_
        refine va_put (D := D) (ci := 4) (v := .int (nI (n + 1))) (ty := .int) (C := RX4) (T := TX4) (N := 5) hx hb hts inX4 tyX4 tyX4_ok nmX4 hown hK hP hD hS 0 rfl rfl 4 (by decide) hwd0 (fun _ h9 => h9) rfl (by decide +kernel) rfl rfl (Nat.le_of_ble_eq_true rfl) dX4_put_88 (fun H locs hP hD hS => ?_)
        have hP : va_P D kC [(h, .inr (4, [.ref tt, .ref tz, .ref td, .ref to, .int (nI (n + 1))])), (tt, .inl (D.1 23, 10, .inr (.inl (vp_updL tm n t)))), (tz, .inl (D.1 20, 10, .inl (fun j => nI ((va_up ts n x) j)))), (to, .inl (D.1 20, 10, .inl (fun j => nI ((kIns od n q) j))))] _ := hP
        have hD : va_D A [(h, .inr (4, [.ref tt, .ref tz, .ref td, .ref to, .int (nI (n + 1))])), (tt, .inl (D.1 23, 10, .inr (.inl (vp_updL tm n t)))), (tz, .inl (D.1 20, 10, .inl (fun j => nI ((va_up ts n x) j)))), (to, .inl (D.1 20, 10, .inl (fun j => nI ((kIns od n q) j))))] := hD
        refine lv_iload hx hb dX4_put_91 (lv_at hl 2 rfl) ?_
        rw [hQ]
        have hP9 : va_P D kC [(h, .inr (4, [.ref tt, .ref tz, .ref td, .ref to, .int (nI (n + 1))])), (tt, .inl (D.1 23, 10, .inr (.inl (vp_updL tm n t)))), (tz, .inl (D.1 20, 10, .inl (fun j => nI ((va_up ts n x) j)))), (to, .inl (D.1 20, 10, .inl (fun j => nI ((kIns od n q) j))))] _ := hP
        have hD9 : va_D A [(h, .inr (4, [.ref tt, .ref tz, .ref td, .ref to, .int (nI (n + 1))])), (tt, .inl (D.1 23, 10, .inr (.inl (vp_updL tm n t)))), (tz, .inl (D.1 20, 10, .inl (fun j => nI ((va_up ts n x) j)))), (to, .inl (D.1 20, 10, .inl (fun j => nI ((kIns od n q) j))))] := hD
        exact W.iret (v := nI n) hx hb hr (fun tq ht hW => ⟨⟨q, rfl, ⟨h1, h2, Or.inl c_28⟩, by rw [ht]; exact hP9, va_K.moved hW.alike hK, hD9⟩, hS.F ht⟩) hS.2.2 dX4_put_93
      · have eq1 : (fun j => if q < j ∧ j ≤ n then od (j - 1) else od j) (q - 1) = od (q - 1) := if_neg (by omega)
        have ho1 := hod (q - 1) (by omega)
        refine lv_aload_n hx hb dX4_put_31 rfl (lv_at hl 0 rfl) ?_
        refine va_get (D := D) (ci := 4) (v := .ref tt) (C := RX4) (T := TX4) (N := 5) hx hb hts inX4 hown hK hP 0 rfl rfl 0 (by decide) hwd1 (fun _ h9 => h9) rfl dX4_put_32 ?_
        refine lv_aload_n hx hb dX4_put_35 rfl (lv_at hl 0 rfl) ?_
        refine va_get (D := D) (ci := 4) (v := .ref to) (C := RX4) (T := TX4) (N := 5) hx hb hts inX4 hown hK hP 0 rfl rfl 3 (by decide) hwd3 (fun _ h9 => h9) rfl dX4_put_36 ?_
        refine lv_iload hx hb dX4_put_39 (lv_at hl 3 rfl) ?_
        refine lv_iconst (v := nI 1) hx hb dX4_put_41 (by decide) ?_
        refine kn_isub hx hb (by omega) dX4_put_42 ?_
        refine kn_iald hx hb hK hP 3 0 rfl rfl (i := q - 1) (by omega) (by decide) dX4_put_43 ?_
        refine kt_i (v' := nI (od (q - 1))) (congrArg nI eq1) ?_
        refine kn_lald hx hb hK hP 1 3 rfl rfl (i := od (q - 1)) (by omega) (by decide) dX4_put_44 ?_
        refine kt_l (v' := tm (od (q - 1))) (pk_uLn (by omega)) ?_
        refine lv_lload_n hx hb dX4_put_45 rfl (lv_at hl 1 rfl) ?_
        refine W.lcmp hx hb dX4_put_46 ?_
        refine lv_if_le (tgt := 72) hx hb dX4_put_47 (by decide) (fun c_47 => ?_) (fun c_47 => ?_)
        · have c_47 := (lg_cmp_le _ _).mp c_47
          refine lv_aload_n hx hb dX4_put_72 rfl (lv_at hl 0 rfl) ?_
          refine va_get (D := D) (ci := 4) (v := .ref to) (C := RX4) (T := TX4) (N := 5) hx hb hts inX4 hown hK hP 0 rfl rfl 3 (by decide) hwd3 (fun _ h9 => h9) rfl dX4_put_73 ?_
          refine lv_iload hx hb dX4_put_76 (lv_at hl 3 rfl) ?_
          refine lv_iload hx hb dX4_put_78 (lv_at hl 2 rfl) ?_
          refine kn_iast hx hb hK hP hD hS 3 0 rfl rfl (i := q) (by omega) (by decide) dX4_put_80 (fun H locs hP hD hS => ?_)
          have hP : va_P D kC [(h, .inr (4, [.ref tt, .ref tz, .ref td, .ref to, .int (nI n)])), (tt, .inl (D.1 23, 10, .inr (.inl (vp_updL tm n t)))), (tz, .inl (D.1 20, 10, .inl (fun j => nI ((va_up ts n x) j)))), (to, .inl (D.1 20, 10, .inl (upd (fun j => nI ((fun j => if q < j ∧ j ≤ n then od (j - 1) else od j) j)) q (nI n))))] _ := hP
          have hD : va_D A [(h, .inr (4, [.ref tt, .ref tz, .ref td, .ref to, .int (nI n)])), (tt, .inl (D.1 23, 10, .inr (.inl (vp_updL tm n t)))), (tz, .inl (D.1 20, 10, .inl (fun j => nI ((va_up ts n x) j)))), (to, .inl (D.1 20, 10, .inl (upd (fun j => nI ((fun j => if q < j ∧ j ≤ n then od (j - 1) else od j) j)) q (nI n))))] := hD
          have eu80 : upd (fun j => nI ((fun j => if q < j ∧ j ≤ n then od (j - 1) else od j) j)) q (nI n) = (fun j => nI ((va_up (fun j => if q < j ∧ j ≤ n then od (j - 1) else od j) q n) j)) := kUpN _ _ _
          rw [eu80] at hP hD
          have ez : va_up (fun j => if q < j ∧ j ≤ n then od (j - 1) else od j) q n = kIns od n q := k_ins2 od n q h1
          rw [ez] at hP hD
          refine lv_aload_n hx hb dX4_put_81 rfl (lv_at hl 0 rfl) ?_
          refine lv_dup hx hb dX4_put_82 rfl ?_
          refine va_get (D := D) (ci := 4) (v := .int (nI n)) (C := RX4) (T := TX4) (N := 5) hx hb hts inX4 hown hK hP 0 rfl rfl 4 (by decide) hwd0 (fun _ h9 => h9) rfl dX4_put_83 ?_
          refine lv_iconst (v := nI 1) hx hb dX4_put_86 (by decide) ?_
          refine kn_iadd hx hb dX4_put_87 ?_
          refine va_put (D := D) (ci := 4) (v := .int (nI (n + 1))) (ty := .int) (C := RX4) (T := TX4) (N := 5) hx hb hts inX4 tyX4 tyX4_ok nmX4 hown hK hP hD hS 0 rfl rfl 4 (by decide) hwd0 (fun _ h9 => h9) rfl (by decide +kernel) rfl rfl (Nat.le_of_ble_eq_true rfl) dX4_put_88 (fun H locs hP hD hS => ?_)
          have hP : va_P D kC [(h, .inr (4, [.ref tt, .ref tz, .ref td, .ref to, .int (nI (n + 1))])), (tt, .inl (D.1 23, 10, .inr (.inl (vp_updL tm n t)))), (tz, .inl (D.1 20, 10, .inl (fun j => nI ((va_up ts n x) j)))), (to, .inl (D.1 20, 10, .inl (fun j => nI ((kIns od n q) j))))] _ := hP
          have hD : va_D A [(h, .inr (4, [.ref tt, .ref tz, .ref td, .ref to, .int (nI (n + 1))])), (tt, .inl (D.1 23, 10, .inr (.inl (vp_updL tm n t)))), (tz, .inl (D.1 20, 10, .inl (fun j => nI ((va_up ts n x) j)))), (to, .inl (D.1 20, 10, .inl (fun j => nI ((kIns od n q) j))))] := hD
          refine lv_iload hx hb dX4_put_91 (lv_at hl 2 rfl) ?_
          rw [hQ]
          have hP9 : va_P D kC [(h, .inr (4, [.ref tt, .ref tz, .ref td, .ref to, .int (nI (n + 1))])), (tt, .inl (D.1 23, 10, .inr (.inl (vp_updL tm n t)))), (tz, .inl (D.1 20, 10, .inl (fun j => nI ((va_up ts n x) j)))), (to, .inl (D.1 20, 10, .inl (fun j => nI ((kIns od n q) j))))] _ := hP
          have hD9 : va_D A [(h, .inr (4, [.ref tt, .ref tz, .ref td, .ref to, .int (nI (n + 1))])), (tt, .inl (D.1 23, 10, .inr (.inl (vp_updL tm n t)))), (tz, .inl (D.1 20, 10, .inl (fun j => nI ((va_up ts n x) j)))), (to, .inl (D.1 20, 10, .inl (fun j => nI ((kIns od n q) j))))] := hD
          exact W.iret (v := nI n) hx hb hr (fun tq ht hW => ⟨⟨q, rfl, ⟨h1, h2, Or.inr c_47⟩, by rw [ht]; exact hP9, va_K.moved hW.alike hK, hD9⟩, hS.F ht⟩) hS.2.2 dX4_put_93
        · have c_47 := fun h9 => c_47 ((lg_cmp_le _ _).mpr h9)
          have c_47 : t < tm (od (q - 1)) := Int64.not_le.mp c_47
          refine lv_aload_n hx hb dX4_put_50 rfl (lv_at hl 0 rfl) ?_
          refine va_get (D := D) (ci := 4) (v := .ref to) (C := RX4) (T := TX4) (N := 5) hx hb hts inX4 hown hK hP 0 rfl rfl 3 (by decide) hwd3 (fun _ h9 => h9) rfl dX4_put_51 ?_
          refine lv_iload hx hb dX4_put_54 (lv_at hl 3 rfl) ?_
          refine lv_aload_n hx hb dX4_put_56 rfl (lv_at hl 0 rfl) ?_
          refine va_get (D := D) (ci := 4) (v := .ref to) (C := RX4) (T := TX4) (N := 5) hx hb hts inX4 hown hK hP 0 rfl rfl 3 (by decide) hwd3 (fun _ h9 => h9) rfl dX4_put_57 ?_
          refine lv_iload hx hb dX4_put_60 (lv_at hl 3 rfl) ?_
          refine lv_iconst (v := nI 1) hx hb dX4_put_62 (by decide) ?_
          refine kn_isub hx hb (by omega) dX4_put_63 ?_
          refine kn_iald hx hb hK hP 3 0 rfl rfl (i := q - 1) (by omega) (by decide) dX4_put_64 ?_
          refine kt_i (v' := nI (od (q - 1))) (congrArg nI eq1) ?_
          refine kn_iast hx hb hK hP hD hS 3 0 rfl rfl (i := q) (by omega) (by decide) dX4_put_65 (fun H locs hP hD hS => ?_)
          have hP : va_P D kC [(h, .inr (4, [.ref tt, .ref tz, .ref td, .ref to, .int (nI n)])), (tt, .inl (D.1 23, 10, .inr (.inl (vp_updL tm n t)))), (tz, .inl (D.1 20, 10, .inl (fun j => nI ((va_up ts n x) j)))), (to, .inl (D.1 20, 10, .inl (upd (fun j => nI ((fun j => if q < j ∧ j ≤ n then od (j - 1) else od j) j)) q (nI (od (q - 1))))))] _ := hP
          have hD : va_D A [(h, .inr (4, [.ref tt, .ref tz, .ref td, .ref to, .int (nI n)])), (tt, .inl (D.1 23, 10, .inr (.inl (vp_updL tm n t)))), (tz, .inl (D.1 20, 10, .inl (fun j => nI ((va_up ts n x) j)))), (to, .inl (D.1 20, 10, .inl (upd (fun j => nI ((fun j => if q < j ∧ j ≤ n then od (j - 1) else od j) j)) q (nI (od (q - 1))))))] := hD
          have eu65 : upd (fun j => nI ((fun j => if q < j ∧ j ≤ n then od (j - 1) else od j) j)) q (nI (od (q - 1))) = (fun j => nI ((va_up (fun j => if q < j ∧ j ≤ n then od (j - 1) else od j) q (od (q - 1))) j)) := kUpN _ _ _
          rw [eu65] at hP hD
          have es : va_up (fun j => if q < j ∧ j ≤ n then od (j - 1) else od j) q (od (q - 1)) = (fun j => if q - 1 < j ∧ j ≤ n then od (j - 1) else od j) := k_ins1 od n q c_28 h1
          rw [es] at hP hD
          refine lv_iinc (v := nI (q - 1)) (lv' := [(5, .int (nI (q - 1))), (0, .ref h), (1, .long t), (4, .int (nI n))]) hx hb dX4_put_66 hl (k := 3) rfl (kn_dec (by omega)) (by decide) rfl (fun ls hl => ?_)
          refine lv_goto (tgt := 26) hx hb dX4_put_69 (by decide) ?_
          exact ih_la (q - 1) (by omega) (fun j q1 q2 => if e : q ≤ j then h2 j e q2 else by rw [show j = q - 1 by omega]; exact c_47) (by omega) _ _ hP hD hS ls (lv_sub hl [1, 2, 3, 0] rfl)
  have e0 : (fun j => if n < j ∧ j ≤ n then od (j - 1) else od j) = od := funext fun j => if_neg (by omega)
  exact la (n + 1) n (by omega) (fun j q1 q2 => absurd q1 (by omega)) (by omega) _ _ (by rw [e0]; exact hP) (by rw [e0]; exact hD) hS ls (lv_sub hl [2, 3, 1, 0] rfl)
