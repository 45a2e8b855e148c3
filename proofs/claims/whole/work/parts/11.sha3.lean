theorem k_step (pb w9 s9 : Nat → Int32) (b : Nat) (h : ∀ j, j < 8 → w9 j = kBlks pb b j) : ∀ j, j < 8 → kSeg w9 (fun j => w9 j + kRN (kSchN (kSeg s9 (fun t => kWd pb (64 * b + 4 * t)) 0 16) 48) w9 64 j) 0 8 j = kBlks pb (b + 1) j := fun j hj => by
  rw [kSeg_in (Nat.zero_le _) hj, h j hj]
  show _ = kBlks pb b j + _
  rw [kRN_congr h 64 (Nat.le_refl _) (fun t ht => kWs_of s9 pb b ht) j hj]

theorem iX2_finish_X2 : ∀ w ∈ wsX20, w ∈ wsX2_finish := by decide +kernel
theorem X2_finish_hwd0 : (.fieldLink RX2 15 "SignatureSpans$Sha256" "words" "[I" : Cond) ∈ wsX2_finish := by decide +kernel
theorem X2_finish_hwd1 : (.fieldLink RX2 36 "SignatureSpans$Sha256" "START" "[I" : Cond) ∈ wsX2_finish := by decide +kernel
set_option maxHeartbeats 4000000 in
set_option maxRecDepth 100000 in
/-- finish -/
theorem c_X2_finish (l : Launch) (D : va_G) (h am aw ac n : Nat) (f wd sc : Nat → Int32) (hn : n ≤ 1500) : kM (S := (Nat → Int32) × (Nat → Int32)) l yX2_finish wsX2_finish ({ frames := 9, cells := 0, slots := 0, locals := 220 }) 0 0 D [.ref h] [(h, .inr (2, [.ref am, .int (nI n), .ref aw, .ref ac])), (am, .inl (D.1 21, 1536, .inl f)), (aw, .inl (D.1 20, 8, .inl wd)), (ac, .inl (D.1 20, 64, .inl sc))] (fun _ => none) (fun u => [(h, .inr (2, [.ref am, .int (nI n), .ref aw, .ref ac])), (am, .inl (D.1 21, 1536, .inl (kPadM f n))), (aw, .inl (D.1 20, 8, .inl u.1)), (ac, .inl (D.1 20, 64, .inl u.2))]) (fun u => ∀ j, j < 8 → u.1 j = kSha (fun i => f i &&& nI 255) n j) := by
  intro sz
  refine Met.ofW (cc := cX2_finish) (maxL := 3) (ret := none) (by decide) rfl ?_
  intro p e s m args below meth c s₁ B hml hv
  obtain ⟨rfl, hsz, hP, hK, hD0, hE⟩ := hv
  have hx := B.exec
  have hb := B.bytes
  have hr := B.returns
  have hts := atoms_spec (ws := wsX2_finish) B.pre
  have hown : s.vm.findClass RX2 = some m.cls := findClass_of_methodNamed B.named
  have hlocks := B.notSynchronized
  subst hsz
  have hD := hD0.self (sz := s.heap.size)
  generalize hAe : va_A [(h, .inr (2, [.ref am, .int (nI n), .ref aw, .ref ac])), (am, .inl (D.1 21, 1536, .inl f)), (aw, .inl (D.1 20, 8, .inl wd)), (ac, .inl (D.1 20, 64, .inl sc))] s.heap.size = A at hD hE ⊢
  have hA : ∀ q : Nat, s.heap.size ≤ q → A q := fun q h => by rw [← hAe]; exact Or.inr h
  have hS : va_S A s.heap s.heap [] := va_S.rf
  have hl := lv_entry ([.ref h]) (n := 3) (Nat.le_of_ble_eq_true rfl)
  have inX2 : ∀ w ∈ wsX20, w ∈ wsX2_finish := iX2_finish_X2
  have hwd0 := hts (.fieldLink RX2 15 "SignatureSpans$Sha256" "words" "[I") X2_finish_hwd0
  have hwd1 := hts (.fieldLink RX2 36 "SignatureSpans$Sha256" "START" "[I") X2_finish_hwd1
  refine kgenQ (fun Q hQ => ?_)
  rw [lg_entry_eq]
  generalize (lg_sl ([.ref h]) ++ List.replicate (3 - (lg_sl ([.ref h])).length) Slot.unset).toArray = ls at hl ⊢
  have hl : lv_has ls 3 [(0, .ref h)] := hl
  refine lv_aload_n hx hb dX2_finish_0 rfl (lv_at hl 0 rfl) ?_
  refine kcV (C := RX2) (As := []) (rest := []) (ws := [(h, .inr (2, [.ref am, .int (nI n), .ref aw, .ref ac])), (am, .inl (D.1 21, 1536, .inl f))]) (wr := [(aw, .inl (D.1 20, 8, .inl wd)), (ac, .inl (D.1 20, 64, .inl sc))]) ⟨hx, hb, hml, hown, hts⟩ (c_X2_pad l D h am aw ac n f (by omega)) (cwV 0 hts gX2_finish_X2_pad rfl rfl rfl (by decide +kernel) ⟨Nat.le_of_ble_eq_true rfl, Nat.le_of_ble_eq_true rfl⟩) hK hE hP hD hS hA [0, 1] [2, 3] rfl rfl rfl rfl (by decide) 0 2 rfl rfl rfl rfl hl.1 rfl (Nat.le_of_ble_eq_true rfl) dX2_finish_1 ⟨Nat.le_of_ble_eq_true rfl, Nat.le_of_ble_eq_true rfl⟩ (fun _ H locs hpo hP hD hS => ?_)
  have hP : va_P D kC [(aw, .inl (D.1 20, 8, .inl wd)), (ac, .inl (D.1 20, 64, .inl sc)), (h, .inr (2, [.ref am, .int (nI n), .ref aw, .ref ac])), (am, .inl (D.1 21, 1536, .inl (kPadM f n)))] _ := hP
  have hD : va_D A [(aw, .inl (D.1 20, 8, .inl wd)), (ac, .inl (D.1 20, 64, .inl sc)), (h, .inr (2, [.ref am, .int (nI n), .ref aw, .ref ac])), (am, .inl (D.1 21, 1536, .inl (kPadM f n)))] := hD
  refine W.eq (g2 := F0 m 4 ls [.int (nI ((n + 72) / 64 * 64))]) rfl ?_
  refine W.widen (k := 0) (n := 0) (Nat.le_of_ble_eq_true rfl) (Nat.le_of_ble_eq_true rfl) ?_
  refine lv_istore_n (lv' := [(1, .int (nI ((n + 72) / 64 * 64))), (0, .ref h)]) hx hb dX2_finish_4 rfl hl (by decide) rfl (fun ls hl => ?_)
  refine lv_iconst (v := nI 0) hx hb dX2_finish_5 (by decide) ?_
  refine lv_istore_n (lv' := [(2, .int (nI 0)), (1, .int (nI ((n + 72) / 64 * 64))), (0, .ref h)]) hx hb dX2_finish_6 rfl hl (by decide) rfl (fun ls hl => ?_)
  have la : ∀ fu : Nat, ∀ (i1 : Nat), (i1 ≤ 8) → (9 ≤ i1 + fu) → ∀ (H : Heap) (locs : List Loc), va_P D kC [(h, .inr (2, [.ref am, .int (nI n), .ref aw, .ref ac])), (am, .inl (D.1 21, 1536, .inl (kPadM f n))), (aw, .inl (D.1 20, 8, .inl (kSeg wd kSt 0 i1))), (ac, .inl (D.1 20, 64, .inl sc))] H → va_D A [(h, .inr (2, [.ref am, .int (nI n), .ref aw, .ref ac])), (am, .inl (D.1 21, 1536, .inl (kPadM f n))), (aw, .inl (D.1 20, 8, .inl (kSeg wd kSt 0 i1))), (ac, .inl (D.1 20, 64, .inl sc))] → va_S A s.heap H locs → ∀ (ls : Array Slot), lv_has ls 3 [(0, .ref h), (1, .int (nI ((n + 72) / 64 * 64))), (2, .int (nI i1))] → W p l e (headSpec wsX2_finish ({ frames := 9, cells := 0, slots := 0, locals := 220 })).room s m #[Value.ref h] below meth c H locs 0 0 Q (F0 m 7 ls []) := by
    intro fu
    induction fu with
    | zero =>
      intro i1 h1 hfu H locs hP hD hS ls hl
      exfalso; omega
    | succ fu ih_la =>
      intro i1 h1 hfu H locs hP hD hS ls hl
      refine lv_iload_n hx hb dX2_finish_7 rfl (lv_at hl 2 rfl) ?_
      refine lv_bipush (v := nI 8) hx hb dX2_finish_8 (by decide) ?_
      refine kn_icmp_ge (tgt := 30) hx hb (by omega) (by omega) dX2_finish_10 (by decide) (fun c_10 => ?_) (fun c_10 => ?_)
      · have ev : i1 = 8 := by omega
        subst ev
        refine lv_iconst (v := nI 0) hx hb dX2_finish_30 (by decide) ?_
        refine lv_istore_n (lv' := [(2, .int (nI 0)), (0, .ref h), (1, .int (nI ((n + 72) / 64 * 64)))]) hx hb dX2_finish_31 rfl hl (by decide) rfl (fun ls hl => ?_)
        have lb : ∀ fu : Nat, ∀ (b : Nat) (w9 : Nat → Int32) (s9 : Nat → Int32), (b ≤ (n + 72) / 64) → (∀ j, j < 8 → w9 j = kBlks (fun j => kPadM f n j &&& nI 255) b j) → ((n + 72) / 64 + 1 ≤ b + fu) → ∀ (H : Heap) (locs : List Loc), va_P D kC [(h, .inr (2, [.ref am, .int (nI n), .ref aw, .ref ac])), (am, .inl (D.1 21, 1536, .inl (kPadM f n))), (aw, .inl (D.1 20, 8, .inl w9)), (ac, .inl (D.1 20, 64, .inl s9))] H → va_D A [(h, .inr (2, [.ref am, .int (nI n), .ref aw, .ref ac])), (am, .inl (D.1 21, 1536, .inl (kPadM f n))), (aw, .inl (D.1 20, 8, .inl w9)), (ac, .inl (D.1 20, 64, .inl s9))] → va_S A s.heap H locs → ∀ (ls : Array Slot), lv_has ls 3 [(0, .ref h), (1, .int (nI ((n + 72) / 64 * 64))), (2, .int (nI (64 * b)))] → W p l e (headSpec wsX2_finish ({ frames := 9, cells := 0, slots := 0, locals := 220 })).room s m #[Value.ref h] below meth c H locs 0 0 Q (F0 m 32 ls []) := by
          intro fu
          induction fu with
          | zero =>
            intro b w9 s9 h2 hw9 hfu H locs hP hD hS ls hl
            exfalso; omega
          | succ fu ih_lb =>
            intro b w9 s9 h2 hw9 hfu H locs hP hD hS ls hl
            refine lv_iload_n hx hb dX2_finish_32 rfl (lv_at hl 2 rfl) ?_
            refine lv_bipush (v := nI 64) hx hb dX2_finish_33 (by decide) ?_
            refine kn_iadd hx hb dX2_finish_35 ?_
            refine lv_iload_n hx hb dX2_finish_36 rfl (lv_at hl 1 rfl) ?_
            refine kn_icmp_gt (tgt := 55) hx hb (by omega) (by omega) dX2_finish_37 (by decide) (fun c_37 => ?_) (fun c_37 => ?_)
            · have eb : b = (n + 72) / 64 := by omega
              rw [hQ]
              have hP9 : va_P D kC [(h, .inr (2, [.ref am, .int (nI n), .ref aw, .ref ac])), (am, .inl (D.1 21, 1536, .inl (kPadM f n))), (aw, .inl (D.1 20, 8, .inl w9)), (ac, .inl (D.1 20, 64, .inl s9))] _ := hP
              have hD9 : va_D A [(h, .inr (2, [.ref am, .int (nI n), .ref aw, .ref ac])), (am, .inl (D.1 21, 1536, .inl (kPadM f n))), (aw, .inl (D.1 20, 8, .inl w9)), (ac, .inl (D.1 20, 64, .inl s9))] := hD
              exact W.vret hx hb hr (fun tq ht hW => ⟨⟨(w9, s9), rfl, fun j hj => (hw9 j hj).trans (by rw [eb]; exact kBlks_congr _ (fun i hi => kPadM_pad f n (by omega)) j hj), by rw [ht]; exact hP9, va_K.moved hW.alike hK, hD9⟩, hS.F ht⟩) hS.2.2 dX2_finish_55
            · refine lv_aload_n hx hb dX2_finish_40 rfl (lv_at hl 0 rfl) ?_
              refine lv_iload_n hx hb dX2_finish_41 rfl (lv_at hl 2 rfl) ?_
              refine kcV (C := RX2) (As := [.int (nI (64 * b))]) (rest := []) (ws := [(h, .inr (2, [.ref am, .int (nI n), .ref aw, .ref ac])), (am, .inl (D.1 21, 1536, .inl (kPadM f n))), (ac, .inl (D.1 20, 64, .inl s9))]) (wr := [(aw, .inl (D.1 20, 8, .inl w9))]) ⟨hx, hb, hml, hown, hts⟩ (c_X2_spread l D h am aw ac (64 * b) (nI n) (kPadM f n) s9 (by omega)) (cwV 1 hts gX2_finish_X2_spread rfl rfl rfl (by decide +kernel) ⟨Nat.le_of_ble_eq_true rfl, Nat.le_of_ble_eq_true rfl⟩) hK hE hP hD hS hA [0, 1, 3] [2] rfl rfl rfl rfl (by decide) 0 2 rfl rfl rfl rfl hl.1 rfl (Nat.le_of_ble_eq_true rfl) dX2_finish_42 ⟨Nat.le_of_ble_eq_true rfl, Nat.le_of_ble_eq_true rfl⟩ (fun _ H locs hpo hP hD hS => ?_)
              have hP : va_P D kC [(aw, .inl (D.1 20, 8, .inl w9)), (h, .inr (2, [.ref am, .int (nI n), .ref aw, .ref ac])), (am, .inl (D.1 21, 1536, .inl (kPadM f n))), (ac, .inl (D.1 20, 64, .inl (kSchN (kSeg s9 (fun t => kWd (fun j => (kPadM f n) j &&& nI 255) (64 * b + 4 * t)) 0 16) 48)))] _ := hP
              have hD : va_D A [(aw, .inl (D.1 20, 8, .inl w9)), (h, .inr (2, [.ref am, .int (nI n), .ref aw, .ref ac])), (am, .inl (D.1 21, 1536, .inl (kPadM f n))), (ac, .inl (D.1 20, 64, .inl (kSchN (kSeg s9 (fun t => kWd (fun j => (kPadM f n) j &&& nI 255) (64 * b + 4 * t)) 0 16) 48)))] := hD
              refine W.eq (g2 := F0 m 45 ls []) rfl ?_
              refine W.widen (k := 0) (n := 0) (Nat.le_of_ble_eq_true rfl) (Nat.le_of_ble_eq_true rfl) ?_
              refine lv_aload_n hx hb dX2_finish_45 rfl (lv_at hl 0 rfl) ?_
              refine kcV (C := RX2) (As := []) (rest := []) (ws := [(h, .inr (2, [.ref am, .int (nI n), .ref aw, .ref ac])), (aw, .inl (D.1 20, 8, .inl w9)), (ac, .inl (D.1 20, 64, .inl (kSchN (kSeg s9 (fun t => kWd (fun j => (kPadM f n) j &&& nI 255) (64 * b + 4 * t)) 0 16) 48)))]) (wr := [(am, .inl (D.1 21, 1536, .inl (kPadM f n)))]) ⟨hx, hb, hml, hown, hts⟩ (c_X2_stir l D h am aw ac (nI n) w9 (kSchN (kSeg s9 (fun t => kWd (fun j => (kPadM f n) j &&& nI 255) (64 * b + 4 * t)) 0 16) 48)) (cwV 0 hts gX2_finish_X2_stir rfl rfl rfl (by decide +kernel) ⟨Nat.le_of_ble_eq_true rfl, Nat.le_of_ble_eq_true rfl⟩) hK hE hP hD hS hA [1, 0, 3] [2] rfl rfl rfl rfl (by decide) 1 2 rfl rfl rfl rfl hl.1 rfl (Nat.le_of_ble_eq_true rfl) dX2_finish_46 ⟨Nat.le_of_ble_eq_true rfl, Nat.le_of_ble_eq_true rfl⟩ (fun _ H locs hpo hP hD hS => ?_)
              have hP : va_P D kC [(am, .inl (D.1 21, 1536, .inl (kPadM f n))), (h, .inr (2, [.ref am, .int (nI n), .ref aw, .ref ac])), (aw, .inl (D.1 20, 8, .inl (kSeg w9 (fun j => w9 j + kRN (kSchN (kSeg s9 (fun t => kWd (fun j => (kPadM f n) j &&& nI 255) (64 * b + 4 * t)) 0 16) 48) w9 64 j) 0 8))), (ac, .inl (D.1 20, 64, .inl (kSchN (kSeg s9 (fun t => kWd (fun j => (kPadM f n) j &&& nI 255) (64 * b + 4 * t)) 0 16) 48)))] _ := hP
              have hD : va_D A [(am, .inl (D.1 21, 1536, .inl (kPadM f n))), (h, .inr (2, [.ref am, .int (nI n), .ref aw, .ref ac])), (aw, .inl (D.1 20, 8, .inl (kSeg w9 (fun j => w9 j + kRN (kSchN (kSeg s9 (fun t => kWd (fun j => (kPadM f n) j &&& nI 255) (64 * b + 4 * t)) 0 16) 48) w9 64 j) 0 8))), (ac, .inl (D.1 20, 64, .inl (kSchN (kSeg s9 (fun t => kWd (fun j => (kPadM f n) j &&& nI 255) (64 * b + 4 * t)) 0 16) 48)))] := hD
              refine W.eq (g2 := F0 m 49 ls []) rfl ?_
              refine W.widen (k := 0) (n := 0) (Nat.le_of_ble_eq_true rfl) (Nat.le_of_ble_eq_true rfl) ?_
              refine lv_iinc (v := nI (64 * (b + 1))) (lv' := [(2, .int (nI (64 * (b + 1)))), (0, .ref h), (1, .int (nI ((n + 72) / 64 * 64)))]) hx hb dX2_finish_49 hl (k := 2) rfl (nI_add _ 64) (by decide) rfl (fun ls hl => ?_)
              refine lv_goto (tgt := 32) hx hb dX2_finish_52 (by decide) ?_
              exact ih_lb (b + 1) (kSeg w9 (fun j => w9 j + kRN (kSchN (kSeg s9 (fun t => kWd (fun j => (kPadM f n) j &&& nI 255) (64 * b + 4 * t)) 0 16) 48) w9 64 j) 0 8) (kSchN (kSeg s9 (fun t => kWd (fun j => (kPadM f n) j &&& nI 255) (64 * b + 4 * t)) 0 16) 48) (by omega) (k_step (fun j => kPadM f n j &&& nI 255) w9 s9 b hw9) (by omega) _ _ (hP.sub [1, 0, 2, 3] rfl) (hD.sub [1, 0, 2, 3] (by decide) rfl) hS ls (lv_sub hl [1, 2, 0] rfl)
        exact lb ((n + 72) / 64 + 1) 0 (kSeg wd kSt 0 8) sc (by omega) (fun j hj => kSeg_in (Nat.zero_le _) hj) (by omega) _ _ hP hD hS ls (lv_sub hl [1, 2, 0] rfl)
      · refine lv_aload_n hx hb dX2_finish_13 rfl (lv_at hl 0 rfl) ?_
        refine va_get (D := D) (ci := 2) (v := .ref aw) (C := RX2) (T := TX2) (N := 4) hx hb hts inX2 hown hK hP 0 rfl rfl 2 (by decide) hwd0 (fun _ h9 => h9) rfl dX2_finish_14 ?_
        refine lv_iload_n hx hb dX2_finish_17 rfl (lv_at hl 2 rfl) ?_
        refine va_gets hx hb hE.1.1 hS hown hwd1 (fun _ h9 => h9) dX2_finish_18 ?_
        refine lv_iload_n hx hb dX2_finish_21 rfl (lv_at hl 2 rfl) ?_
        refine kn_ti hx hb hE.1.2 hS (by omega) (by decide) dX2_finish_22 ?_
        refine kn_iast hx hb hK hP hD hS 2 0 rfl rfl (i := i1) (by omega) (by decide) dX2_finish_23 (fun H locs hP hD hS => ?_)
        have hP : va_P D kC [(h, .inr (2, [.ref am, .int (nI n), .ref aw, .ref ac])), (am, .inl (D.1 21, 1536, .inl (kPadM f n))), (aw, .inl (D.1 20, 8, .inl (upd (kSeg wd kSt 0 i1) i1 (kSt i1)))), (ac, .inl (D.1 20, 64, .inl sc))] _ := hP
        have hD : va_D A [(h, .inr (2, [.ref am, .int (nI n), .ref aw, .ref ac])), (am, .inl (D.1 21, 1536, .inl (kPadM f n))), (aw, .inl (D.1 20, 8, .inl (upd (kSeg wd kSt 0 i1) i1 (kSt i1)))), (ac, .inl (D.1 20, 64, .inl sc))] := hD
        have ef20 : upd (kSeg wd kSt 0 i1) i1 (kSt i1) = kSeg wd kSt 0 (i1 + 1) := kSeg_up (Nat.zero_le _) rfl
        rw [ef20] at hP hD
        refine lv_iinc (v := nI (i1 + 1)) (lv' := [(2, .int (nI (i1 + 1))), (0, .ref h), (1, .int (nI ((n + 72) / 64 * 64)))]) hx hb dX2_finish_24 hl (k := 2) rfl (nI_1 _) (by decide) rfl (fun ls hl => ?_)
        refine lv_goto (tgt := 7) hx hb dX2_finish_27 (by decide) ?_
        exact ih_la (i1 + 1) (by omega) (by omega) _ _ hP hD hS ls (lv_sub hl [1, 2, 0] rfl)
  exact la 9 0 (by omega) (by omega) _ _ (by rw [kSeg_0]; exact hP.sub [2, 3, 0, 1] rfl) (by rw [kSeg_0]; exact hD.sub [2, 3, 0, 1] (by decide) rfl) hS ls (lv_sub hl [2, 1, 0] rfl)

theorem iX2_copyWords_X2 : ∀ w ∈ wsX20, w ∈ wsX2_copyWords := by decide +kernel
theorem X2_copyWords_hwd0 : (.fieldLink RX2 15 "SignatureSpans$Sha256" "words" "[I" : Cond) ∈ wsX2_copyWords := by decide +kernel
set_option maxHeartbeats 4000000 in
set_option maxRecDepth 100000 in
/-- copyWords -/
theorem c_X2_copyWords (l : Launch) (D : va_G) (h am aw ac ai : Nat) (ln : Int32) (wd f : Nat → Int32) : kM (S := Unit) l yX2_copyWords wsX2_copyWords ({ frames := 7, cells := 0, slots := 0, locals := 100 }) 0 0 D [.ref h, .ref ai] [(h, .inr (2, [.ref am, .int ln, .ref aw, .ref ac])), (aw, .inl (D.1 20, 8, .inl wd)), (ai, .inl (D.1 20, 8, .inl f))] (fun _ => none) (fun _ => [(h, .inr (2, [.ref am, .int ln, .ref aw, .ref ac])), (aw, .inl (D.1 20, 8, .inl wd)), (ai, .inl (D.1 20, 8, .inl (kSeg f wd 0 8)))]) (fun _ => True) := by
  intro sz
  refine Met.ofW (cc := cX2_copyWords) (maxL := 3) (ret := none) (by decide) rfl ?_
  intro p e s m args below meth c s₁ B hml hv
  obtain ⟨rfl, hsz, hP, hK, hD0, hE⟩ := hv
  have hx := B.exec
  have hb := B.bytes
  have hr := B.returns
  have hts := atoms_spec (ws := wsX2_copyWords) B.pre
  have hown : s.vm.findClass RX2 = some m.cls := findClass_of_methodNamed B.named
  have hlocks := B.notSynchronized
  subst hsz
  have hD := hD0.self (sz := s.heap.size)
  generalize hAe : va_A [(h, .inr (2, [.ref am, .int ln, .ref aw, .ref ac])), (aw, .inl (D.1 20, 8, .inl wd)), (ai, .inl (D.1 20, 8, .inl f))] s.heap.size = A at hD hE ⊢
  have hA : ∀ q : Nat, s.heap.size ≤ q → A q := fun q h => by rw [← hAe]; exact Or.inr h
  have hS : va_S A s.heap s.heap [] := va_S.rf
  have hl := lv_entry ([.ref h, .ref ai]) (n := 3) (Nat.le_of_ble_eq_true rfl)
  have inX2 : ∀ w ∈ wsX20, w ∈ wsX2_copyWords := iX2_copyWords_X2
  have hwd0 := hts (.fieldLink RX2 15 "SignatureSpans$Sha256" "words" "[I") X2_copyWords_hwd0
  refine kgenQ (fun Q hQ => ?_)
  rw [lg_entry_eq]
  generalize (lg_sl ([.ref h, .ref ai]) ++ List.replicate (3 - (lg_sl ([.ref h, .ref ai])).length) Slot.unset).toArray = ls at hl ⊢
  have hl : lv_has ls 3 [(0, .ref h), (1, .ref ai)] := hl
  refine lv_iconst (v := nI 0) hx hb dX2_copyWords_0 (by decide) ?_
  refine lv_istore_n (lv' := [(2, .int (nI 0)), (0, .ref h), (1, .ref ai)]) hx hb dX2_copyWords_1 rfl hl (by decide) rfl (fun ls hl => ?_)
  have la : ∀ fu : Nat, ∀ (i1 : Nat), (i1 ≤ 8) → (9 ≤ i1 + fu) → ∀ (H : Heap) (locs : List Loc), va_P D kC [(h, .inr (2, [.ref am, .int ln, .ref aw, .ref ac])), (aw, .inl (D.1 20, 8, .inl wd)), (ai, .inl (D.1 20, 8, .inl (kSeg f wd 0 i1)))] H → va_D A [(h, .inr (2, [.ref am, .int ln, .ref aw, .ref ac])), (aw, .inl (D.1 20, 8, .inl wd)), (ai, .inl (D.1 20, 8, .inl (kSeg f wd 0 i1)))] → va_S A s.heap H locs → ∀ (ls : Array Slot), lv_has ls 3 [(0, .ref h), (1, .ref ai), (2, .int (nI i1))] → W p l e (headSpec wsX2_copyWords ({ frames := 7, cells := 0, slots := 0, locals := 100 })).room s m #[Value.ref h, Value.ref ai] below meth c H locs 0 0 Q (F0 m 2 ls []) := by
    intro fu
    induction fu with
    | zero =>
      intro i1 h1 hfu H locs hP hD hS ls hl
      exfalso; omega
    | succ fu ih_la =>
      intro i1 h1 hfu H locs hP hD hS ls hl
      refine lv_iload_n hx hb dX2_copyWords_2 rfl (lv_at hl 2 rfl) ?_
      refine lv_bipush (v := nI 8) hx hb dX2_copyWords_3 (by decide) ?_
      refine kn_icmp_ge (tgt := 29) hx hb (by omega) (by omega) dX2_copyWords_5 (by decide) (fun c_5 => ?_) (fun c_5 => ?_)
      · have ev : i1 = 8 := by omega
        subst ev
        rw [hQ]
        have hP9 : va_P D kC [(h, .inr (2, [.ref am, .int ln, .ref aw, .ref ac])), (aw, .inl (D.1 20, 8, .inl wd)), (ai, .inl (D.1 20, 8, .inl (kSeg f wd 0 8)))] _ := hP
        have hD9 : va_D A [(h, .inr (2, [.ref am, .int ln, .ref aw, .ref ac])), (aw, .inl (D.1 20, 8, .inl wd)), (ai, .inl (D.1 20, 8, .inl (kSeg f wd 0 8)))] := hD
        exact W.vret hx hb hr (fun tq ht hW => ⟨⟨(), rfl, trivial, by rw [ht]; exact hP9, va_K.moved hW.alike hK, hD9⟩, hS.F ht⟩) hS.2.2 dX2_copyWords_29
      · refine lv_iload_n hx hb dX2_copyWords_8 rfl (lv_at hl 2 rfl) ?_
        refine lv_aload_n hx hb dX2_copyWords_9 rfl (lv_at hl 1 rfl) ?_
        refine va_alen (v := nI 8) hx hb hK hP 2 0 rfl rfl rfl dX2_copyWords_10 ?_
        refine kn_icmp_ge (tgt := 29) hx hb (by omega) (by omega) dX2_copyWords_11 (by decide) (fun c_11 => by omega) (fun c_11 => ?_)
        refine lv_aload_n hx hb dX2_copyWords_14 rfl (lv_at hl 1 rfl) ?_
        refine lv_iload_n hx hb dX2_copyWords_15 rfl (lv_at hl 2 rfl) ?_
        refine lv_aload_n hx hb dX2_copyWords_16 rfl (lv_at hl 0 rfl) ?_
        refine va_get (D := D) (ci := 2) (v := .ref aw) (C := RX2) (T := TX2) (N := 4) hx hb hts inX2 hown hK hP 0 rfl rfl 2 (by decide) hwd0 (fun _ h9 => h9) rfl dX2_copyWords_17 ?_
        refine lv_iload_n hx hb dX2_copyWords_20 rfl (lv_at hl 2 rfl) ?_
        refine kn_iald hx hb hK hP 1 0 rfl rfl (i := i1) (by omega) (by decide) dX2_copyWords_21 ?_
        refine kn_iast hx hb hK hP hD hS 2 0 rfl rfl (i := i1) (by omega) (by decide) dX2_copyWords_22 (fun H locs hP hD hS => ?_)
        have hP : va_P D kC [(h, .inr (2, [.ref am, .int ln, .ref aw, .ref ac])), (aw, .inl (D.1 20, 8, .inl wd)), (ai, .inl (D.1 20, 8, .inl (upd (kSeg f wd 0 i1) i1 (wd i1))))] _ := hP
        have hD : va_D A [(h, .inr (2, [.ref am, .int ln, .ref aw, .ref ac])), (aw, .inl (D.1 20, 8, .inl wd)), (ai, .inl (D.1 20, 8, .inl (upd (kSeg f wd 0 i1) i1 (wd i1))))] := hD
        have ef21 : upd (kSeg f wd 0 i1) i1 (wd i1) = kSeg f wd 0 (i1 + 1) := kSeg_up (Nat.zero_le _) rfl
        rw [ef21] at hP hD
        refine lv_iinc (v := nI (i1 + 1)) (lv' := [(2, .int (nI (i1 + 1))), (0, .ref h), (1, .ref ai)]) hx hb dX2_copyWords_23 hl (k := 2) rfl (nI_1 _) (by decide) rfl (fun ls hl => ?_)
        refine lv_goto (tgt := 2) hx hb dX2_copyWords_26 (by decide) ?_
        exact ih_la (i1 + 1) (by omega) (by omega) _ _ hP hD hS ls (lv_sub hl [1, 2, 0] rfl)
  exact la 9 0 (by omega) (by omega) _ _ (by rw [kSeg_0]; exact hP) (by rw [kSeg_0]; exact hD) hS ls (lv_sub hl [1, 2, 0] rfl)

theorem iX2_hasWords_X2 : ∀ w ∈ wsX20, w ∈ wsX2_hasWords := by decide +kernel
theorem X2_hasWords_hwd0 : (.fieldLink RX2 15 "SignatureSpans$Sha256" "words" "[I" : Cond) ∈ wsX2_hasWords := by decide +kernel
set_option maxHeartbeats 4000000 in
set_option maxRecDepth 100000 in
/-- hasWords -/
theorem c_X2_hasWords (l : Launch) (D : va_G) (h am aw ac ai : Nat) (ln : Int32) (wd f : Nat → Int32) : kM (S := Unit) l yX2_hasWords wsX2_hasWords ({ frames := 7, cells := 0, slots := 0, locals := 100 }) 0 0 D [.ref h, .ref ai] [(h, .inr (2, [.ref am, .int ln, .ref aw, .ref ac])), (aw, .inl (D.1 20, 8, .inl wd)), (ai, .inl (D.1 20, 8, .inl f))] (fun _ => some (.int (kB (kEq8 wd f)))) (fun _ => [(h, .inr (2, [.ref am, .int ln, .ref aw, .ref ac])), (aw, .inl (D.1 20, 8, .inl wd)), (ai, .inl (D.1 20, 8, .inl f))]) (fun _ => True) := by
  intro sz
  refine Met.ofW (cc := cX2_hasWords) (maxL := 3) (ret := (some .boolean)) (by decide) rfl ?_
  intro p e s m args below meth c s₁ B hml hv
  obtain ⟨rfl, hsz, hP, hK, hD0, hE⟩ := hv
  have hx := B.exec
  have hb := B.bytes
  have hr := B.returns
  have hts := atoms_spec (ws := wsX2_hasWords) B.pre
  have hown : s.vm.findClass RX2 = some m.cls := findClass_of_methodNamed B.named
  have hlocks := B.notSynchronized
  subst hsz
  have hD := hD0.self (sz := s.heap.size)
  generalize hAe : va_A [(h, .inr (2, [.ref am, .int ln, .ref aw, .ref ac])), (aw, .inl (D.1 20, 8, .inl wd)), (ai, .inl (D.1 20, 8, .inl f))] s.heap.size = A at hD hE ⊢
  have hA : ∀ q : Nat, s.heap.size ≤ q → A q := fun q h => by rw [← hAe]; exact Or.inr h
  have hS : va_S A s.heap s.heap [] := va_S.rf
  have hl := lv_entry ([.ref h, .ref ai]) (n := 3) (Nat.le_of_ble_eq_true rfl)
  have inX2 : ∀ w ∈ wsX20, w ∈ wsX2_hasWords := iX2_hasWords_X2
  have hwd0 := hts (.fieldLink RX2 15 "SignatureSpans$Sha256" "words" "[I") X2_hasWords_hwd0
  refine kgenQ (fun Q hQ => ?_)
  rw [lg_entry_eq]
  generalize (lg_sl ([.ref h, .ref ai]) ++ List.replicate (3 - (lg_sl ([.ref h, .ref ai])).length) Slot.unset).toArray = ls at hl ⊢
  have hl : lv_has ls 3 [(0, .ref h), (1, .ref ai)] := hl
  refine lv_aload_n hx hb dX2_hasWords_0 rfl (lv_at hl 1 rfl) ?_
  refine va_alen (v := nI 8) hx hb hK hP 2 0 rfl rfl rfl dX2_hasWords_1 ?_
  refine lv_bipush (v := nI 8) hx hb dX2_hasWords_2 (by decide) ?_
  refine kn_icmp_eq (tgt := 9) hx hb (by omega) (by omega) dX2_hasWords_4 (by decide) (fun c_4 => ?_) (fun c_4 => absurd rfl c_4)
  refine lv_iconst (v := nI 0) hx hb dX2_hasWords_9 (by decide) ?_
  refine lv_istore_n (lv' := [(2, .int (nI 0)), (0, .ref h), (1, .ref ai)]) hx hb dX2_hasWords_10 rfl hl (by decide) rfl (fun ls hl => ?_)
  have la : ∀ fu : Nat, ∀ (i1 : Nat), (i1 ≤ 8) → (∀ j, j < i1 → wd j = f j) → (9 ≤ i1 + fu) → ∀ (H : Heap) (locs : List Loc), va_P D kC [(h, .inr (2, [.ref am, .int ln, .ref aw, .ref ac])), (aw, .inl (D.1 20, 8, .inl wd)), (ai, .inl (D.1 20, 8, .inl f))] H → va_D A [(h, .inr (2, [.ref am, .int ln, .ref aw, .ref ac])), (aw, .inl (D.1 20, 8, .inl wd)), (ai, .inl (D.1 20, 8, .inl f))] → va_S A s.heap H locs → ∀ (ls : Array Slot), lv_has ls 3 [(0, .ref h), (1, .ref ai), (2, .int (nI i1))] → W p l e (headSpec wsX2_hasWords ({ frames := 7, cells := 0, slots := 0, locals := 100 })).room s m #[Value.ref h, Value.ref ai] below meth c H locs 0 0 Q (F0 m 11 ls []) := by
    intro fu
    induction fu with
    | zero =>
      intro i1 h1 h2 hfu H locs hP hD hS ls hl
      exfalso; omega
    | succ fu ih_la =>
      intro i1 h1 h2 hfu H locs hP hD hS ls hl
      refine lv_iload_n hx hb dX2_hasWords_11 rfl (lv_at hl 2 rfl) ?_
      refine lv_bipush (v := nI 8) hx hb dX2_hasWords_12 (by decide) ?_
      refine kn_icmp_ge (tgt := 37) hx hb (by omega) (by omega) dX2_hasWords_14 (by decide) (fun c_14 => ?_) (fun c_14 => ?_)
      · refine lv_iconst (v := nI 1) hx hb dX2_hasWords_37 (by decide) ?_
        have ei : i1 = 8 := by omega
        rw [hQ]
        have hP9 : va_P D kC [(h, .inr (2, [.ref am, .int ln, .ref aw, .ref ac])), (aw, .inl (D.1 20, 8, .inl wd)), (ai, .inl (D.1 20, 8, .inl f))] _ := hP
        have hD9 : va_D A [(h, .inr (2, [.ref am, .int ln, .ref aw, .ref ac])), (aw, .inl (D.1 20, 8, .inl wd)), (ai, .inl (D.1 20, 8, .inl f))] := hD
        exact W.zret (v := nI 1) hx hb hr (rfl) (fun tq ht hW => ⟨⟨(), congrArg (fun z => Outcome.returned (some (Value.int z))) (kB_t (kEq8_t fun j hj => h2 j (by omega))), trivial, by rw [ht]; exact hP9, va_K.moved hW.alike hK, hD9⟩, hS.F ht⟩) hS.2.2 dX2_hasWords_38
      · refine lv_aload_n hx hb dX2_hasWords_17 rfl (lv_at hl 0 rfl) ?_
        refine va_get (D := D) (ci := 2) (v := .ref aw) (C := RX2) (T := TX2) (N := 4) hx hb hts inX2 hown hK hP 0 rfl rfl 2 (by decide) hwd0 (fun _ h9 => h9) rfl dX2_hasWords_18 ?_
        refine lv_iload_n hx hb dX2_hasWords_21 rfl (lv_at hl 2 rfl) ?_
        refine kn_iald hx hb hK hP 1 0 rfl rfl (i := i1) (by omega) (by decide) dX2_hasWords_22 ?_
        refine lv_aload_n hx hb dX2_hasWords_23 rfl (lv_at hl 1 rfl) ?_
        refine lv_iload_n hx hb dX2_hasWords_24 rfl (lv_at hl 2 rfl) ?_
        refine kn_iald hx hb hK hP 2 0 rfl rfl (i := i1) (by omega) (by decide) dX2_hasWords_25 ?_
        refine lv_icmp_eq (tgt := 31) hx hb dX2_hasWords_26 (by decide) (fun c_26 => ?_) (fun c_26 => ?_)
        · refine lv_iinc (v := nI (i1 + 1)) (lv' := [(2, .int (nI (i1 + 1))), (0, .ref h), (1, .ref ai)]) hx hb dX2_hasWords_31 hl (k := 2) rfl (nI_1 _) (by decide) rfl (fun ls hl => ?_)
          refine lv_goto (tgt := 11) hx hb dX2_hasWords_34 (by decide) ?_
          exact ih_la (i1 + 1) (by omega) (fun j hj => (Nat.lt_succ_iff_lt_or_eq.mp hj).elim (h2 j) (fun e => by rw [e]; exact c_26)) (by omega) _ _ hP hD hS ls (lv_sub hl [1, 2, 0] rfl)
        · refine lv_iconst (v := nI 0) hx hb dX2_hasWords_29 (by decide) ?_
          rw [hQ]
          have hP9 : va_P D kC [(h, .inr (2, [.ref am, .int ln, .ref aw, .ref ac])), (aw, .inl (D.1 20, 8, .inl wd)), (ai, .inl (D.1 20, 8, .inl f))] _ := hP
          have hD9 : va_D A [(h, .inr (2, [.ref am, .int ln, .ref aw, .ref ac])), (aw, .inl (D.1 20, 8, .inl wd)), (ai, .inl (D.1 20, 8, .inl f))] := hD
          exact W.zret (v := nI 0) hx hb hr (rfl) (fun tq ht hW => ⟨⟨(), congrArg (fun z => Outcome.returned (some (Value.int z))) (kB_f (kEq8_f i1 (by omega) c_26)), trivial, by rw [ht]; exact hP9, va_K.moved hW.alike hK, hD9⟩, hS.F ht⟩) hS.2.2 dX2_hasWords_30
  exact la 9 0 (by omega) (fun j hj => absurd hj (Nat.not_lt_zero j)) (by omega) _ _ hP hD hS ls (lv_sub hl [1, 2, 0] rfl)
