theorem k_first (f fl : Nat → Int32) (n : Nat) {i : Nat} (hi : i < n) : kSeg f (fun j => (fl (0 + (j - 0))).toInt8.toInt32) 0 n i &&& nI 255 = kMb fl n n i := by
  rw [kSeg_in (Nat.zero_le _) hi, k_b255]
  unfold kMb
  rw [if_pos hi, Nat.zero_add, Nat.sub_zero]
theorem k_signed (f fl : Nat → Int32) (pa pb en : Nat) {i : Nat} (hi : i < pa + (en - pb)) : kSeg (kSeg f (fun j => (fl (0 + (j - 0))).toInt8.toInt32) 0 pa) (fun j => (fl (pb + (j - pa))).toInt8.toInt32) pa (pa + (en - pb)) i &&& nI 255 = kMb fl pa pb i := by
  unfold kMb
  by_cases h : i < pa
  · rw [kSeg_out (Or.inl h), kSeg_in (Nat.zero_le _) h, k_b255, if_pos h, Nat.zero_add, Nat.sub_zero]
  · rw [kSeg_in (by omega) hi, k_b255, if_neg h, Nat.add_comm pb]

theorem iX5_hashFirst_X5 : ∀ w ∈ wsX50, w ∈ wsX5_hashFirst := by decide +kernel
theorem X5_hashFirst_hwd0 : (.fieldLink RX5 43 "SignatureSpans" "sha" "LSignatureSpans$Sha256;" : Cond) ∈ wsX5_hashFirst := by decide +kernel
theorem X5_hashFirst_hwd1 : (.fieldLink RX5 9 "SignatureSpans" "file" "[B" : Cond) ∈ wsX5_hashFirst := by decide +kernel
set_option maxHeartbeats 4000000 in
set_option maxRecDepth 100000 in
/-- hashFirst -/
theorem c_X5_hashFirst (l : Launch) (D : va_G) (h fa ap aa ac at9 ah sz cn : Nat) (sf : Int32) (hm hw hc : Nat) (ln : Int32) (fl f wd sc : Nat → Int32) (n : Nat) (hn : n ≤ 1500) : kM (S := (Nat → Int32) × (Nat → Int32) × (Nat → Int32)) l yX5_hashFirst wsX5_hashFirst ({ frames := 10, cells := 0, slots := 0, locals := 280 }) 0 0 D [.ref h, .int (nI n)] [(h, .inr (5, [.ref fa, .int (nI sz), .ref ap, .ref aa, .int (nI cn), .int sf, .ref ac, .ref at9, .ref ah])), (fa, .inl (D.1 21, 1500, .inl fl)), (ah, .inr (2, [.ref hm, .int ln, .ref hw, .ref hc])), (hm, .inl (D.1 21, 1536, .inl f)), (hw, .inl (D.1 20, 8, .inl wd)), (hc, .inl (D.1 20, 64, .inl sc))] (fun _ => none) (fun u => [(h, .inr (5, [.ref fa, .int (nI sz), .ref ap, .ref aa, .int (nI cn), .int sf, .ref ac, .ref at9, .ref ah])), (fa, .inl (D.1 21, 1500, .inl fl)), (ah, .inr (2, [.ref hm, .int (nI n), .ref hw, .ref hc])), (hm, .inl (D.1 21, 1536, .inl u.1)), (hw, .inl (D.1 20, 8, .inl u.2.1)), (hc, .inl (D.1 20, 64, .inl u.2.2))]) (fun u => ∀ j, j < 8 → u.2.1 j = kSha (kMb fl n n) n j) := by
  intro sz
  refine Met.ofW (cc := cX5_hashFirst) (maxL := 2) (ret := none) (by decide) rfl ?_
  intro p e s m args below meth c s₁ B hml hv
  obtain ⟨rfl, hsz, hP, hK, hD0, hE⟩ := hv
  have hx := B.exec
  have hb := B.bytes
  have hr := B.returns
  have hts := atoms_spec (ws := wsX5_hashFirst) B.pre
  have hown : s.vm.findClass RX5 = some m.cls := findClass_of_methodNamed B.named
  have hlocks := B.notSynchronized
  subst hsz
  have hD := hD0.self (sz := s.heap.size)
  generalize hAe : va_A [(h, .inr (5, [.ref fa, .int (nI sz), .ref ap, .ref aa, .int (nI cn), .int sf, .ref ac, .ref at9, .ref ah])), (fa, .inl (D.1 21, 1500, .inl fl)), (ah, .inr (2, [.ref hm, .int ln, .ref hw, .ref hc])), (hm, .inl (D.1 21, 1536, .inl f)), (hw, .inl (D.1 20, 8, .inl wd)), (hc, .inl (D.1 20, 64, .inl sc))] s.heap.size = A at hD hE ⊢
  have hA : ∀ q : Nat, s.heap.size ≤ q → A q := fun q h => by rw [← hAe]; exact Or.inr h
  have hS : va_S A s.heap s.heap [] := va_S.rf
  have hl := lv_entry ([.ref h, .int (nI n)]) (n := 2) (Nat.le_of_ble_eq_true rfl)
  have inX5 : ∀ w ∈ wsX50, w ∈ wsX5_hashFirst := iX5_hashFirst_X5
  have hwd0 := hts (.fieldLink RX5 43 "SignatureSpans" "sha" "LSignatureSpans$Sha256;") X5_hashFirst_hwd0
  have hwd1 := hts (.fieldLink RX5 9 "SignatureSpans" "file" "[B") X5_hashFirst_hwd1
  refine kgenQ (fun Q hQ => ?_)
  rw [lg_entry_eq]
  generalize (lg_sl ([.ref h, .int (nI n)]) ++ List.replicate (2 - (lg_sl ([.ref h, .int (nI n)])).length) Slot.unset).toArray = ls at hl ⊢
  have hl : lv_has ls 2 [(0, .ref h), (1, .int (nI n))] := hl
  refine lv_aload_n hx hb dX5_hashFirst_0 rfl (lv_at hl 0 rfl) ?_
  refine va_get (D := D) (ci := 5) (v := .ref ah) (C := RX5) (T := TX5) (N := 9) hx hb hts inX5 hown hK hP 0 rfl rfl 8 (by decide) hwd0 (fun _ h9 => h9) rfl dX5_hashFirst_1 ?_
  refine kcV (C := RX2) (As := []) (rest := []) (ws := [(ah, .inr (2, [.ref hm, .int ln, .ref hw, .ref hc]))]) (wr := [(h, .inr (5, [.ref fa, .int (nI sz), .ref ap, .ref aa, .int (nI cn), .int sf, .ref ac, .ref at9, .ref ah])), (fa, .inl (D.1 21, 1500, .inl fl)), (hm, .inl (D.1 21, 1536, .inl f)), (hw, .inl (D.1 20, 8, .inl wd)), (hc, .inl (D.1 20, 64, .inl sc))]) ⟨hx, hb, hml, hown, hts⟩ (c_X2_start l D ah hm hw hc ln) (cwV 0 hts gX5_hashFirst_X2_start rfl rfl rfl (by decide +kernel) ⟨Nat.le_of_ble_eq_true rfl, Nat.le_of_ble_eq_true rfl⟩) hK hE hP hD hS hA [2] [0, 1, 3, 4, 5] rfl rfl rfl rfl (by decide) 2 2 rfl rfl rfl rfl hl.1 rfl (Nat.le_of_ble_eq_true rfl) dX5_hashFirst_4 ⟨Nat.le_of_ble_eq_true rfl, Nat.le_of_ble_eq_true rfl⟩ (fun _ H locs hpo hP hD hS => ?_)
  have hP : va_P D kC [(h, .inr (5, [.ref fa, .int (nI sz), .ref ap, .ref aa, .int (nI cn), .int sf, .ref ac, .ref at9, .ref ah])), (fa, .inl (D.1 21, 1500, .inl fl)), (hm, .inl (D.1 21, 1536, .inl f)), (hw, .inl (D.1 20, 8, .inl wd)), (hc, .inl (D.1 20, 64, .inl sc)), (ah, .inr (2, [.ref hm, .int (nI 0), .ref hw, .ref hc]))] _ := hP
  have hD : va_D A [(h, .inr (5, [.ref fa, .int (nI sz), .ref ap, .ref aa, .int (nI cn), .int sf, .ref ac, .ref at9, .ref ah])), (fa, .inl (D.1 21, 1500, .inl fl)), (hm, .inl (D.1 21, 1536, .inl f)), (hw, .inl (D.1 20, 8, .inl wd)), (hc, .inl (D.1 20, 64, .inl sc)), (ah, .inr (2, [.ref hm, .int (nI 0), .ref hw, .ref hc]))] := hD
  refine W.eq (g2 := F0 m 7 ls []) rfl ?_
  refine W.widen (k := 0) (n := 0) (Nat.le_of_ble_eq_true rfl) (Nat.le_of_ble_eq_true rfl) ?_
  refine lv_aload_n hx hb dX5_hashFirst_7 rfl (lv_at hl 0 rfl) ?_
  refine va_get (D := D) (ci := 5) (v := .ref ah) (C := RX5) (T := TX5) (N := 9) hx hb hts inX5 hown hK hP 0 rfl rfl 8 (by decide) hwd0 (fun _ h9 => h9) rfl dX5_hashFirst_8 ?_
  refine lv_aload_n hx hb dX5_hashFirst_11 rfl (lv_at hl 0 rfl) ?_
  refine va_get (D := D) (ci := 5) (v := .ref fa) (C := RX5) (T := TX5) (N := 9) hx hb hts inX5 hown hK hP 0 rfl rfl 0 (by decide) hwd1 (fun _ h9 => h9) rfl dX5_hashFirst_12 ?_
  refine lv_iconst (v := nI 0) hx hb dX5_hashFirst_15 (by decide) ?_
  refine lv_iload_n hx hb dX5_hashFirst_16 rfl (lv_at hl 1 rfl) ?_
  refine kcV (C := RX2) (As := [.ref fa, .int (nI 0), .int (nI n)]) (rest := []) (ws := [(ah, .inr (2, [.ref hm, .int (nI 0), .ref hw, .ref hc])), (hm, .inl (D.1 21, 1536, .inl f)), (fa, .inl (D.1 21, 1500, .inl fl))]) (wr := [(h, .inr (5, [.ref fa, .int (nI sz), .ref ap, .ref aa, .int (nI cn), .int sf, .ref ac, .ref at9, .ref ah])), (hw, .inl (D.1 20, 8, .inl wd)), (hc, .inl (D.1 20, 64, .inl sc))]) ⟨hx, hb, hml, hown, hts⟩ (c_X2_take l D ah hm hw hc fa 0 n 0 f fl (by omega) (by omega) (by omega)) (cwV 3 hts gX5_hashFirst_X2_take rfl rfl rfl (by decide +kernel) ⟨Nat.le_of_ble_eq_true rfl, Nat.le_of_ble_eq_true rfl⟩) hK hE hP hD hS hA [5, 2, 1] [0, 3, 4] rfl rfl rfl rfl (by decide) 5 2 rfl rfl rfl rfl hl.1 rfl (Nat.le_of_ble_eq_true rfl) dX5_hashFirst_17 ⟨Nat.le_of_ble_eq_true rfl, Nat.le_of_ble_eq_true rfl⟩ (fun _ H locs hpo hP hD hS => ?_)
  have hP : va_P D kC [(h, .inr (5, [.ref fa, .int (nI sz), .ref ap, .ref aa, .int (nI cn), .int sf, .ref ac, .ref at9, .ref ah])), (hw, .inl (D.1 20, 8, .inl wd)), (hc, .inl (D.1 20, 64, .inl sc)), (ah, .inr (2, [.ref hm, .int (nI (0 + (n - 0))), .ref hw, .ref hc])), (hm, .inl (D.1 21, 1536, .inl (kSeg f (fun j => (fl (0 + (j - 0))).toInt8.toInt32) 0 (0 + (n - 0))))), (fa, .inl (D.1 21, 1500, .inl fl))] _ := hP
  have hD : va_D A [(h, .inr (5, [.ref fa, .int (nI sz), .ref ap, .ref aa, .int (nI cn), .int sf, .ref ac, .ref at9, .ref ah])), (hw, .inl (D.1 20, 8, .inl wd)), (hc, .inl (D.1 20, 64, .inl sc)), (ah, .inr (2, [.ref hm, .int (nI (0 + (n - 0))), .ref hw, .ref hc])), (hm, .inl (D.1 21, 1536, .inl (kSeg f (fun j => (fl (0 + (j - 0))).toInt8.toInt32) 0 (0 + (n - 0))))), (fa, .inl (D.1 21, 1500, .inl fl))] := hD
  have en17 : 0 + (n - 0) = n := by omega
  rw [en17] at hP hD
  refine W.eq (g2 := F0 m 20 ls []) rfl ?_
  refine W.widen (k := 0) (n := 0) (Nat.le_of_ble_eq_true rfl) (Nat.le_of_ble_eq_true rfl) ?_
  refine lv_aload_n hx hb dX5_hashFirst_20 rfl (lv_at hl 0 rfl) ?_
  refine va_get (D := D) (ci := 5) (v := .ref ah) (C := RX5) (T := TX5) (N := 9) hx hb hts inX5 hown hK hP 0 rfl rfl 8 (by decide) hwd0 (fun _ h9 => h9) rfl dX5_hashFirst_21 ?_
  refine kcV (C := RX2) (As := []) (rest := []) (ws := [(ah, .inr (2, [.ref hm, .int (nI n), .ref hw, .ref hc])), (hm, .inl (D.1 21, 1536, .inl (kSeg f (fun j => (fl (0 + (j - 0))).toInt8.toInt32) 0 n))), (hw, .inl (D.1 20, 8, .inl wd)), (hc, .inl (D.1 20, 64, .inl sc))]) (wr := [(h, .inr (5, [.ref fa, .int (nI sz), .ref ap, .ref aa, .int (nI cn), .int sf, .ref ac, .ref at9, .ref ah])), (fa, .inl (D.1 21, 1500, .inl fl))]) ⟨hx, hb, hml, hown, hts⟩ (c_X2_finish l D ah hm hw hc n (kSeg f (fun j => (fl (0 + (j - 0))).toInt8.toInt32) 0 n) wd sc (by omega)) (cwV 0 hts gX5_hashFirst_X2_finish rfl rfl rfl (by decide +kernel) ⟨Nat.le_of_ble_eq_true rfl, Nat.le_of_ble_eq_true rfl⟩) hK hE hP hD hS hA [3, 4, 1, 2] [0, 5] rfl rfl rfl rfl (by decide) 3 2 rfl rfl rfl rfl hl.1 rfl (Nat.le_of_ble_eq_true rfl) dX5_hashFirst_24 ⟨Nat.le_of_ble_eq_true rfl, Nat.le_of_ble_eq_true rfl⟩ (fun ⟨wu24, su24⟩ H locs hpo hP hD hS => ?_)
  have hP : va_P D kC [(h, .inr (5, [.ref fa, .int (nI sz), .ref ap, .ref aa, .int (nI cn), .int sf, .ref ac, .ref at9, .ref ah])), (fa, .inl (D.1 21, 1500, .inl fl)), (ah, .inr (2, [.ref hm, .int (nI n), .ref hw, .ref hc])), (hm, .inl (D.1 21, 1536, .inl (kPadM (kSeg f (fun j => (fl (0 + (j - 0))).toInt8.toInt32) 0 n) n))), (hw, .inl (D.1 20, 8, .inl wu24)), (hc, .inl (D.1 20, 64, .inl su24))] _ := hP
  have hD : va_D A [(h, .inr (5, [.ref fa, .int (nI sz), .ref ap, .ref aa, .int (nI cn), .int sf, .ref ac, .ref at9, .ref ah])), (fa, .inl (D.1 21, 1500, .inl fl)), (ah, .inr (2, [.ref hm, .int (nI n), .ref hw, .ref hc])), (hm, .inl (D.1 21, 1536, .inl (kPadM (kSeg f (fun j => (fl (0 + (j - 0))).toInt8.toInt32) 0 n) n))), (hw, .inl (D.1 20, 8, .inl wu24)), (hc, .inl (D.1 20, 64, .inl su24))] := hD
  have hwu24 : ∀ j, j < 8 → wu24 j = kSha (fun i => (kSeg f (fun j => (fl (0 + (j - 0))).toInt8.toInt32) 0 n) i &&& nI 255) n j := hpo
  refine W.eq (g2 := F0 m 27 ls []) rfl ?_
  refine W.widen (k := 0) (n := 0) (Nat.le_of_ble_eq_true rfl) (Nat.le_of_ble_eq_true rfl) ?_
  rw [hQ]
  have hP9 : va_P D kC [(h, .inr (5, [.ref fa, .int (nI sz), .ref ap, .ref aa, .int (nI cn), .int sf, .ref ac, .ref at9, .ref ah])), (fa, .inl (D.1 21, 1500, .inl fl)), (ah, .inr (2, [.ref hm, .int (nI n), .ref hw, .ref hc])), (hm, .inl (D.1 21, 1536, .inl (kPadM (kSeg f (fun j => (fl (0 + (j - 0))).toInt8.toInt32) 0 n) n))), (hw, .inl (D.1 20, 8, .inl wu24)), (hc, .inl (D.1 20, 64, .inl su24))] _ := hP
  have hD9 : va_D A [(h, .inr (5, [.ref fa, .int (nI sz), .ref ap, .ref aa, .int (nI cn), .int sf, .ref ac, .ref at9, .ref ah])), (fa, .inl (D.1 21, 1500, .inl fl)), (ah, .inr (2, [.ref hm, .int (nI n), .ref hw, .ref hc])), (hm, .inl (D.1 21, 1536, .inl (kPadM (kSeg f (fun j => (fl (0 + (j - 0))).toInt8.toInt32) 0 n) n))), (hw, .inl (D.1 20, 8, .inl wu24)), (hc, .inl (D.1 20, 64, .inl su24))] := hD
  exact W.vret hx hb hr (fun t ht hW => ⟨⟨(kPadM (kSeg f (fun j => (fl (0 + (j - 0))).toInt8.toInt32) 0 n) n, wu24, su24), rfl, fun j hj => (hwu24 j hj).trans (kSha_congr (fun i hi => k_first f fl n hi) hj), by rw [ht]; exact hP9, va_K.moved hW.alike hK, hD9⟩, hS.F ht⟩) hS.2.2 dX5_hashFirst_27

theorem iX5_hashSigned_X3 : ∀ w ∈ wsX30, w ∈ wsX5_hashSigned := by decide +kernel
theorem iX5_hashSigned_X5 : ∀ w ∈ wsX50, w ∈ wsX5_hashSigned := by decide +kernel
theorem X5_hashSigned_hwd0 : (.fieldLink RX5 43 "SignatureSpans" "sha" "LSignatureSpans$Sha256;" : Cond) ∈ wsX5_hashSigned := by decide +kernel
theorem X5_hashSigned_hwd1 : (.fieldLink RX5 9 "SignatureSpans" "file" "[B" : Cond) ∈ wsX5_hashSigned := by decide +kernel
theorem X5_hashSigned_hwd2 : (.fieldLink RX5 251 "SignatureSpans$Signature" "placeFrom" "I" : Cond) ∈ wsX5_hashSigned := by decide +kernel
theorem X5_hashSigned_hwd3 : (.fieldLink RX5 258 "SignatureSpans$Signature" "placeTo" "I" : Cond) ∈ wsX5_hashSigned := by decide +kernel
theorem X5_hashSigned_hwd4 : (.fieldLink RX5 214 "SignatureSpans$Signature" "end" "I" : Cond) ∈ wsX5_hashSigned := by decide +kernel
set_option maxHeartbeats 4000000 in
set_option maxRecDepth 100000 in
/-- hashSigned -/
theorem c_X5_hashSigned (l : Launch) (D : va_G) (h fa ap aa ac at9 ah sz cn : Nat) (sf : Int32) (hm hw hc : Nat) (ln : Int32) (fl f wd sc : Nat → Int32) (hs dw sa cf ct pa pb en cb cl lv : Nat) (ve ak lf : Int32) (ti : Int64) (hpb : pa ≤ pb) (hpe : pb ≤ en) (hen : en ≤ 1500) : kM (S := (Nat → Int32) × (Nat → Int32) × (Nat → Int32)) l yX5_hashSigned wsX5_hashSigned ({ frames := 10, cells := 0, slots := 0, locals := 280 }) 0 0 D [.ref h, .ref hs] [(h, .inr (5, [.ref fa, .int (nI sz), .ref ap, .ref aa, .int (nI cn), .int sf, .ref ac, .ref at9, .ref ah])), (fa, .inl (D.1 21, 1500, .inl fl)), (ah, .inr (2, [.ref hm, .int ln, .ref hw, .ref hc])), (hm, .inl (D.1 21, 1536, .inl f)), (hw, .inl (D.1 20, 8, .inl wd)), (hc, .inl (D.1 20, 64, .inl sc)), (hs, .inr (3, [.int (nI pa), .int (nI pb), .int (nI en), .int ve, .long ti, .int (nI cb), .ref dw, .ref sa, .ref cf, .ref ct, .int (nI cl), .int ak, .int lf, .int (nI lv)]))] (fun _ => none) (fun u => [(h, .inr (5, [.ref fa, .int (nI sz), .ref ap, .ref aa, .int (nI cn), .int sf, .ref ac, .ref at9, .ref ah])), (fa, .inl (D.1 21, 1500, .inl fl)), (ah, .inr (2, [.ref hm, .int (nI (pa + (en - pb))), .ref hw, .ref hc])), (hm, .inl (D.1 21, 1536, .inl u.1)), (hw, .inl (D.1 20, 8, .inl u.2.1)), (hc, .inl (D.1 20, 64, .inl u.2.2)), (hs, .inr (3, [.int (nI pa), .int (nI pb), .int (nI en), .int ve, .long ti, .int (nI cb), .ref dw, .ref sa, .ref cf, .ref ct, .int (nI cl), .int ak, .int lf, .int (nI lv)]))]) (fun u => ∀ j, j < 8 → u.2.1 j = kSha (kMb fl pa pb) (pa + en - pb) j) := by
  intro sz
  refine Met.ofW (cc := cX5_hashSigned) (maxL := 2) (ret := none) (by decide) rfl ?_
  intro p e s m args below meth c s₁ B hml hv
  obtain ⟨rfl, hsz, hP, hK, hD0, hE⟩ := hv
  have hx := B.exec
  have hb := B.bytes
  have hr := B.returns
  have hts := atoms_spec (ws := wsX5_hashSigned) B.pre
  have hown : s.vm.findClass RX5 = some m.cls := findClass_of_methodNamed B.named
  have hlocks := B.notSynchronized
  subst hsz
  have hD := hD0.self (sz := s.heap.size)
  generalize hAe : va_A [(h, .inr (5, [.ref fa, .int (nI sz), .ref ap, .ref aa, .int (nI cn), .int sf, .ref ac, .ref at9, .ref ah])), (fa, .inl (D.1 21, 1500, .inl fl)), (ah, .inr (2, [.ref hm, .int ln, .ref hw, .ref hc])), (hm, .inl (D.1 21, 1536, .inl f)), (hw, .inl (D.1 20, 8, .inl wd)), (hc, .inl (D.1 20, 64, .inl sc)), (hs, .inr (3, [.int (nI pa), .int (nI pb), .int (nI en), .int ve, .long ti, .int (nI cb), .ref dw, .ref sa, .ref cf, .ref ct, .int (nI cl), .int ak, .int lf, .int (nI lv)]))] s.heap.size = A at hD hE ⊢
  have hA : ∀ q : Nat, s.heap.size ≤ q → A q := fun q h => by rw [← hAe]; exact Or.inr h
  have hS : va_S A s.heap s.heap [] := va_S.rf
  have hl := lv_entry ([.ref h, .ref hs]) (n := 2) (Nat.le_of_ble_eq_true rfl)
  have inX3 : ∀ w ∈ wsX30, w ∈ wsX5_hashSigned := iX5_hashSigned_X3
  have inX5 : ∀ w ∈ wsX50, w ∈ wsX5_hashSigned := iX5_hashSigned_X5
  have hwd0 := hts (.fieldLink RX5 43 "SignatureSpans" "sha" "LSignatureSpans$Sha256;") X5_hashSigned_hwd0
  have hwd1 := hts (.fieldLink RX5 9 "SignatureSpans" "file" "[B") X5_hashSigned_hwd1
  have hwd2 := hts (.fieldLink RX5 251 "SignatureSpans$Signature" "placeFrom" "I") X5_hashSigned_hwd2
  have hwd3 := hts (.fieldLink RX5 258 "SignatureSpans$Signature" "placeTo" "I") X5_hashSigned_hwd3
  have hwd4 := hts (.fieldLink RX5 214 "SignatureSpans$Signature" "end" "I") X5_hashSigned_hwd4
  refine kgenQ (fun Q hQ => ?_)
  rw [lg_entry_eq]
  generalize (lg_sl ([.ref h, .ref hs]) ++ List.replicate (2 - (lg_sl ([.ref h, .ref hs])).length) Slot.unset).toArray = ls at hl ⊢
  have hl : lv_has ls 2 [(0, .ref h), (1, .ref hs)] := hl
  refine lv_aload_n hx hb dX5_hashSigned_0 rfl (lv_at hl 0 rfl) ?_
  refine va_get (D := D) (ci := 5) (v := .ref ah) (C := RX5) (T := TX5) (N := 9) hx hb hts inX5 hown hK hP 0 rfl rfl 8 (by decide) hwd0 (fun _ h9 => h9) rfl dX5_hashSigned_1 ?_
  refine kcV (C := RX2) (As := []) (rest := []) (ws := [(ah, .inr (2, [.ref hm, .int ln, .ref hw, .ref hc]))]) (wr := [(h, .inr (5, [.ref fa, .int (nI sz), .ref ap, .ref aa, .int (nI cn), .int sf, .ref ac, .ref at9, .ref ah])), (fa, .inl (D.1 21, 1500, .inl fl)), (hm, .inl (D.1 21, 1536, .inl f)), (hw, .inl (D.1 20, 8, .inl wd)), (hc, .inl (D.1 20, 64, .inl sc)), (hs, .inr (3, [.int (nI pa), .int (nI pb), .int (nI en), .int ve, .long ti, .int (nI cb), .ref dw, .ref sa, .ref cf, .ref ct, .int (nI cl), .int ak, .int lf, .int (nI lv)]))]) ⟨hx, hb, hml, hown, hts⟩ (c_X2_start l D ah hm hw hc ln) (cwV 0 hts gX5_hashSigned_X2_start rfl rfl rfl (by decide +kernel) ⟨Nat.le_of_ble_eq_true rfl, Nat.le_of_ble_eq_true rfl⟩) hK hE hP hD hS hA [2] [0, 1, 3, 4, 5, 6] rfl rfl rfl rfl (by decide) 2 2 rfl rfl rfl rfl hl.1 rfl (Nat.le_of_ble_eq_true rfl) dX5_hashSigned_4 ⟨Nat.le_of_ble_eq_true rfl, Nat.le_of_ble_eq_true rfl⟩ (fun _ H locs hpo hP hD hS => ?_)
  have hP : va_P D kC [(h, .inr (5, [.ref fa, .int (nI sz), .ref ap, .ref aa, .int (nI cn), .int sf, .ref ac, .ref at9, .ref ah])), (fa, .inl (D.1 21, 1500, .inl fl)), (hm, .inl (D.1 21, 1536, .inl f)), (hw, .inl (D.1 20, 8, .inl wd)), (hc, .inl (D.1 20, 64, .inl sc)), (hs, .inr (3, [.int (nI pa), .int (nI pb), .int (nI en), .int ve, .long ti, .int (nI cb), .ref dw, .ref sa, .ref cf, .ref ct, .int (nI cl), .int ak, .int lf, .int (nI lv)])), (ah, .inr (2, [.ref hm, .int (nI 0), .ref hw, .ref hc]))] _ := hP
  have hD : va_D A [(h, .inr (5, [.ref fa, .int (nI sz), .ref ap, .ref aa, .int (nI cn), .int sf, .ref ac, .ref at9, .ref ah])), (fa, .inl (D.1 21, 1500, .inl fl)), (hm, .inl (D.1 21, 1536, .inl f)), (hw, .inl (D.1 20, 8, .inl wd)), (hc, .inl (D.1 20, 64, .inl sc)), (hs, .inr (3, [.int (nI pa), .int (nI pb), .int (nI en), .int ve, .long ti, .int (nI cb), .ref dw, .ref sa, .ref cf, .ref ct, .int (nI cl), .int ak, .int lf, .int (nI lv)])), (ah, .inr (2, [.ref hm, .int (nI 0), .ref hw, .ref hc]))] := hD
  refine W.eq (g2 := F0 m 7 ls []) rfl ?_
  refine W.widen (k := 0) (n := 0) (Nat.le_of_ble_eq_true rfl) (Nat.le_of_ble_eq_true rfl) ?_
  refine lv_aload_n hx hb dX5_hashSigned_7 rfl (lv_at hl 0 rfl) ?_
  refine va_get (D := D) (ci := 5) (v := .ref ah) (C := RX5) (T := TX5) (N := 9) hx hb hts inX5 hown hK hP 0 rfl rfl 8 (by decide) hwd0 (fun _ h9 => h9) rfl dX5_hashSigned_8 ?_
  refine lv_aload_n hx hb dX5_hashSigned_11 rfl (lv_at hl 0 rfl) ?_
  refine va_get (D := D) (ci := 5) (v := .ref fa) (C := RX5) (T := TX5) (N := 9) hx hb hts inX5 hown hK hP 0 rfl rfl 0 (by decide) hwd1 (fun _ h9 => h9) rfl dX5_hashSigned_12 ?_
  refine lv_iconst (v := nI 0) hx hb dX5_hashSigned_15 (by decide) ?_
  refine lv_aload_n hx hb dX5_hashSigned_16 rfl (lv_at hl 1 rfl) ?_
  refine va_get (D := D) (ci := 3) (v := .int (nI pa)) (C := RX3) (T := TX3) (N := 14) hx hb hts inX3 hown hK hP 5 rfl rfl 0 (by decide) hwd2 (fun _ h9 => h9) rfl dX5_hashSigned_17 ?_
  refine kcV (C := RX2) (As := [.ref fa, .int (nI 0), .int (nI pa)]) (rest := []) (ws := [(ah, .inr (2, [.ref hm, .int (nI 0), .ref hw, .ref hc])), (hm, .inl (D.1 21, 1536, .inl f)), (fa, .inl (D.1 21, 1500, .inl fl))]) (wr := [(h, .inr (5, [.ref fa, .int (nI sz), .ref ap, .ref aa, .int (nI cn), .int sf, .ref ac, .ref at9, .ref ah])), (hw, .inl (D.1 20, 8, .inl wd)), (hc, .inl (D.1 20, 64, .inl sc)), (hs, .inr (3, [.int (nI pa), .int (nI pb), .int (nI en), .int ve, .long ti, .int (nI cb), .ref dw, .ref sa, .ref cf, .ref ct, .int (nI cl), .int ak, .int lf, .int (nI lv)]))]) ⟨hx, hb, hml, hown, hts⟩ (c_X2_take l D ah hm hw hc fa 0 pa 0 f fl (by omega) (by omega) (by omega)) (cwV 3 hts gX5_hashSigned_X2_take rfl rfl rfl (by decide +kernel) ⟨Nat.le_of_ble_eq_true rfl, Nat.le_of_ble_eq_true rfl⟩) hK hE hP hD hS hA [6, 2, 1] [0, 3, 4, 5] rfl rfl rfl rfl (by decide) 6 2 rfl rfl rfl rfl hl.1 rfl (Nat.le_of_ble_eq_true rfl) dX5_hashSigned_20 ⟨Nat.le_of_ble_eq_true rfl, Nat.le_of_ble_eq_true rfl⟩ (fun _ H locs hpo hP hD hS => ?_)
  have hP : va_P D kC [(h, .inr (5, [.ref fa, .int (nI sz), .ref ap, .ref aa, .int (nI cn), .int sf, .ref ac, .ref at9, .ref ah])), (hw, .inl (D.1 20, 8, .inl wd)), (hc, .inl (D.1 20, 64, .inl sc)), (hs, .inr (3, [.int (nI pa), .int (nI pb), .int (nI en), .int ve, .long ti, .int (nI cb), .ref dw, .ref sa, .ref cf, .ref ct, .int (nI cl), .int ak, .int lf, .int (nI lv)])), (ah, .inr (2, [.ref hm, .int (nI (0 + (pa - 0))), .ref hw, .ref hc])), (hm, .inl (D.1 21, 1536, .inl (kSeg f (fun j => (fl (0 + (j - 0))).toInt8.toInt32) 0 (0 + (pa - 0))))), (fa, .inl (D.1 21, 1500, .inl fl))] _ := hP
  have hD : va_D A [(h, .inr (5, [.ref fa, .int (nI sz), .ref ap, .ref aa, .int (nI cn), .int sf, .ref ac, .ref at9, .ref ah])), (hw, .inl (D.1 20, 8, .inl wd)), (hc, .inl (D.1 20, 64, .inl sc)), (hs, .inr (3, [.int (nI pa), .int (nI pb), .int (nI en), .int ve, .long ti, .int (nI cb), .ref dw, .ref sa, .ref cf, .ref ct, .int (nI cl), .int ak, .int lf, .int (nI lv)])), (ah, .inr (2, [.ref hm, .int (nI (0 + (pa - 0))), .ref hw, .ref hc])), (hm, .inl (D.1 21, 1536, .inl (kSeg f (fun j => (fl (0 + (j - 0))).toInt8.toInt32) 0 (0 + (pa - 0))))), (fa, .inl (D.1 21, 1500, .inl fl))] := hD
  have en20 : 0 + (pa - 0) = pa := by omega
  rw [en20] at hP hD
  refine W.eq (g2 := F0 m 23 ls []) rfl ?_
  refine W.widen (k := 0) (n := 0) (Nat.le_of_ble_eq_true rfl) (Nat.le_of_ble_eq_true rfl) ?_
  refine lv_aload_n hx hb dX5_hashSigned_23 rfl (lv_at hl 0 rfl) ?_
  refine va_get (D := D) (ci := 5) (v := .ref ah) (C := RX5) (T := TX5) (N := 9) hx hb hts inX5 hown hK hP 0 rfl rfl 8 (by decide) hwd0 (fun _ h9 => h9) rfl dX5_hashSigned_24 ?_
  refine lv_aload_n hx hb dX5_hashSigned_27 rfl (lv_at hl 0 rfl) ?_
  refine va_get (D := D) (ci := 5) (v := .ref fa) (C := RX5) (T := TX5) (N := 9) hx hb hts inX5 hown hK hP 0 rfl rfl 0 (by decide) hwd1 (fun _ h9 => h9) rfl dX5_hashSigned_28 ?_
  refine lv_aload_n hx hb dX5_hashSigned_31 rfl (lv_at hl 1 rfl) ?_
  refine va_get (D := D) (ci := 3) (v := .int (nI pb)) (C := RX3) (T := TX3) (N := 14) hx hb hts inX3 hown hK hP 3 rfl rfl 1 (by decide) hwd3 (fun _ h9 => h9) rfl dX5_hashSigned_32 ?_
  refine lv_aload_n hx hb dX5_hashSigned_35 rfl (lv_at hl 1 rfl) ?_
  refine va_get (D := D) (ci := 3) (v := .int (nI en)) (C := RX3) (T := TX3) (N := 14) hx hb hts inX3 hown hK hP 3 rfl rfl 2 (by decide) hwd4 (fun _ h9 => h9) rfl dX5_hashSigned_36 ?_
  refine kcV (C := RX2) (As := [.ref fa, .int (nI pb), .int (nI en)]) (rest := []) (ws := [(ah, .inr (2, [.ref hm, .int (nI pa), .ref hw, .ref hc])), (hm, .inl (D.1 21, 1536, .inl (kSeg f (fun j => (fl (0 + (j - 0))).toInt8.toInt32) 0 pa))), (fa, .inl (D.1 21, 1500, .inl fl))]) (wr := [(h, .inr (5, [.ref fa, .int (nI sz), .ref ap, .ref aa, .int (nI cn), .int sf, .ref ac, .ref at9, .ref ah])), (hw, .inl (D.1 20, 8, .inl wd)), (hc, .inl (D.1 20, 64, .inl sc)), (hs, .inr (3, [.int (nI pa), .int (nI pb), .int (nI en), .int ve, .long ti, .int (nI cb), .ref dw, .ref sa, .ref cf, .ref ct, .int (nI cl), .int ak, .int lf, .int (nI lv)]))]) ⟨hx, hb, hml, hown, hts⟩ (c_X2_take l D ah hm hw hc fa pb en pa (kSeg f (fun j => (fl (0 + (j - 0))).toInt8.toInt32) 0 pa) fl (by omega) (by omega) (by omega)) (cwV 3 hts gX5_hashSigned_X2_take rfl rfl rfl (by decide +kernel) ⟨Nat.le_of_ble_eq_true rfl, Nat.le_of_ble_eq_true rfl⟩) hK hE hP hD hS hA [4, 5, 6] [0, 1, 2, 3] rfl rfl rfl rfl (by decide) 4 2 rfl rfl rfl rfl hl.1 rfl (Nat.le_of_ble_eq_true rfl) dX5_hashSigned_39 ⟨Nat.le_of_ble_eq_true rfl, Nat.le_of_ble_eq_true rfl⟩ (fun _ H locs hpo hP hD hS => ?_)
  have hP : va_P D kC [(h, .inr (5, [.ref fa, .int (nI sz), .ref ap, .ref aa, .int (nI cn), .int sf, .ref ac, .ref at9, .ref ah])), (hw, .inl (D.1 20, 8, .inl wd)), (hc, .inl (D.1 20, 64, .inl sc)), (hs, .inr (3, [.int (nI pa), .int (nI pb), .int (nI en), .int ve, .long ti, .int (nI cb), .ref dw, .ref sa, .ref cf, .ref ct, .int (nI cl), .int ak, .int lf, .int (nI lv)])), (ah, .inr (2, [.ref hm, .int (nI (pa + (en - pb))), .ref hw, .ref hc])), (hm, .inl (D.1 21, 1536, .inl (kSeg (kSeg f (fun j => (fl (0 + (j - 0))).toInt8.toInt32) 0 pa) (fun j => (fl (pb + (j - pa))).toInt8.toInt32) pa (pa + (en - pb))))), (fa, .inl (D.1 21, 1500, .inl fl))] _ := hP
  have hD : va_D A [(h, .inr (5, [.ref fa, .int (nI sz), .ref ap, .ref aa, .int (nI cn), .int sf, .ref ac, .ref at9, .ref ah])), (hw, .inl (D.1 20, 8, .inl wd)), (hc, .inl (D.1 20, 64, .inl sc)), (hs, .inr (3, [.int (nI pa), .int (nI pb), .int (nI en), .int ve, .long ti, .int (nI cb), .ref dw, .ref sa, .ref cf, .ref ct, .int (nI cl), .int ak, .int lf, .int (nI lv)])), (ah, .inr (2, [.ref hm, .int (nI (pa + (en - pb))), .ref hw, .ref hc])), (hm, .inl (D.1 21, 1536, .inl (kSeg (kSeg f (fun j => (fl (0 + (j - 0))).toInt8.toInt32) 0 pa) (fun j => (fl (pb + (j - pa))).toInt8.toInt32) pa (pa + (en - pb))))), (fa, .inl (D.1 21, 1500, .inl fl))] := hD
  refine W.eq (g2 := F0 m 42 ls []) rfl ?_
  refine W.widen (k := 0) (n := 0) (Nat.le_of_ble_eq_true rfl) (Nat.le_of_ble_eq_true rfl) ?_
  refine lv_aload_n hx hb dX5_hashSigned_42 rfl (lv_at hl 0 rfl) ?_
  refine va_get (D := D) (ci := 5) (v := .ref ah) (C := RX5) (T := TX5) (N := 9) hx hb hts inX5 hown hK hP 0 rfl rfl 8 (by decide) hwd0 (fun _ h9 => h9) rfl dX5_hashSigned_43 ?_
  refine kcV (C := RX2) (As := []) (rest := []) (ws := [(ah, .inr (2, [.ref hm, .int (nI (pa + (en - pb))), .ref hw, .ref hc])), (hm, .inl (D.1 21, 1536, .inl (kSeg (kSeg f (fun j => (fl (0 + (j - 0))).toInt8.toInt32) 0 pa) (fun j => (fl (pb + (j - pa))).toInt8.toInt32) pa (pa + (en - pb))))), (hw, .inl (D.1 20, 8, .inl wd)), (hc, .inl (D.1 20, 64, .inl sc))]) (wr := [(h, .inr (5, [.ref fa, .int (nI sz), .ref ap, .ref aa, .int (nI cn), .int sf, .ref ac, .ref at9, .ref ah])), (hs, .inr (3, [.int (nI pa), .int (nI pb), .int (nI en), .int ve, .long ti, .int (nI cb), .ref dw, .ref sa, .ref cf, .ref ct, .int (nI cl), .int ak, .int lf, .int (nI lv)])), (fa, .inl (D.1 21, 1500, .inl fl))]) ⟨hx, hb, hml, hown, hts⟩ (c_X2_finish l D ah hm hw hc (pa + (en - pb)) (kSeg (kSeg f (fun j => (fl (0 + (j - 0))).toInt8.toInt32) 0 pa) (fun j => (fl (pb + (j - pa))).toInt8.toInt32) pa (pa + (en - pb))) wd sc (by omega)) (cwV 0 hts gX5_hashSigned_X2_finish rfl rfl rfl (by decide +kernel) ⟨Nat.le_of_ble_eq_true rfl, Nat.le_of_ble_eq_true rfl⟩) hK hE hP hD hS hA [4, 5, 1, 2] [0, 3, 6] rfl rfl rfl rfl (by decide) 4 2 rfl rfl rfl rfl hl.1 rfl (Nat.le_of_ble_eq_true rfl) dX5_hashSigned_46 ⟨Nat.le_of_ble_eq_true rfl, Nat.le_of_ble_eq_true rfl⟩ (fun ⟨wu46, su46⟩ H locs hpo hP hD hS => ?_)
  have hP : va_P D kC [(h, .inr (5, [.ref fa, .int (nI sz), .ref ap, .ref aa, .int (nI cn), .int sf, .ref ac, .ref at9, .ref ah])), (hs, .inr (3, [.int (nI pa), .int (nI pb), .int (nI en), .int ve, .long ti, .int (nI cb), .ref dw, .ref sa, .ref cf, .ref ct, .int (nI cl), .int ak, .int lf, .int (nI lv)])), (fa, .inl (D.1 21, 1500, .inl fl)), (ah, .inr (2, [.ref hm, .int (nI (pa + (en - pb))), .ref hw, .ref hc])), (hm, .inl (D.1 21, 1536, .inl (kPadM (kSeg (kSeg f (fun j => (fl (0 + (j - 0))).toInt8.toInt32) 0 pa) (fun j => (fl (pb + (j - pa))).toInt8.toInt32) pa (pa + (en - pb))) (pa + (en - pb))))), (hw, .inl (D.1 20, 8, .inl wu46)), (hc, .inl (D.1 20, 64, .inl su46))] _ := hP
  have hD : va_D A [(h, .inr (5, [.ref fa, .int (nI sz), .ref ap, .ref aa, .int (nI cn), .int sf, .ref ac, .ref at9, .ref ah])), (hs, .inr (3, [.int (nI pa), .int (nI pb), .int (nI en), .int ve, .long ti, .int (nI cb), .ref dw, .ref sa, .ref cf, .ref ct, .int (nI cl), .int ak, .int lf, .int (nI lv)])), (fa, .inl (D.1 21, 1500, .inl fl)), (ah, .inr (2, [.ref hm, .int (nI (pa + (en - pb))), .ref hw, .ref hc])), (hm, .inl (D.1 21, 1536, .inl (kPadM (kSeg (kSeg f (fun j => (fl (0 + (j - 0))).toInt8.toInt32) 0 pa) (fun j => (fl (pb + (j - pa))).toInt8.toInt32) pa (pa + (en - pb))) (pa + (en - pb))))), (hw, .inl (D.1 20, 8, .inl wu46)), (hc, .inl (D.1 20, 64, .inl su46))] := hD
  have hwu46 : ∀ j, j < 8 → wu46 j = kSha (fun i => (kSeg (kSeg f (fun j => (fl (0 + (j - 0))).toInt8.toInt32) 0 pa) (fun j => (fl (pb + (j - pa))).toInt8.toInt32) pa (pa + (en - pb))) i &&& nI 255) (pa + (en - pb)) j := hpo
  refine W.eq (g2 := F0 m 49 ls []) rfl ?_
  refine W.widen (k := 0) (n := 0) (Nat.le_of_ble_eq_true rfl) (Nat.le_of_ble_eq_true rfl) ?_
  rw [hQ]
  have hP9 : va_P D kC [(h, .inr (5, [.ref fa, .int (nI sz), .ref ap, .ref aa, .int (nI cn), .int sf, .ref ac, .ref at9, .ref ah])), (fa, .inl (D.1 21, 1500, .inl fl)), (ah, .inr (2, [.ref hm, .int (nI (pa + (en - pb))), .ref hw, .ref hc])), (hm, .inl (D.1 21, 1536, .inl (kPadM (kSeg (kSeg f (fun j => (fl (0 + (j - 0))).toInt8.toInt32) 0 pa) (fun j => (fl (pb + (j - pa))).toInt8.toInt32) pa (pa + (en - pb))) (pa + (en - pb))))), (hw, .inl (D.1 20, 8, .inl wu46)), (hc, .inl (D.1 20, 64, .inl su46)), (hs, .inr (3, [.int (nI pa), .int (nI pb), .int (nI en), .int ve, .long ti, .int (nI cb), .ref dw, .ref sa, .ref cf, .ref ct, .int (nI cl), .int ak, .int lf, .int (nI lv)]))] _ := (hP.sub [0, 2, 3, 4, 5, 6, 1] rfl)
  have hD9 : va_D A [(h, .inr (5, [.ref fa, .int (nI sz), .ref ap, .ref aa, .int (nI cn), .int sf, .ref ac, .ref at9, .ref ah])), (fa, .inl (D.1 21, 1500, .inl fl)), (ah, .inr (2, [.ref hm, .int (nI (pa + (en - pb))), .ref hw, .ref hc])), (hm, .inl (D.1 21, 1536, .inl (kPadM (kSeg (kSeg f (fun j => (fl (0 + (j - 0))).toInt8.toInt32) 0 pa) (fun j => (fl (pb + (j - pa))).toInt8.toInt32) pa (pa + (en - pb))) (pa + (en - pb))))), (hw, .inl (D.1 20, 8, .inl wu46)), (hc, .inl (D.1 20, 64, .inl su46)), (hs, .inr (3, [.int (nI pa), .int (nI pb), .int (nI en), .int ve, .long ti, .int (nI cb), .ref dw, .ref sa, .ref cf, .ref ct, .int (nI cl), .int ak, .int lf, .int (nI lv)]))] := (hD.sub [0, 2, 3, 4, 5, 6, 1] (by decide) rfl)
  exact W.vret hx hb hr (fun t ht hW => ⟨⟨(kPadM (kSeg (kSeg f (fun j => (fl (0 + (j - 0))).toInt8.toInt32) 0 pa) (fun j => (fl (pb + (j - pa))).toInt8.toInt32) pa (pa + (en - pb))) (pa + (en - pb)), wu46, su46), rfl, fun j hj => (hwu46 j hj).trans (by rw [show pa + en - pb = pa + (en - pb) by omega]; exact kSha_congr (fun i hi => k_signed f fl pa pb en hi) hj), by rw [ht]; exact hP9, va_K.moved hW.alike hK, hD9⟩, hS.F ht⟩) hS.2.2 dX5_hashSigned_49
