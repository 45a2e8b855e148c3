/-! ===== the cases of the law ===== -/
set_option maxHeartbeats 4000000 in
set_option maxRecDepth 100000 in
theorem o_add {p : Program} {l : Launch} {e : Env} {s : State} {m : MethodId} {below : List Frame} {meth : Method} {c : Code} {b L : Nat} {xs : Nat → Int32} {D : va_G} {Q : State → Prop} {H : Heap} {locs : List Loc} {cells slots : Nat} {ls : Array Slot} {S S2 : Type} (ax am ao i : Nat) (f : Nat → Int64) (Pw wc wt : va_W) (wc' : S → va_W) (wt' : S2 → va_W) (po : S → Prop) (po2 : S2 → Prop) (v : S → Int32) (v2 : S2 → Int32) (code mc ms q0 : Nat) (rm rm2 : Room) (fs fm : List Value) (fm' : S2 → List Value)
    (h0 : kLaw p s m c b L xs D) (hi : i + 7 ≤ L) (hl : lv_has ls 8 [(0, .ref b), (1, .ref ax), (2, .ref am), (3, .ref ao), (4, .int (nI i))]) (he : wc[q0]? = some (ax, .inr (5, fs))) (hrm : rm.cells = mc ∧ rm.slots = ms ∧ rm.frames ≤ 11 ∧ rm.locals ≤ 340) (hm5 : mc ≤ 5 ∧ ms ≤ 34) (hrm2 : rm2.cells = 0 ∧ rm2.slots = 0 ∧ rm2.frames ≤ 11 ∧ rm2.locals ≤ 340) (hcd : code ≤ 1) (hcl : cells + 5 ≤ 603072) (hsl : slots + 34 ≤ 7190634)
    (hM : kX l yX5_add wsX5_add rm mc ms D [.ref ax, .int ((xs (i + 1)).toInt8.toInt32)] wc (kEx [kUoe] code) (fun u => some (.int (v u))) wc' po)
    (hN : kM l yX6_add wsX6_add rm2 0 0 D [.ref am, .int ((xs (i + 1)).toInt8.toInt32)] ((am, .inr (6, fm)) :: wt) (fun u => some (.int (v2 u))) (fun u => (am, .inr (6, fm' u)) :: wt' u) po2)
    (hT : ∀ u, kM (S := Unit) l yX6_thrown wsX6_thrown { frames := 7, cells := 0, slots := 0, locals := 100 } 0 0 D [.ref am] [(am, .inr (6, fm' u))] (fun _ => some (.int (nI code))) (fun _ => [(am, .inr (6, fm' u))]) (fun _ => True))
    (hans : ∀ z u, code = 0 → po z → po2 u → (v z).toInt64 = (v2 u).toInt64)
    (hP : va_P D kC ((ao, .inl (D.1 23, 1, .inr (.inl f))) :: (Pw ++ (wc ++ ((am, .inr (6, fm)) :: wt)))) H) (hD : va_D (fun q => s.heap.size ≤ q) ((ao, .inl (D.1 23, 1, .inr (.inl f))) :: (Pw ++ (wc ++ ((am, .inr (6, fm)) :: wt))))) (hS : va_S (fun q => s.heap.size ≤ q) s.heap H locs)
    (k0 : code = 0 → ∀ (z : S), po z → ∀ (u : S2) (H1 : Heap) (locs1 : List Loc) (ls1 : Array Slot), po2 u → va_P D kC ((ao, .inl (D.1 23, 1, .inr (.inl (vp_updL f 0 (v z).toInt64)))) :: (Pw ++ (wc' z ++ ((am, .inr (6, fm' u)) :: wt' u)))) H1 → va_D (fun q => s.heap.size ≤ q) ((ao, .inl (D.1 23, 1, .inr (.inl (vp_updL f 0 (v z).toInt64)))) :: (Pw ++ (wc' z ++ ((am, .inr (6, fm' u)) :: wt' u)))) → va_S (fun q => s.heap.size ≤ q) s.heap H1 locs1 → lv_has ls1 8 [(0, .ref b), (1, .ref ax), (2, .ref am), (3, .ref ao), (4, .int (nI i))] → W p l e room_1 s m #[Value.ref b] below meth c H1 locs1 (cells + 5) (slots + 34) Q (F0 m 1589 ls1 []))
    (k1 : 0 < code → ∀ (u : S2) (H1 : Heap) (locs1 : List Loc) (ls1 : Array Slot), po2 u → va_P D kC ((ao, .inl (D.1 23, 1, .inr (.inl f))) :: (Pw ++ (wc ++ ((am, .inr (6, fm' u)) :: wt' u)))) H1 → va_D (fun q => s.heap.size ≤ q) ((ao, .inl (D.1 23, 1, .inr (.inl f))) :: (Pw ++ (wc ++ ((am, .inr (6, fm' u)) :: wt' u)))) → va_S (fun q => s.heap.size ≤ q) s.heap H1 locs1 → lv_has ls1 8 [(0, .ref b), (1, .ref ax), (2, .ref am), (3, .ref ao), (4, .int (nI i))] → W p l e room_1 s m #[Value.ref b] below meth c H1 locs1 (cells + 5) (slots + 34) Q (F0 m 1589 ls1 []))
    : W p l e room_1 s m #[Value.ref b] below meth c H locs cells slots Q (F0 m 124 ls []) := by
  obtain ⟨hx, hb, hml, hown, hts, hX, hbl, hL9, hK, hE⟩ := h0
  have hA : ∀ q : Nat, s.heap.size ≤ q → (fun q => s.heap.size ≤ q) q := fun q h => h
  have hbA : ¬ (fun q => s.heap.size ≤ q) b := Nat.not_le.mpr hbl
  have hc9 := hts (.constantLong RL 100 (4294967295)) lw_c100
  have hW := w_add l D ax ao ((xs (i + 1)).toInt8.toInt32) f wc wc' po v code mc ms q0 rm fs he hrm hcd hM
  refine lv_aload_n hx hb dL_law_124 rfl (lv_at hl 1 rfl) ?_
  refine lv_aload_n hx hb dL_law_125 rfl (lv_at hl 0 rfl) ?_
  refine lv_iload hx hb dL_law_126 (lv_at hl 4 rfl) ?_
  refine lv_iconst (v := nI 1) hx hb dL_law_128 (by decide) ?_
  refine kn_iadd hx hb dL_law_129 ?_
  refine kn_sld (i := i + 1) hx hb hX hbl hbA hS (by omega) (by omega) dL_law_130 ?_
  refine lv_i2b (v := (xs (i + 1)).toInt8.toInt32) hx hb dL_law_131 rfl ?_
  refine lv_aload_n hx hb dL_law_132 rfl (lv_at hl 3 rfl) ?_
  refine kcSWR (As := [.ref ax, .int ((xs (i + 1)).toInt8.toInt32), .ref ao]) (rest := []) (wr := (Pw ++ ((am, .inr (6, fm)) :: wt))) (ws := ((ao, .inl (D.1 23, 1, .inr (.inl f))) :: wc)) ⟨hx, hb, hml, hown, hts⟩ hW (vx_cwSW 3 hts gL2_L_add rfl rfl rfl (by decide +kernel) ⟨Nat.le_of_ble_eq_true rfl, Nat.le_of_ble_eq_true rfl⟩) hK hE (kq_1 _ Pw wc _) hP hD hS hA rfl hl.1 rfl (Nat.le_of_ble_eq_true rfl) dL_law_133 ⟨by show cells + mc ≤ 603072; omega, by show slots + ms ≤ 7190634; omega⟩ (fun u H locs hu hP hD hS => ?_)
  refine W.eq (g2 := F0 m 136 ls [.int (nI code)]) rfl ?_
  refine W.widen (k := cells + 5) (n := slots + 34) (by omega) (by omega) ?_
  refine lv_istore (lv' := [(5, .int (nI code)), (0, .ref b), (1, .ref ax), (2, .ref am), (3, .ref ao), (4, .int (nI i))]) hx hb dL_law_136 hl (by decide) rfl (fun ls hl => ?_)
  cases u with
  | none =>
    have hu : 0 < code := hu
    have hP : va_P D kC ((Pw ++ ((am, .inr (6, fm)) :: wt)) ++ ((ao, .inl (D.1 23, 1, .inr (.inl f))) :: wc)) _ := hP
    have hD : va_D (fun q => s.heap.size ≤ q) ((Pw ++ ((am, .inr (6, fm)) :: wt)) ++ ((ao, .inl (D.1 23, 1, .inr (.inl f))) :: wc)) := hD
    refine lv_aload_n hx hb dL_law_138 rfl (lv_at hl 3 rfl) ?_
    refine lv_aload_n hx hb dL_law_139 rfl (lv_at hl 1 rfl) ?_
    refine lv_iload hx hb dL_law_140 (lv_at hl 5 rfl) ?_
    refine lv_iconst (v := nI 1) hx hb dL_law_142 (by decide) ?_
    refine kn_iadd hx hb dL_law_143 ?_
    refine kn_sld (i := i + 1) hx hb hX hbl hbA hS (by omega) (by omega) dL_law_144 ?_
    refine lv_i2b (v := (xs (i + 1)).toInt8.toInt32) hx hb dL_law_145 rfl ?_
    refine kcVR (C := RX6) (As := [.int ((xs (i + 1)).toInt8.toInt32)]) (rest := []) (wr := (ao, .inl (D.1 23, 1, .inr (.inl f))) :: (Pw ++ wc)) (ws := ((am, .inr (6, fm)) :: wt)) ⟨hx, hb, hml, hown, hts⟩ hN (cwV 1 hts gL2_X6_add rfl hrm2.1 hrm2.2.1 (by decide +kernel) ⟨Nat.le_trans (Nat.succ_le_succ hrm2.2.2.1) (Nat.le_of_ble_eq_true rfl), Nat.le_trans (Nat.add_le_add_left hrm2.2.2.2 _) (Nat.le_of_ble_eq_true rfl)⟩) hK hE (kq_2 _ Pw wc _) hP hD hS hA 0 6 rfl rfl rfl rfl hl.1 rfl (Nat.le_of_ble_eq_true rfl) dL_law_146 ⟨hcl, hsl⟩ (fun u2 H locs hp2 hP hD hS => ?_)
    refine W.eq (g2 := F0 m 149 ls [.int (v2 u2)]) rfl ?_
    refine W.widen (k := cells + 5) (n := slots + 34) (Nat.le_refl _) (Nat.le_refl _) ?_
    refine lv_istore (lv' := [(6, .int (v2 u2)), (5, .int (nI code)), (0, .ref b), (1, .ref ax), (2, .ref am), (3, .ref ao), (4, .int (nI i))]) hx hb dL_law_149 hl (by decide) rfl (fun ls hl => ?_)
    refine lv_aload_n hx hb dL_law_151 rfl (lv_at hl 4 rfl) ?_
    refine kcVR (C := RX6) (As := []) (rest := []) (wr := ((ao, .inl (D.1 23, 1, .inr (.inl f))) :: (Pw ++ wc)) ++ wt' u2) (ws := [(am, .inr (6, fm' u2))]) ⟨hx, hb, hml, hown, hts⟩ (hT u2) (cwV 0 hts gL2_X6_thrown rfl rfl rfl (by decide +kernel) ⟨Nat.le_of_ble_eq_true rfl, Nat.le_of_ble_eq_true rfl⟩) hK hE (kq_3 ((ao, .inl (D.1 23, 1, .inr (.inl f))) :: (Pw ++ wc)) (wt' u2) _) hP hD hS hA 0 6 rfl rfl rfl rfl hl.1 rfl (Nat.le_of_ble_eq_true rfl) dL_law_152 ⟨hcl, hsl⟩ (fun _ H locs _ hP hD hS => ?_)
    refine W.eq (g2 := F0 m 155 ls [.int (nI code)]) rfl ?_
    refine W.widen (k := cells + 5) (n := slots + 34) (Nat.le_refl _) (Nat.le_refl _) ?_
    refine lv_iload hx hb dL_law_155 (lv_at hl 1 rfl) ?_
    refine lv_icmp_eq (tgt := 162) hx hb dL_law_157 (by decide) (fun _ => ?_) (fun c_157 => absurd rfl c_157)
    refine lv_iload hx hb dL_law_162 (lv_at hl 1 rfl) ?_
    refine kn_if_ne (tgt := 179) hx hb (by omega) dL_law_164 (by decide) (fun _ => ?_) (fun c_164 => absurd hu (by omega))
    refine lv_goto (tgt := 1589) hx hb dL_law_179 (by decide) ?_
    exact k1 hu u2 _ _ ls hp2 (kp_P (kq_4 _ _ Pw wc _) hP) (kp_D (kq_4 _ _ Pw wc _) hD) hS (lv_sub hl [2, 3, 4, 5, 6] rfl)
  | some z =>
    obtain ⟨hc0, hpo⟩ := hu
    subst hc0
    have hP : va_P D kC ((Pw ++ ((am, .inr (6, fm)) :: wt)) ++ ((ao, .inl (D.1 23, 1, .inr (.inl (vp_updL f 0 (v z).toInt64)))) :: (wc' z))) _ := hP
    have hD : va_D (fun q => s.heap.size ≤ q) ((Pw ++ ((am, .inr (6, fm)) :: wt)) ++ ((ao, .inl (D.1 23, 1, .inr (.inl (vp_updL f 0 (v z).toInt64)))) :: (wc' z))) := hD
    refine lv_aload_n hx hb dL_law_138 rfl (lv_at hl 3 rfl) ?_
    refine lv_aload_n hx hb dL_law_139 rfl (lv_at hl 1 rfl) ?_
    refine lv_iload hx hb dL_law_140 (lv_at hl 5 rfl) ?_
    refine lv_iconst (v := nI 1) hx hb dL_law_142 (by decide) ?_
    refine kn_iadd hx hb dL_law_143 ?_
    refine kn_sld (i := i + 1) hx hb hX hbl hbA hS (by omega) (by omega) dL_law_144 ?_
    refine lv_i2b (v := (xs (i + 1)).toInt8.toInt32) hx hb dL_law_145 rfl ?_
    refine kcVR (C := RX6) (As := [.int ((xs (i + 1)).toInt8.toInt32)]) (rest := []) (wr := (ao, .inl (D.1 23, 1, .inr (.inl (vp_updL f 0 (v z).toInt64)))) :: (Pw ++ (wc' z))) (ws := ((am, .inr (6, fm)) :: wt)) ⟨hx, hb, hml, hown, hts⟩ hN (cwV 1 hts gL2_X6_add rfl hrm2.1 hrm2.2.1 (by decide +kernel) ⟨Nat.le_trans (Nat.succ_le_succ hrm2.2.2.1) (Nat.le_of_ble_eq_true rfl), Nat.le_trans (Nat.add_le_add_left hrm2.2.2.2 _) (Nat.le_of_ble_eq_true rfl)⟩) hK hE (kq_2 _ Pw (wc' z) _) hP hD hS hA 0 6 rfl rfl rfl rfl hl.1 rfl (Nat.le_of_ble_eq_true rfl) dL_law_146 ⟨hcl, hsl⟩ (fun u2 H locs hp2 hP hD hS => ?_)
    refine W.eq (g2 := F0 m 149 ls [.int (v2 u2)]) rfl ?_
    refine W.widen (k := cells + 5) (n := slots + 34) (Nat.le_refl _) (Nat.le_refl _) ?_
    refine lv_istore (lv' := [(6, .int (v2 u2)), (5, .int (nI 0)), (0, .ref b), (1, .ref ax), (2, .ref am), (3, .ref ao), (4, .int (nI i))]) hx hb dL_law_149 hl (by decide) rfl (fun ls hl => ?_)
    refine lv_aload_n hx hb dL_law_151 rfl (lv_at hl 4 rfl) ?_
    refine kcVR (C := RX6) (As := []) (rest := []) (wr := ((ao, .inl (D.1 23, 1, .inr (.inl (vp_updL f 0 (v z).toInt64)))) :: (Pw ++ (wc' z))) ++ wt' u2) (ws := [(am, .inr (6, fm' u2))]) ⟨hx, hb, hml, hown, hts⟩ (hT u2) (cwV 0 hts gL2_X6_thrown rfl rfl rfl (by decide +kernel) ⟨Nat.le_of_ble_eq_true rfl, Nat.le_of_ble_eq_true rfl⟩) hK hE (kq_3 ((ao, .inl (D.1 23, 1, .inr (.inl (vp_updL f 0 (v z).toInt64)))) :: (Pw ++ (wc' z))) (wt' u2) _) hP hD hS hA 0 6 rfl rfl rfl rfl hl.1 rfl (Nat.le_of_ble_eq_true rfl) dL_law_152 ⟨hcl, hsl⟩ (fun _ H locs _ hP hD hS => ?_)
    refine W.eq (g2 := F0 m 155 ls [.int (nI 0)]) rfl ?_
    refine W.widen (k := cells + 5) (n := slots + 34) (Nat.le_refl _) (Nat.le_refl _) ?_
    refine lv_iload hx hb dL_law_155 (lv_at hl 1 rfl) ?_
    refine lv_icmp_eq (tgt := 162) hx hb dL_law_157 (by decide) (fun _ => ?_) (fun c_157 => absurd rfl c_157)
    refine lv_iload hx hb dL_law_162 (lv_at hl 1 rfl) ?_
    refine kn_if_ne (tgt := 179) hx hb (by omega) dL_law_164 (by decide) (fun c_164 => absurd c_164 (Nat.lt_irrefl _)) (fun _ => ?_)
    refine lv_aload_n hx hb dL_law_167 rfl (lv_at hl 5 rfl) ?_
    refine lv_iconst (v := nI 0) hx hb dL_law_168 (by decide) ?_
    refine kn_lald hx hb hK hP 0 3 rfl rfl (i := 0) (by omega) (by decide) dL_law_169 ?_
    refine lv_iload hx hb dL_law_170 (lv_at hl 0 rfl) ?_
    refine lv_i2l (v := (v2 u2).toInt64) hx hb dL_law_172 rfl ?_
    refine W.lcmp hx hb dL_law_173 ?_
    refine lv_if_eq (tgt := 179) hx hb dL_law_174 (by decide) (fun _ => ?_) (fun c_174 => absurd ((lg_cmp_eq _ _).mpr ((k_uL _ _ _).trans (hans z u2 rfl hpo hp2))) c_174)
    refine lv_goto (tgt := 1589) hx hb dL_law_179 (by decide) ?_
    exact k0 rfl z hpo u2 _ _ ls hp2 (kp_P (kq_4 _ _ Pw (wc' z) _) hP) (kp_D (kq_4 _ _ Pw (wc' z) _) hD) hS (lv_sub hl [2, 3, 4, 5, 6] rfl)
set_option maxHeartbeats 4000000 in
set_option maxRecDepth 100000 in
theorem o_poke {p : Program} {l : Launch} {e : Env} {s : State} {m : MethodId} {below : List Frame} {meth : Method} {c : Code} {b L : Nat} {xs : Nat → Int32} {D : va_G} {Q : State → Prop} {H : Heap} {locs : List Loc} {cells slots : Nat} {ls : Array Slot} {S S2 : Type} (ax am ao i : Nat) (f : Nat → Int64) (Pw wc wt : va_W) (wc' : S → va_W) (wt' : S2 → va_W) (po : S → Prop) (po2 : S2 → Prop) (v : S → Int32) (v2 : S2 → Int32) (code mc ms q0 : Nat) (rm rm2 : Room) (fs fm : List Value) (fm' : S2 → List Value)
    (h0 : kLaw p s m c b L xs D) (hi : i + 7 ≤ L) (hl : lv_has ls 8 [(0, .ref b), (1, .ref ax), (2, .ref am), (3, .ref ao), (4, .int (nI i))]) (he : wc[q0]? = some (ax, .inr (5, fs))) (hrm : rm.cells = mc ∧ rm.slots = ms ∧ rm.frames ≤ 11 ∧ rm.locals ≤ 340) (hm5 : mc ≤ 5 ∧ ms ≤ 34) (hrm2 : rm2.cells = 0 ∧ rm2.slots = 0 ∧ rm2.frames ≤ 11 ∧ rm2.locals ≤ 340) (hcd : code ≤ 1) (hcl : cells + 5 ≤ 603072) (hsl : slots + 34 ≤ 7190634)
    (hM : kX l yX5_poke wsX5_poke rm mc ms D [.ref ax, .long (kLg (xs (i + 1)) (xs (i + 2))), .int (xs (i + 3))] wc (kEx [kIob] code) (fun u => some (.int (v u))) wc' po)
    (hN : kM l yX6_poke wsX6_poke rm2 0 0 D [.ref am, .long (kLg (xs (i + 1)) (xs (i + 2))), .int (xs (i + 3))] ((am, .inr (6, fm)) :: wt) (fun u => some (.int (v2 u))) (fun u => (am, .inr (6, fm' u)) :: wt' u) po2)
    (hT : ∀ u, kM (S := Unit) l yX6_thrown wsX6_thrown { frames := 7, cells := 0, slots := 0, locals := 100 } 0 0 D [.ref am] [(am, .inr (6, fm' u))] (fun _ => some (.int (nI code))) (fun _ => [(am, .inr (6, fm' u))]) (fun _ => True))
    (hans : ∀ z u, code = 0 → po z → po2 u → (v z).toInt64 = (v2 u).toInt64)
    (hP : va_P D kC ((ao, .inl (D.1 23, 1, .inr (.inl f))) :: (Pw ++ (wc ++ ((am, .inr (6, fm)) :: wt)))) H) (hD : va_D (fun q => s.heap.size ≤ q) ((ao, .inl (D.1 23, 1, .inr (.inl f))) :: (Pw ++ (wc ++ ((am, .inr (6, fm)) :: wt))))) (hS : va_S (fun q => s.heap.size ≤ q) s.heap H locs)
    (k0 : code = 0 → ∀ (z : S), po z → ∀ (u : S2) (H1 : Heap) (locs1 : List Loc) (ls1 : Array Slot), po2 u → va_P D kC ((ao, .inl (D.1 23, 1, .inr (.inl (vp_updL f 0 (v z).toInt64)))) :: (Pw ++ (wc' z ++ ((am, .inr (6, fm' u)) :: wt' u)))) H1 → va_D (fun q => s.heap.size ≤ q) ((ao, .inl (D.1 23, 1, .inr (.inl (vp_updL f 0 (v z).toInt64)))) :: (Pw ++ (wc' z ++ ((am, .inr (6, fm' u)) :: wt' u)))) → va_S (fun q => s.heap.size ≤ q) s.heap H1 locs1 → lv_has ls1 8 [(0, .ref b), (1, .ref ax), (2, .ref am), (3, .ref ao), (4, .int (nI i))] → W p l e room_1 s m #[Value.ref b] below meth c H1 locs1 (cells + 5) (slots + 34) Q (F0 m 1589 ls1 []))
    (k1 : 0 < code → ∀ (u : S2) (H1 : Heap) (locs1 : List Loc) (ls1 : Array Slot), po2 u → va_P D kC ((ao, .inl (D.1 23, 1, .inr (.inl f))) :: (Pw ++ (wc ++ ((am, .inr (6, fm' u)) :: wt' u)))) H1 → va_D (fun q => s.heap.size ≤ q) ((ao, .inl (D.1 23, 1, .inr (.inl f))) :: (Pw ++ (wc ++ ((am, .inr (6, fm' u)) :: wt' u)))) → va_S (fun q => s.heap.size ≤ q) s.heap H1 locs1 → lv_has ls1 8 [(0, .ref b), (1, .ref ax), (2, .ref am), (3, .ref ao), (4, .int (nI i))] → W p l e room_1 s m #[Value.ref b] below meth c H1 locs1 (cells + 5) (slots + 34) Q (F0 m 1589 ls1 []))
    : W p l e room_1 s m #[Value.ref b] below meth c H locs cells slots Q (F0 m 182 ls []) := by
  obtain ⟨hx, hb, hml, hown, hts, hX, hbl, hL9, hK, hE⟩ := h0
  have hA : ∀ q : Nat, s.heap.size ≤ q → (fun q => s.heap.size ≤ q) q := fun q h => h
  have hbA : ¬ (fun q => s.heap.size ≤ q) b := Nat.not_le.mpr hbl
  have hc9 := hts (.constantLong RL 100 (4294967295)) lw_c100
  have hW := w_poke l D ax ao (kLg (xs (i + 1)) (xs (i + 2))) (xs (i + 3)) f wc wc' po v code mc ms q0 rm fs he hrm hcd hM
  refine lv_aload_n hx hb dL_law_182 rfl (lv_at hl 1 rfl) ?_
  refine lv_aload_n hx hb dL_law_183 rfl (lv_at hl 0 rfl) ?_
  refine lv_iload hx hb dL_law_184 (lv_at hl 4 rfl) ?_
  refine lv_iconst (v := nI 1) hx hb dL_law_186 (by decide) ?_
  refine kn_iadd hx hb dL_law_187 ?_
  refine kn_sld (i := i + 1) hx hb hX hbl hbA hS (by omega) (by omega) dL_law_188 ?_
  refine lv_i2l (v := (xs (i + 1)).toInt64) hx hb dL_law_189 rfl ?_
  refine lv_bipush (v := nI 32) hx hb dL_law_190 (by decide) ?_
  refine lv_lshl (v := ((xs (i + 1)).toInt64) <<< ((nI 32).toInt64 &&& 63)) hx hb dL_law_192 rfl ?_
  refine lv_aload_n hx hb dL_law_193 rfl (lv_at hl 0 rfl) ?_
  refine lv_iload hx hb dL_law_194 (lv_at hl 4 rfl) ?_
  refine lv_iconst (v := nI 2) hx hb dL_law_196 (by decide) ?_
  refine kn_iadd hx hb dL_law_197 ?_
  refine kn_sld (i := i + 2) hx hb hX hbl hbA hS (by omega) (by omega) dL_law_198 ?_
  refine lv_i2l (v := (xs (i + 2)).toInt64) hx hb dL_law_199 rfl ?_
  refine lv_ldc2 (v := 4294967295) hx hb hown hc9 dL_law_200 ?_
  refine lv_land hx hb dL_law_203 ?_
  refine lv_lor hx hb dL_law_204 ?_
  refine kt_l (v' := kLg (xs (i + 1)) (xs (i + 2))) rfl ?_
  refine lv_aload_n hx hb dL_law_205 rfl (lv_at hl 0 rfl) ?_
  refine lv_iload hx hb dL_law_206 (lv_at hl 4 rfl) ?_
  refine lv_iconst (v := nI 3) hx hb dL_law_208 (by decide) ?_
  refine kn_iadd hx hb dL_law_209 ?_
  refine kn_sld (i := i + 3) hx hb hX hbl hbA hS (by omega) (by omega) dL_law_210 ?_
  refine lv_aload_n hx hb dL_law_211 rfl (lv_at hl 3 rfl) ?_
  refine kcSWR (As := [.ref ax, .long (kLg (xs (i + 1)) (xs (i + 2))), .int (xs (i + 3)), .ref ao]) (rest := []) (wr := (Pw ++ ((am, .inr (6, fm)) :: wt))) (ws := ((ao, .inl (D.1 23, 1, .inr (.inl f))) :: wc)) ⟨hx, hb, hml, hown, hts⟩ hW (vx_cwSW 4 hts gL2_L_poke rfl rfl rfl (by decide +kernel) ⟨Nat.le_of_ble_eq_true rfl, Nat.le_of_ble_eq_true rfl⟩) hK hE (kq_1 _ Pw wc _) hP hD hS hA rfl hl.1 rfl (Nat.le_of_ble_eq_true rfl) dL_law_212 ⟨by show cells + mc ≤ 603072; omega, by show slots + ms ≤ 7190634; omega⟩ (fun u H locs hu hP hD hS => ?_)
  refine W.eq (g2 := F0 m 215 ls [.int (nI code)]) rfl ?_
  refine W.widen (k := cells + 5) (n := slots + 34) (by omega) (by omega) ?_
  refine lv_istore (lv' := [(5, .int (nI code)), (0, .ref b), (1, .ref ax), (2, .ref am), (3, .ref ao), (4, .int (nI i))]) hx hb dL_law_215 hl (by decide) rfl (fun ls hl => ?_)
  cases u with
  | none =>
    have hu : 0 < code := hu
    have hP : va_P D kC ((Pw ++ ((am, .inr (6, fm)) :: wt)) ++ ((ao, .inl (D.1 23, 1, .inr (.inl f))) :: wc)) _ := hP
    have hD : va_D (fun q => s.heap.size ≤ q) ((Pw ++ ((am, .inr (6, fm)) :: wt)) ++ ((ao, .inl (D.1 23, 1, .inr (.inl f))) :: wc)) := hD
    refine lv_aload_n hx hb dL_law_217 rfl (lv_at hl 3 rfl) ?_
    refine lv_aload_n hx hb dL_law_218 rfl (lv_at hl 1 rfl) ?_
    refine lv_iload hx hb dL_law_219 (lv_at hl 5 rfl) ?_
    refine lv_iconst (v := nI 1) hx hb dL_law_221 (by decide) ?_
    refine kn_iadd hx hb dL_law_222 ?_
    refine kn_sld (i := i + 1) hx hb hX hbl hbA hS (by omega) (by omega) dL_law_223 ?_
    refine lv_i2l (v := (xs (i + 1)).toInt64) hx hb dL_law_224 rfl ?_
    refine lv_bipush (v := nI 32) hx hb dL_law_225 (by decide) ?_
    refine lv_lshl (v := ((xs (i + 1)).toInt64) <<< ((nI 32).toInt64 &&& 63)) hx hb dL_law_227 rfl ?_
    refine lv_aload_n hx hb dL_law_228 rfl (lv_at hl 1 rfl) ?_
    refine lv_iload hx hb dL_law_229 (lv_at hl 5 rfl) ?_
    refine lv_iconst (v := nI 2) hx hb dL_law_231 (by decide) ?_
    refine kn_iadd hx hb dL_law_232 ?_
    refine kn_sld (i := i + 2) hx hb hX hbl hbA hS (by omega) (by omega) dL_law_233 ?_
    refine lv_i2l (v := (xs (i + 2)).toInt64) hx hb dL_law_234 rfl ?_
    refine lv_ldc2 (v := 4294967295) hx hb hown hc9 dL_law_235 ?_
    refine lv_land hx hb dL_law_238 ?_
    refine lv_lor hx hb dL_law_239 ?_
    refine kt_l (v' := kLg (xs (i + 1)) (xs (i + 2))) rfl ?_
    refine lv_aload_n hx hb dL_law_240 rfl (lv_at hl 1 rfl) ?_
    refine lv_iload hx hb dL_law_241 (lv_at hl 5 rfl) ?_
    refine lv_iconst (v := nI 3) hx hb dL_law_243 (by decide) ?_
    refine kn_iadd hx hb dL_law_244 ?_
    refine kn_sld (i := i + 3) hx hb hX hbl hbA hS (by omega) (by omega) dL_law_245 ?_
    refine kcVR (C := RX6) (As := [.long (kLg (xs (i + 1)) (xs (i + 2))), .int (xs (i + 3))]) (rest := []) (wr := (ao, .inl (D.1 23, 1, .inr (.inl f))) :: (Pw ++ wc)) (ws := ((am, .inr (6, fm)) :: wt)) ⟨hx, hb, hml, hown, hts⟩ hN (cwV 2 hts gL2_X6_poke rfl hrm2.1 hrm2.2.1 (by decide +kernel) ⟨Nat.le_trans (Nat.succ_le_succ hrm2.2.2.1) (Nat.le_of_ble_eq_true rfl), Nat.le_trans (Nat.add_le_add_left hrm2.2.2.2 _) (Nat.le_of_ble_eq_true rfl)⟩) hK hE (kq_2 _ Pw wc _) hP hD hS hA 0 6 rfl rfl rfl rfl hl.1 rfl (Nat.le_of_ble_eq_true rfl) dL_law_246 ⟨hcl, hsl⟩ (fun u2 H locs hp2 hP hD hS => ?_)
    refine W.eq (g2 := F0 m 249 ls [.int (v2 u2)]) rfl ?_
    refine W.widen (k := cells + 5) (n := slots + 34) (Nat.le_refl _) (Nat.le_refl _) ?_
    refine lv_istore (lv' := [(6, .int (v2 u2)), (5, .int (nI code)), (0, .ref b), (1, .ref ax), (2, .ref am), (3, .ref ao), (4, .int (nI i))]) hx hb dL_law_249 hl (by decide) rfl (fun ls hl => ?_)
    refine lv_aload_n hx hb dL_law_251 rfl (lv_at hl 4 rfl) ?_
    refine kcVR (C := RX6) (As := []) (rest := []) (wr := ((ao, .inl (D.1 23, 1, .inr (.inl f))) :: (Pw ++ wc)) ++ wt' u2) (ws := [(am, .inr (6, fm' u2))]) ⟨hx, hb, hml, hown, hts⟩ (hT u2) (cwV 0 hts gL2_X6_thrown rfl rfl rfl (by decide +kernel) ⟨Nat.le_of_ble_eq_true rfl, Nat.le_of_ble_eq_true rfl⟩) hK hE (kq_3 ((ao, .inl (D.1 23, 1, .inr (.inl f))) :: (Pw ++ wc)) (wt' u2) _) hP hD hS hA 0 6 rfl rfl rfl rfl hl.1 rfl (Nat.le_of_ble_eq_true rfl) dL_law_252 ⟨hcl, hsl⟩ (fun _ H locs _ hP hD hS => ?_)
    refine W.eq (g2 := F0 m 255 ls [.int (nI code)]) rfl ?_
    refine W.widen (k := cells + 5) (n := slots + 34) (Nat.le_refl _) (Nat.le_refl _) ?_
    refine lv_iload hx hb dL_law_255 (lv_at hl 1 rfl) ?_
    refine lv_icmp_eq (tgt := 262) hx hb dL_law_257 (by decide) (fun _ => ?_) (fun c_257 => absurd rfl c_257)
    refine lv_iload hx hb dL_law_262 (lv_at hl 1 rfl) ?_
    refine kn_if_ne (tgt := 279) hx hb (by omega) dL_law_264 (by decide) (fun _ => ?_) (fun c_264 => absurd hu (by omega))
    refine lv_goto (tgt := 1589) hx hb dL_law_279 (by decide) ?_
    exact k1 hu u2 _ _ ls hp2 (kp_P (kq_4 _ _ Pw wc _) hP) (kp_D (kq_4 _ _ Pw wc _) hD) hS (lv_sub hl [2, 3, 4, 5, 6] rfl)
  | some z =>
    obtain ⟨hc0, hpo⟩ := hu
    subst hc0
    have hP : va_P D kC ((Pw ++ ((am, .inr (6, fm)) :: wt)) ++ ((ao, .inl (D.1 23, 1, .inr (.inl (vp_updL f 0 (v z).toInt64)))) :: (wc' z))) _ := hP
    have hD : va_D (fun q => s.heap.size ≤ q) ((Pw ++ ((am, .inr (6, fm)) :: wt)) ++ ((ao, .inl (D.1 23, 1, .inr (.inl (vp_updL f 0 (v z).toInt64)))) :: (wc' z))) := hD
    refine lv_aload_n hx hb dL_law_217 rfl (lv_at hl 3 rfl) ?_
    refine lv_aload_n hx hb dL_law_218 rfl (lv_at hl 1 rfl) ?_
    refine lv_iload hx hb dL_law_219 (lv_at hl 5 rfl) ?_
    refine lv_iconst (v := nI 1) hx hb dL_law_221 (by decide) ?_
    refine kn_iadd hx hb dL_law_222 ?_
    refine kn_sld (i := i + 1) hx hb hX hbl hbA hS (by omega) (by omega) dL_law_223 ?_
    refine lv_i2l (v := (xs (i + 1)).toInt64) hx hb dL_law_224 rfl ?_
    refine lv_bipush (v := nI 32) hx hb dL_law_225 (by decide) ?_
    refine lv_lshl (v := ((xs (i + 1)).toInt64) <<< ((nI 32).toInt64 &&& 63)) hx hb dL_law_227 rfl ?_
    refine lv_aload_n hx hb dL_law_228 rfl (lv_at hl 1 rfl) ?_
    refine lv_iload hx hb dL_law_229 (lv_at hl 5 rfl) ?_
    refine lv_iconst (v := nI 2) hx hb dL_law_231 (by decide) ?_
    refine kn_iadd hx hb dL_law_232 ?_
    refine kn_sld (i := i + 2) hx hb hX hbl hbA hS (by omega) (by omega) dL_law_233 ?_
    refine lv_i2l (v := (xs (i + 2)).toInt64) hx hb dL_law_234 rfl ?_
    refine lv_ldc2 (v := 4294967295) hx hb hown hc9 dL_law_235 ?_
    refine lv_land hx hb dL_law_238 ?_
    refine lv_lor hx hb dL_law_239 ?_
    refine kt_l (v' := kLg (xs (i + 1)) (xs (i + 2))) rfl ?_
    refine lv_aload_n hx hb dL_law_240 rfl (lv_at hl 1 rfl) ?_
    refine lv_iload hx hb dL_law_241 (lv_at hl 5 rfl) ?_
    refine lv_iconst (v := nI 3) hx hb dL_law_243 (by decide) ?_
    refine kn_iadd hx hb dL_law_244 ?_
    refine kn_sld (i := i + 3) hx hb hX hbl hbA hS (by omega) (by omega) dL_law_245 ?_
    refine kcVR (C := RX6) (As := [.long (kLg (xs (i + 1)) (xs (i + 2))), .int (xs (i + 3))]) (rest := []) (wr := (ao, .inl (D.1 23, 1, .inr (.inl (vp_updL f 0 (v z).toInt64)))) :: (Pw ++ (wc' z))) (ws := ((am, .inr (6, fm)) :: wt)) ⟨hx, hb, hml, hown, hts⟩ hN (cwV 2 hts gL2_X6_poke rfl hrm2.1 hrm2.2.1 (by decide +kernel) ⟨Nat.le_trans (Nat.succ_le_succ hrm2.2.2.1) (Nat.le_of_ble_eq_true rfl), Nat.le_trans (Nat.add_le_add_left hrm2.2.2.2 _) (Nat.le_of_ble_eq_true rfl)⟩) hK hE (kq_2 _ Pw (wc' z) _) hP hD hS hA 0 6 rfl rfl rfl rfl hl.1 rfl (Nat.le_of_ble_eq_true rfl) dL_law_246 ⟨hcl, hsl⟩ (fun u2 H locs hp2 hP hD hS => ?_)
    refine W.eq (g2 := F0 m 249 ls [.int (v2 u2)]) rfl ?_
    refine W.widen (k := cells + 5) (n := slots + 34) (Nat.le_refl _) (Nat.le_refl _) ?_
    refine lv_istore (lv' := [(6, .int (v2 u2)), (5, .int (nI 0)), (0, .ref b), (1, .ref ax), (2, .ref am), (3, .ref ao), (4, .int (nI i))]) hx hb dL_law_249 hl (by decide) rfl (fun ls hl => ?_)
    refine lv_aload_n hx hb dL_law_251 rfl (lv_at hl 4 rfl) ?_
    refine kcVR (C := RX6) (As := []) (rest := []) (wr := ((ao, .inl (D.1 23, 1, .inr (.inl (vp_updL f 0 (v z).toInt64)))) :: (Pw ++ (wc' z))) ++ wt' u2) (ws := [(am, .inr (6, fm' u2))]) ⟨hx, hb, hml, hown, hts⟩ (hT u2) (cwV 0 hts gL2_X6_thrown rfl rfl rfl (by decide +kernel) ⟨Nat.le_of_ble_eq_true rfl, Nat.le_of_ble_eq_true rfl⟩) hK hE (kq_3 ((ao, .inl (D.1 23, 1, .inr (.inl (vp_updL f 0 (v z).toInt64)))) :: (Pw ++ (wc' z))) (wt' u2) _) hP hD hS hA 0 6 rfl rfl rfl rfl hl.1 rfl (Nat.le_of_ble_eq_true rfl) dL_law_252 ⟨hcl, hsl⟩ (fun _ H locs _ hP hD hS => ?_)
    refine W.eq (g2 := F0 m 255 ls [.int (nI 0)]) rfl ?_
    refine W.widen (k := cells + 5) (n := slots + 34) (Nat.le_refl _) (Nat.le_refl _) ?_
    refine lv_iload hx hb dL_law_255 (lv_at hl 1 rfl) ?_
    refine lv_icmp_eq (tgt := 262) hx hb dL_law_257 (by decide) (fun _ => ?_) (fun c_257 => absurd rfl c_257)
    refine lv_iload hx hb dL_law_262 (lv_at hl 1 rfl) ?_
    refine kn_if_ne (tgt := 279) hx hb (by omega) dL_law_264 (by decide) (fun c_264 => absurd c_264 (Nat.lt_irrefl _)) (fun _ => ?_)
    refine lv_aload_n hx hb dL_law_267 rfl (lv_at hl 5 rfl) ?_
    refine lv_iconst (v := nI 0) hx hb dL_law_268 (by decide) ?_
    refine kn_lald hx hb hK hP 0 3 rfl rfl (i := 0) (by omega) (by decide) dL_law_269 ?_
    refine lv_iload hx hb dL_law_270 (lv_at hl 0 rfl) ?_
    refine lv_i2l (v := (v2 u2).toInt64) hx hb dL_law_272 rfl ?_
    refine W.lcmp hx hb dL_law_273 ?_
    refine lv_if_eq (tgt := 279) hx hb dL_law_274 (by decide) (fun _ => ?_) (fun c_274 => absurd ((lg_cmp_eq _ _).mpr ((k_uL _ _ _).trans (hans z u2 rfl hpo hp2))) c_274)
    refine lv_goto (tgt := 1589) hx hb dL_law_279 (by decide) ?_
    exact k0 rfl z hpo u2 _ _ ls hp2 (kp_P (kq_4 _ _ Pw (wc' z) _) hP) (kp_D (kq_4 _ _ Pw (wc' z) _) hD) hS (lv_sub hl [2, 3, 4, 5, 6] rfl)
set_option maxHeartbeats 4000000 in
set_option maxRecDepth 100000 in
theorem o_place {p : Program} {l : Launch} {e : Env} {s : State} {m : MethodId} {below : List Frame} {meth : Method} {c : Code} {b L : Nat} {xs : Nat → Int32} {D : va_G} {Q : State → Prop} {H : Heap} {locs : List Loc} {cells slots : Nat} {ls : Array Slot} {S S2 : Type} (ax am ao i : Nat) (f : Nat → Int64) (Pw wc wt : va_W) (wc' : S → va_W) (wt' : S2 → va_W) (po : S → Prop) (po2 : S2 → Prop) (v : S → Int32) (v2 : S2 → Int32) (code mc ms q0 : Nat) (rm rm2 : Room) (fs fm : List Value) (fm' : S2 → List Value)
    (h0 : kLaw p s m c b L xs D) (hi : i + 7 ≤ L) (hl : lv_has ls 8 [(0, .ref b), (1, .ref ax), (2, .ref am), (3, .ref ao), (4, .int (nI i))]) (he : wc[q0]? = some (ax, .inr (5, fs))) (hrm : rm.cells = mc ∧ rm.slots = ms ∧ rm.frames ≤ 11 ∧ rm.locals ≤ 340) (hm5 : mc ≤ 5 ∧ ms ≤ 34) (hrm2 : rm2.cells = 0 ∧ rm2.slots = 0 ∧ rm2.frames ≤ 11 ∧ rm2.locals ≤ 340) (hcd : code ≤ 2) (hcl : cells + 5 ≤ 603072) (hsl : slots + 34 ≤ 7190634)
    (hM : kX l yX5_place wsX5_place rm mc ms D [.ref ax, .long (kLg (xs (i + 1)) (xs (i + 2))), .long (kLg (xs (i + 3)) (xs (i + 4)))] wc (kEx [kIae, kUoe] code) (fun u => some (.int (v u))) wc' po)
    (hN : kM l yX6_place wsX6_place rm2 0 0 D [.ref am, .long (kLg (xs (i + 1)) (xs (i + 2))), .long (kLg (xs (i + 3)) (xs (i + 4)))] ((am, .inr (6, fm)) :: wt) (fun u => some (.int (v2 u))) (fun u => (am, .inr (6, fm' u)) :: wt' u) po2)
    (hT : ∀ u, kM (S := Unit) l yX6_thrown wsX6_thrown { frames := 7, cells := 0, slots := 0, locals := 100 } 0 0 D [.ref am] [(am, .inr (6, fm' u))] (fun _ => some (.int (nI code))) (fun _ => [(am, .inr (6, fm' u))]) (fun _ => True))
    (hans : ∀ z u, code = 0 → po z → po2 u → (v z).toInt64 = (v2 u).toInt64)
    (hP : va_P D kC ((ao, .inl (D.1 23, 1, .inr (.inl f))) :: (Pw ++ (wc ++ ((am, .inr (6, fm)) :: wt)))) H) (hD : va_D (fun q => s.heap.size ≤ q) ((ao, .inl (D.1 23, 1, .inr (.inl f))) :: (Pw ++ (wc ++ ((am, .inr (6, fm)) :: wt))))) (hS : va_S (fun q => s.heap.size ≤ q) s.heap H locs)
    (k0 : code = 0 → ∀ (z : S), po z → ∀ (u : S2) (H1 : Heap) (locs1 : List Loc) (ls1 : Array Slot), po2 u → va_P D kC ((ao, .inl (D.1 23, 1, .inr (.inl (vp_updL f 0 (v z).toInt64)))) :: (Pw ++ (wc' z ++ ((am, .inr (6, fm' u)) :: wt' u)))) H1 → va_D (fun q => s.heap.size ≤ q) ((ao, .inl (D.1 23, 1, .inr (.inl (vp_updL f 0 (v z).toInt64)))) :: (Pw ++ (wc' z ++ ((am, .inr (6, fm' u)) :: wt' u)))) → va_S (fun q => s.heap.size ≤ q) s.heap H1 locs1 → lv_has ls1 8 [(0, .ref b), (1, .ref ax), (2, .ref am), (3, .ref ao), (4, .int (nI i))] → W p l e room_1 s m #[Value.ref b] below meth c H1 locs1 (cells + 5) (slots + 34) Q (F0 m 1589 ls1 []))
    (k1 : 0 < code → ∀ (u : S2) (H1 : Heap) (locs1 : List Loc) (ls1 : Array Slot), po2 u → va_P D kC ((ao, .inl (D.1 23, 1, .inr (.inl f))) :: (Pw ++ (wc ++ ((am, .inr (6, fm' u)) :: wt' u)))) H1 → va_D (fun q => s.heap.size ≤ q) ((ao, .inl (D.1 23, 1, .inr (.inl f))) :: (Pw ++ (wc ++ ((am, .inr (6, fm' u)) :: wt' u)))) → va_S (fun q => s.heap.size ≤ q) s.heap H1 locs1 → lv_has ls1 8 [(0, .ref b), (1, .ref ax), (2, .ref am), (3, .ref ao), (4, .int (nI i))] → W p l e room_1 s m #[Value.ref b] below meth c H1 locs1 (cells + 5) (slots + 34) Q (F0 m 1589 ls1 []))
    : W p l e room_1 s m #[Value.ref b] below meth c H locs cells slots Q (F0 m 282 ls []) := by
  obtain ⟨hx, hb, hml, hown, hts, hX, hbl, hL9, hK, hE⟩ := h0
  have hA : ∀ q : Nat, s.heap.size ≤ q → (fun q => s.heap.size ≤ q) q := fun q h => h
  have hbA : ¬ (fun q => s.heap.size ≤ q) b := Nat.not_le.mpr hbl
  have hc9 := hts (.constantLong RL 100 (4294967295)) lw_c100
  have hW := w_place l D ax ao (kLg (xs (i + 1)) (xs (i + 2))) (kLg (xs (i + 3)) (xs (i + 4))) f wc wc' po v code mc ms q0 rm fs he hrm hcd hM
  refine lv_aload_n hx hb dL_law_282 rfl (lv_at hl 1 rfl) ?_
  refine lv_aload_n hx hb dL_law_283 rfl (lv_at hl 0 rfl) ?_
  refine lv_iload hx hb dL_law_284 (lv_at hl 4 rfl) ?_
  refine lv_iconst (v := nI 1) hx hb dL_law_286 (by decide) ?_
  refine kn_iadd hx hb dL_law_287 ?_
  refine kn_sld (i := i + 1) hx hb hX hbl hbA hS (by omega) (by omega) dL_law_288 ?_
  refine lv_i2l (v := (xs (i + 1)).toInt64) hx hb dL_law_289 rfl ?_
  refine lv_bipush (v := nI 32) hx hb dL_law_290 (by decide) ?_
  refine lv_lshl (v := ((xs (i + 1)).toInt64) <<< ((nI 32).toInt64 &&& 63)) hx hb dL_law_292 rfl ?_
  refine lv_aload_n hx hb dL_law_293 rfl (lv_at hl 0 rfl) ?_
  refine lv_iload hx hb dL_law_294 (lv_at hl 4 rfl) ?_
  refine lv_iconst (v := nI 2) hx hb dL_law_296 (by decide) ?_
  refine kn_iadd hx hb dL_law_297 ?_
  refine kn_sld (i := i + 2) hx hb hX hbl hbA hS (by omega) (by omega) dL_law_298 ?_
  refine lv_i2l (v := (xs (i + 2)).toInt64) hx hb dL_law_299 rfl ?_
  refine lv_ldc2 (v := 4294967295) hx hb hown hc9 dL_law_300 ?_
  refine lv_land hx hb dL_law_303 ?_
  refine lv_lor hx hb dL_law_304 ?_
  refine kt_l (v' := kLg (xs (i + 1)) (xs (i + 2))) rfl ?_
  refine lv_aload_n hx hb dL_law_305 rfl (lv_at hl 0 rfl) ?_
  refine lv_iload hx hb dL_law_306 (lv_at hl 4 rfl) ?_
  refine lv_iconst (v := nI 3) hx hb dL_law_308 (by decide) ?_
  refine kn_iadd hx hb dL_law_309 ?_
  refine kn_sld (i := i + 3) hx hb hX hbl hbA hS (by omega) (by omega) dL_law_310 ?_
  refine lv_i2l (v := (xs (i + 3)).toInt64) hx hb dL_law_311 rfl ?_
  refine lv_bipush (v := nI 32) hx hb dL_law_312 (by decide) ?_
  refine lv_lshl (v := ((xs (i + 3)).toInt64) <<< ((nI 32).toInt64 &&& 63)) hx hb dL_law_314 rfl ?_
  refine lv_aload_n hx hb dL_law_315 rfl (lv_at hl 0 rfl) ?_
  refine lv_iload hx hb dL_law_316 (lv_at hl 4 rfl) ?_
  refine lv_iconst (v := nI 4) hx hb dL_law_318 (by decide) ?_
  refine kn_iadd hx hb dL_law_319 ?_
  refine kn_sld (i := i + 4) hx hb hX hbl hbA hS (by omega) (by omega) dL_law_320 ?_
  refine lv_i2l (v := (xs (i + 4)).toInt64) hx hb dL_law_321 rfl ?_
  refine lv_ldc2 (v := 4294967295) hx hb hown hc9 dL_law_322 ?_
  refine lv_land hx hb dL_law_325 ?_
  refine lv_lor hx hb dL_law_326 ?_
  refine kt_l (v' := kLg (xs (i + 3)) (xs (i + 4))) rfl ?_
  refine lv_aload_n hx hb dL_law_327 rfl (lv_at hl 3 rfl) ?_
  refine kcSWR (As := [.ref ax, .long (kLg (xs (i + 1)) (xs (i + 2))), .long (kLg (xs (i + 3)) (xs (i + 4))), .ref ao]) (rest := []) (wr := (Pw ++ ((am, .inr (6, fm)) :: wt))) (ws := ((ao, .inl (D.1 23, 1, .inr (.inl f))) :: wc)) ⟨hx, hb, hml, hown, hts⟩ hW (vx_cwSW 4 hts gL2_L_place rfl rfl rfl (by decide +kernel) ⟨Nat.le_of_ble_eq_true rfl, Nat.le_of_ble_eq_true rfl⟩) hK hE (kq_1 _ Pw wc _) hP hD hS hA rfl hl.1 rfl (Nat.le_of_ble_eq_true rfl) dL_law_328 ⟨by show cells + mc ≤ 603072; omega, by show slots + ms ≤ 7190634; omega⟩ (fun u H locs hu hP hD hS => ?_)
  refine W.eq (g2 := F0 m 331 ls [.int (nI code)]) rfl ?_
  refine W.widen (k := cells + 5) (n := slots + 34) (by omega) (by omega) ?_
  refine lv_istore (lv' := [(5, .int (nI code)), (0, .ref b), (1, .ref ax), (2, .ref am), (3, .ref ao), (4, .int (nI i))]) hx hb dL_law_331 hl (by decide) rfl (fun ls hl => ?_)
  cases u with
  | none =>
    have hu : 0 < code := hu
    have hP : va_P D kC ((Pw ++ ((am, .inr (6, fm)) :: wt)) ++ ((ao, .inl (D.1 23, 1, .inr (.inl f))) :: wc)) _ := hP
    have hD : va_D (fun q => s.heap.size ≤ q) ((Pw ++ ((am, .inr (6, fm)) :: wt)) ++ ((ao, .inl (D.1 23, 1, .inr (.inl f))) :: wc)) := hD
    refine lv_aload_n hx hb dL_law_333 rfl (lv_at hl 3 rfl) ?_
    refine lv_aload_n hx hb dL_law_334 rfl (lv_at hl 1 rfl) ?_
    refine lv_iload hx hb dL_law_335 (lv_at hl 5 rfl) ?_
    refine lv_iconst (v := nI 1) hx hb dL_law_337 (by decide) ?_
    refine kn_iadd hx hb dL_law_338 ?_
    refine kn_sld (i := i + 1) hx hb hX hbl hbA hS (by omega) (by omega) dL_law_339 ?_
    refine lv_i2l (v := (xs (i + 1)).toInt64) hx hb dL_law_340 rfl ?_
    refine lv_bipush (v := nI 32) hx hb dL_law_341 (by decide) ?_
    refine lv_lshl (v := ((xs (i + 1)).toInt64) <<< ((nI 32).toInt64 &&& 63)) hx hb dL_law_343 rfl ?_
    refine lv_aload_n hx hb dL_law_344 rfl (lv_at hl 1 rfl) ?_
    refine lv_iload hx hb dL_law_345 (lv_at hl 5 rfl) ?_
    refine lv_iconst (v := nI 2) hx hb dL_law_347 (by decide) ?_
    refine kn_iadd hx hb dL_law_348 ?_
    refine kn_sld (i := i + 2) hx hb hX hbl hbA hS (by omega) (by omega) dL_law_349 ?_
    refine lv_i2l (v := (xs (i + 2)).toInt64) hx hb dL_law_350 rfl ?_
    refine lv_ldc2 (v := 4294967295) hx hb hown hc9 dL_law_351 ?_
    refine lv_land hx hb dL_law_354 ?_
    refine lv_lor hx hb dL_law_355 ?_
    refine kt_l (v' := kLg (xs (i + 1)) (xs (i + 2))) rfl ?_
    refine lv_aload_n hx hb dL_law_356 rfl (lv_at hl 1 rfl) ?_
    refine lv_iload hx hb dL_law_357 (lv_at hl 5 rfl) ?_
    refine lv_iconst (v := nI 3) hx hb dL_law_359 (by decide) ?_
    refine kn_iadd hx hb dL_law_360 ?_
    refine kn_sld (i := i + 3) hx hb hX hbl hbA hS (by omega) (by omega) dL_law_361 ?_
    refine lv_i2l (v := (xs (i + 3)).toInt64) hx hb dL_law_362 rfl ?_
    refine lv_bipush (v := nI 32) hx hb dL_law_363 (by decide) ?_
    refine lv_lshl (v := ((xs (i + 3)).toInt64) <<< ((nI 32).toInt64 &&& 63)) hx hb dL_law_365 rfl ?_
    refine lv_aload_n hx hb dL_law_366 rfl (lv_at hl 1 rfl) ?_
    refine lv_iload hx hb dL_law_367 (lv_at hl 5 rfl) ?_
    refine lv_iconst (v := nI 4) hx hb dL_law_369 (by decide) ?_
    refine kn_iadd hx hb dL_law_370 ?_
    refine kn_sld (i := i + 4) hx hb hX hbl hbA hS (by omega) (by omega) dL_law_371 ?_
    refine lv_i2l (v := (xs (i + 4)).toInt64) hx hb dL_law_372 rfl ?_
    refine lv_ldc2 (v := 4294967295) hx hb hown hc9 dL_law_373 ?_
    refine lv_land hx hb dL_law_376 ?_
    refine lv_lor hx hb dL_law_377 ?_
    refine kt_l (v' := kLg (xs (i + 3)) (xs (i + 4))) rfl ?_
    refine kcVR (C := RX6) (As := [.long (kLg (xs (i + 1)) (xs (i + 2))), .long (kLg (xs (i + 3)) (xs (i + 4)))]) (rest := []) (wr := (ao, .inl (D.1 23, 1, .inr (.inl f))) :: (Pw ++ wc)) (ws := ((am, .inr (6, fm)) :: wt)) ⟨hx, hb, hml, hown, hts⟩ hN (cwV 2 hts gL2_X6_place rfl hrm2.1 hrm2.2.1 (by decide +kernel) ⟨Nat.le_trans (Nat.succ_le_succ hrm2.2.2.1) (Nat.le_of_ble_eq_true rfl), Nat.le_trans (Nat.add_le_add_left hrm2.2.2.2 _) (Nat.le_of_ble_eq_true rfl)⟩) hK hE (kq_2 _ Pw wc _) hP hD hS hA 0 6 rfl rfl rfl rfl hl.1 rfl (Nat.le_of_ble_eq_true rfl) dL_law_378 ⟨hcl, hsl⟩ (fun u2 H locs hp2 hP hD hS => ?_)
    refine W.eq (g2 := F0 m 381 ls [.int (v2 u2)]) rfl ?_
    refine W.widen (k := cells + 5) (n := slots + 34) (Nat.le_refl _) (Nat.le_refl _) ?_
    refine lv_istore (lv' := [(6, .int (v2 u2)), (5, .int (nI code)), (0, .ref b), (1, .ref ax), (2, .ref am), (3, .ref ao), (4, .int (nI i))]) hx hb dL_law_381 hl (by decide) rfl (fun ls hl => ?_)
    refine lv_aload_n hx hb dL_law_383 rfl (lv_at hl 4 rfl) ?_
    refine kcVR (C := RX6) (As := []) (rest := []) (wr := ((ao, .inl (D.1 23, 1, .inr (.inl f))) :: (Pw ++ wc)) ++ wt' u2) (ws := [(am, .inr (6, fm' u2))]) ⟨hx, hb, hml, hown, hts⟩ (hT u2) (cwV 0 hts gL2_X6_thrown rfl rfl rfl (by decide +kernel) ⟨Nat.le_of_ble_eq_true rfl, Nat.le_of_ble_eq_true rfl⟩) hK hE (kq_3 ((ao, .inl (D.1 23, 1, .inr (.inl f))) :: (Pw ++ wc)) (wt' u2) _) hP hD hS hA 0 6 rfl rfl rfl rfl hl.1 rfl (Nat.le_of_ble_eq_true rfl) dL_law_384 ⟨hcl, hsl⟩ (fun _ H locs _ hP hD hS => ?_)
    refine W.eq (g2 := F0 m 387 ls [.int (nI code)]) rfl ?_
    refine W.widen (k := cells + 5) (n := slots + 34) (Nat.le_refl _) (Nat.le_refl _) ?_
    refine lv_iload hx hb dL_law_387 (lv_at hl 1 rfl) ?_
    refine lv_icmp_eq (tgt := 394) hx hb dL_law_389 (by decide) (fun _ => ?_) (fun c_389 => absurd rfl c_389)
    refine lv_iload hx hb dL_law_394 (lv_at hl 1 rfl) ?_
    refine kn_if_ne (tgt := 411) hx hb (by omega) dL_law_396 (by decide) (fun _ => ?_) (fun c_396 => absurd hu (by omega))
    refine lv_goto (tgt := 1589) hx hb dL_law_411 (by decide) ?_
    exact k1 hu u2 _ _ ls hp2 (kp_P (kq_4 _ _ Pw wc _) hP) (kp_D (kq_4 _ _ Pw wc _) hD) hS (lv_sub hl [2, 3, 4, 5, 6] rfl)
  | some z =>
    obtain ⟨hc0, hpo⟩ := hu
    subst hc0
    have hP : va_P D kC ((Pw ++ ((am, .inr (6, fm)) :: wt)) ++ ((ao, .inl (D.1 23, 1, .inr (.inl (vp_updL f 0 (v z).toInt64)))) :: (wc' z))) _ := hP
    have hD : va_D (fun q => s.heap.size ≤ q) ((Pw ++ ((am, .inr (6, fm)) :: wt)) ++ ((ao, .inl (D.1 23, 1, .inr (.inl (vp_updL f 0 (v z).toInt64)))) :: (wc' z))) := hD
    refine lv_aload_n hx hb dL_law_333 rfl (lv_at hl 3 rfl) ?_
    refine lv_aload_n hx hb dL_law_334 rfl (lv_at hl 1 rfl) ?_
    refine lv_iload hx hb dL_law_335 (lv_at hl 5 rfl) ?_
    refine lv_iconst (v := nI 1) hx hb dL_law_337 (by decide) ?_
    refine kn_iadd hx hb dL_law_338 ?_
    refine kn_sld (i := i + 1) hx hb hX hbl hbA hS (by omega) (by omega) dL_law_339 ?_
    refine lv_i2l (v := (xs (i + 1)).toInt64) hx hb dL_law_340 rfl ?_
    refine lv_bipush (v := nI 32) hx hb dL_law_341 (by decide) ?_
    refine lv_lshl (v := ((xs (i + 1)).toInt64) <<< ((nI 32).toInt64 &&& 63)) hx hb dL_law_343 rfl ?_
    refine lv_aload_n hx hb dL_law_344 rfl (lv_at hl 1 rfl) ?_
    refine lv_iload hx hb dL_law_345 (lv_at hl 5 rfl) ?_
    refine lv_iconst (v := nI 2) hx hb dL_law_347 (by decide) ?_
    refine kn_iadd hx hb dL_law_348 ?_
    refine kn_sld (i := i + 2) hx hb hX hbl hbA hS (by omega) (by omega) dL_law_349 ?_
    refine lv_i2l (v := (xs (i + 2)).toInt64) hx hb dL_law_350 rfl ?_
    refine lv_ldc2 (v := 4294967295) hx hb hown hc9 dL_law_351 ?_
    refine lv_land hx hb dL_law_354 ?_
    refine lv_lor hx hb dL_law_355 ?_
    refine kt_l (v' := kLg (xs (i + 1)) (xs (i + 2))) rfl ?_
    refine lv_aload_n hx hb dL_law_356 rfl (lv_at hl 1 rfl) ?_
    refine lv_iload hx hb dL_law_357 (lv_at hl 5 rfl) ?_
    refine lv_iconst (v := nI 3) hx hb dL_law_359 (by decide) ?_
    refine kn_iadd hx hb dL_law_360 ?_
    refine kn_sld (i := i + 3) hx hb hX hbl hbA hS (by omega) (by omega) dL_law_361 ?_
    refine lv_i2l (v := (xs (i + 3)).toInt64) hx hb dL_law_362 rfl ?_
    refine lv_bipush (v := nI 32) hx hb dL_law_363 (by decide) ?_
    refine lv_lshl (v := ((xs (i + 3)).toInt64) <<< ((nI 32).toInt64 &&& 63)) hx hb dL_law_365 rfl ?_
    refine lv_aload_n hx hb dL_law_366 rfl (lv_at hl 1 rfl) ?_
    refine lv_iload hx hb dL_law_367 (lv_at hl 5 rfl) ?_
    refine lv_iconst (v := nI 4) hx hb dL_law_369 (by decide) ?_
    refine kn_iadd hx hb dL_law_370 ?_
    refine kn_sld (i := i + 4) hx hb hX hbl hbA hS (by omega) (by omega) dL_law_371 ?_
    refine lv_i2l (v := (xs (i + 4)).toInt64) hx hb dL_law_372 rfl ?_
    refine lv_ldc2 (v := 4294967295) hx hb hown hc9 dL_law_373 ?_
    refine lv_land hx hb dL_law_376 ?_
    refine lv_lor hx hb dL_law_377 ?_
    refine kt_l (v' := kLg (xs (i + 3)) (xs (i + 4))) rfl ?_
    refine kcVR (C := RX6) (As := [.long (kLg (xs (i + 1)) (xs (i + 2))), .long (kLg (xs (i + 3)) (xs (i + 4)))]) (rest := []) (wr := (ao, .inl (D.1 23, 1, .inr (.inl (vp_updL f 0 (v z).toInt64)))) :: (Pw ++ (wc' z))) (ws := ((am, .inr (6, fm)) :: wt)) ⟨hx, hb, hml, hown, hts⟩ hN (cwV 2 hts gL2_X6_place rfl hrm2.1 hrm2.2.1 (by decide +kernel) ⟨Nat.le_trans (Nat.succ_le_succ hrm2.2.2.1) (Nat.le_of_ble_eq_true rfl), Nat.le_trans (Nat.add_le_add_left hrm2.2.2.2 _) (Nat.le_of_ble_eq_true rfl)⟩) hK hE (kq_2 _ Pw (wc' z) _) hP hD hS hA 0 6 rfl rfl rfl rfl hl.1 rfl (Nat.le_of_ble_eq_true rfl) dL_law_378 ⟨hcl, hsl⟩ (fun u2 H locs hp2 hP hD hS => ?_)
    refine W.eq (g2 := F0 m 381 ls [.int (v2 u2)]) rfl ?_
    refine W.widen (k := cells + 5) (n := slots + 34) (Nat.le_refl _) (Nat.le_refl _) ?_
    refine lv_istore (lv' := [(6, .int (v2 u2)), (5, .int (nI 0)), (0, .ref b), (1, .ref ax), (2, .ref am), (3, .ref ao), (4, .int (nI i))]) hx hb dL_law_381 hl (by decide) rfl (fun ls hl => ?_)
    refine lv_aload_n hx hb dL_law_383 rfl (lv_at hl 4 rfl) ?_
    refine kcVR (C := RX6) (As := []) (rest := []) (wr := ((ao, .inl (D.1 23, 1, .inr (.inl (vp_updL f 0 (v z).toInt64)))) :: (Pw ++ (wc' z))) ++ wt' u2) (ws := [(am, .inr (6, fm' u2))]) ⟨hx, hb, hml, hown, hts⟩ (hT u2) (cwV 0 hts gL2_X6_thrown rfl rfl rfl (by decide +kernel) ⟨Nat.le_of_ble_eq_true rfl, Nat.le_of_ble_eq_true rfl⟩) hK hE (kq_3 ((ao, .inl (D.1 23, 1, .inr (.inl (vp_updL f 0 (v z).toInt64)))) :: (Pw ++ (wc' z))) (wt' u2) _) hP hD hS hA 0 6 rfl rfl rfl rfl hl.1 rfl (Nat.le_of_ble_eq_true rfl) dL_law_384 ⟨hcl, hsl⟩ (fun _ H locs _ hP hD hS => ?_)
    refine W.eq (g2 := F0 m 387 ls [.int (nI 0)]) rfl ?_
    refine W.widen (k := cells + 5) (n := slots + 34) (Nat.le_refl _) (Nat.le_refl _) ?_
    refine lv_iload hx hb dL_law_387 (lv_at hl 1 rfl) ?_
    refine lv_icmp_eq (tgt := 394) hx hb dL_law_389 (by decide) (fun _ => ?_) (fun c_389 => absurd rfl c_389)
    refine lv_iload hx hb dL_law_394 (lv_at hl 1 rfl) ?_
    refine kn_if_ne (tgt := 411) hx hb (by omega) dL_law_396 (by decide) (fun c_396 => absurd c_396 (Nat.lt_irrefl _)) (fun _ => ?_)
    refine lv_aload_n hx hb dL_law_399 rfl (lv_at hl 5 rfl) ?_
    refine lv_iconst (v := nI 0) hx hb dL_law_400 (by decide) ?_
    refine kn_lald hx hb hK hP 0 3 rfl rfl (i := 0) (by omega) (by decide) dL_law_401 ?_
    refine lv_iload hx hb dL_law_402 (lv_at hl 0 rfl) ?_
    refine lv_i2l (v := (v2 u2).toInt64) hx hb dL_law_404 rfl ?_
    refine W.lcmp hx hb dL_law_405 ?_
    refine lv_if_eq (tgt := 411) hx hb dL_law_406 (by decide) (fun _ => ?_) (fun c_406 => absurd ((lg_cmp_eq _ _).mpr ((k_uL _ _ _).trans (hans z u2 rfl hpo hp2))) c_406)
    refine lv_goto (tgt := 1589) hx hb dL_law_411 (by decide) ?_
    exact k0 rfl z hpo u2 _ _ ls hp2 (kp_P (kq_4 _ _ Pw (wc' z) _) hP) (kp_D (kq_4 _ _ Pw (wc' z) _) hD) hS (lv_sub hl [2, 3, 4, 5, 6] rfl)
set_option maxHeartbeats 4000000 in
set_option maxRecDepth 100000 in
theorem o_sign {p : Program} {l : Launch} {e : Env} {s : State} {m : MethodId} {below : List Frame} {meth : Method} {c : Code} {b L : Nat} {xs : Nat → Int32} {D : va_G} {Q : State → Prop} {H : Heap} {locs : List Loc} {cells slots : Nat} {ls : Array Slot} {S S2 : Type} (ax am ao i : Nat) (f : Nat → Int64) (Pw wc wt : va_W) (wc' : S → va_W) (wt' : S2 → va_W) (po : S → Prop) (po2 : S2 → Prop) (v : S → Int32) (v2 : S2 → Int32) (code mc ms q0 : Nat) (rm rm2 : Room) (fs fm : List Value) (fm' : S2 → List Value) (vd : Int32) (hvd : xs (i + 2) = 0 ∧ vd = nI 0 ∨ ¬ xs (i + 2) = 0 ∧ vd = nI 1)
    (h0 : kLaw p s m c b L xs D) (hi : i + 7 ≤ L) (hl : lv_has ls 8 [(0, .ref b), (1, .ref ax), (2, .ref am), (3, .ref ao), (4, .int (nI i))]) (he : wc[q0]? = some (ax, .inr (5, fs))) (hrm : rm.cells = mc ∧ rm.slots = ms ∧ rm.frames ≤ 11 ∧ rm.locals ≤ 340) (hm5 : mc ≤ 5 ∧ ms ≤ 34) (hrm2 : rm2.cells = 0 ∧ rm2.slots = 0 ∧ rm2.frames ≤ 11 ∧ rm2.locals ≤ 340) (hcd : code ≤ 3) (hcl : cells + 5 ≤ 603072) (hsl : slots + 34 ≤ 7190634)
    (hM : kX l yX5_sign wsX5_sign rm mc ms D [.ref ax, .int (xs (i + 1)), .int vd, .long (kLg (xs (i + 3)) (xs (i + 4)))] wc (kEx [kIae, kIse, kUoe] code) (fun u => some (.int (v u))) wc' po)
    (hN : kM l yX6_sign wsX6_sign rm2 0 0 D [.ref am, .int (xs (i + 1)), .int vd, .long (kLg (xs (i + 3)) (xs (i + 4)))] ((am, .inr (6, fm)) :: wt) (fun u => some (.int (v2 u))) (fun u => (am, .inr (6, fm' u)) :: wt' u) po2)
    (hT : ∀ u, kM (S := Unit) l yX6_thrown wsX6_thrown { frames := 7, cells := 0, slots := 0, locals := 100 } 0 0 D [.ref am] [(am, .inr (6, fm' u))] (fun _ => some (.int (nI code))) (fun _ => [(am, .inr (6, fm' u))]) (fun _ => True))
    (hans : ∀ z u, code = 0 → po z → po2 u → (v z).toInt64 = (v2 u).toInt64)
    (hP : va_P D kC ((ao, .inl (D.1 23, 1, .inr (.inl f))) :: (Pw ++ (wc ++ ((am, .inr (6, fm)) :: wt)))) H) (hD : va_D (fun q => s.heap.size ≤ q) ((ao, .inl (D.1 23, 1, .inr (.inl f))) :: (Pw ++ (wc ++ ((am, .inr (6, fm)) :: wt))))) (hS : va_S (fun q => s.heap.size ≤ q) s.heap H locs)
    (k0 : code = 0 → ∀ (z : S), po z → ∀ (u : S2) (H1 : Heap) (locs1 : List Loc) (ls1 : Array Slot), po2 u → va_P D kC ((ao, .inl (D.1 23, 1, .inr (.inl (vp_updL f 0 (v z).toInt64)))) :: (Pw ++ (wc' z ++ ((am, .inr (6, fm' u)) :: wt' u)))) H1 → va_D (fun q => s.heap.size ≤ q) ((ao, .inl (D.1 23, 1, .inr (.inl (vp_updL f 0 (v z).toInt64)))) :: (Pw ++ (wc' z ++ ((am, .inr (6, fm' u)) :: wt' u)))) → va_S (fun q => s.heap.size ≤ q) s.heap H1 locs1 → lv_has ls1 8 [(0, .ref b), (1, .ref ax), (2, .ref am), (3, .ref ao), (4, .int (nI i))] → W p l e room_1 s m #[Value.ref b] below meth c H1 locs1 (cells + 5) (slots + 34) Q (F0 m 1589 ls1 []))
    (k1 : 0 < code → ∀ (u : S2) (H1 : Heap) (locs1 : List Loc) (ls1 : Array Slot), po2 u → va_P D kC ((ao, .inl (D.1 23, 1, .inr (.inl f))) :: (Pw ++ (wc ++ ((am, .inr (6, fm' u)) :: wt' u)))) H1 → va_D (fun q => s.heap.size ≤ q) ((ao, .inl (D.1 23, 1, .inr (.inl f))) :: (Pw ++ (wc ++ ((am, .inr (6, fm' u)) :: wt' u)))) → va_S (fun q => s.heap.size ≤ q) s.heap H1 locs1 → lv_has ls1 8 [(0, .ref b), (1, .ref ax), (2, .ref am), (3, .ref ao), (4, .int (nI i))] → W p l e room_1 s m #[Value.ref b] below meth c H1 locs1 (cells + 5) (slots + 34) Q (F0 m 1589 ls1 []))
    : W p l e room_1 s m #[Value.ref b] below meth c H locs cells slots Q (F0 m 414 ls []) := by
  obtain ⟨hx, hb, hml, hown, hts, hX, hbl, hL9, hK, hE⟩ := h0
  have hA : ∀ q : Nat, s.heap.size ≤ q → (fun q => s.heap.size ≤ q) q := fun q h => h
  have hbA : ¬ (fun q => s.heap.size ≤ q) b := Nat.not_le.mpr hbl
  have hc9 := hts (.constantLong RL 100 (4294967295)) lw_c100
  have hW := w_sign l D ax ao (xs (i + 1)) (vd) (kLg (xs (i + 3)) (xs (i + 4))) f wc wc' po v code mc ms q0 rm fs he hrm hcd hM
  rcases hvd with ⟨hv1, rfl⟩ | ⟨hv1, rfl⟩
  · refine lv_aload_n hx hb dL_law_414 rfl (lv_at hl 1 rfl) ?_
    refine lv_aload_n hx hb dL_law_415 rfl (lv_at hl 0 rfl) ?_
    refine lv_iload hx hb dL_law_416 (lv_at hl 4 rfl) ?_
    refine lv_iconst (v := nI 1) hx hb dL_law_418 (by decide) ?_
    refine kn_iadd hx hb dL_law_419 ?_
    refine kn_sld (i := i + 1) hx hb hX hbl hbA hS (by omega) (by omega) dL_law_420 ?_
    refine lv_aload_n hx hb dL_law_421 rfl (lv_at hl 0 rfl) ?_
    refine lv_iload hx hb dL_law_422 (lv_at hl 4 rfl) ?_
    refine lv_iconst (v := nI 2) hx hb dL_law_424 (by decide) ?_
    refine kn_iadd hx hb dL_law_425 ?_
    refine kn_sld (i := i + 2) hx hb hX hbl hbA hS (by omega) (by omega) dL_law_426 ?_
    refine lv_if_eq (tgt := 434) hx hb dL_law_427 (by decide) (fun _ => ?_) (fun c_427 => absurd hv1 c_427)
    refine lv_iconst (v := nI 0) hx hb dL_law_434 (by decide) ?_
    refine lv_aload_n hx hb dL_law_435 rfl (lv_at hl 0 rfl) ?_
    refine lv_iload hx hb dL_law_436 (lv_at hl 4 rfl) ?_
    refine lv_iconst (v := nI 3) hx hb dL_law_438 (by decide) ?_
    refine kn_iadd hx hb dL_law_439 ?_
    refine kn_sld (i := i + 3) hx hb hX hbl hbA hS (by omega) (by omega) dL_law_440 ?_
    refine lv_i2l (v := (xs (i + 3)).toInt64) hx hb dL_law_441 rfl ?_
    refine lv_bipush (v := nI 32) hx hb dL_law_442 (by decide) ?_
    refine lv_lshl (v := ((xs (i + 3)).toInt64) <<< ((nI 32).toInt64 &&& 63)) hx hb dL_law_444 rfl ?_
    refine lv_aload_n hx hb dL_law_445 rfl (lv_at hl 0 rfl) ?_
    refine lv_iload hx hb dL_law_446 (lv_at hl 4 rfl) ?_
    refine lv_iconst (v := nI 4) hx hb dL_law_448 (by decide) ?_
    refine kn_iadd hx hb dL_law_449 ?_
    refine kn_sld (i := i + 4) hx hb hX hbl hbA hS (by omega) (by omega) dL_law_450 ?_
    refine lv_i2l (v := (xs (i + 4)).toInt64) hx hb dL_law_451 rfl ?_
    refine lv_ldc2 (v := 4294967295) hx hb hown hc9 dL_law_452 ?_
    refine lv_land hx hb dL_law_455 ?_
    refine lv_lor hx hb dL_law_456 ?_
    refine kt_l (v' := kLg (xs (i + 3)) (xs (i + 4))) rfl ?_
    refine lv_aload_n hx hb dL_law_457 rfl (lv_at hl 3 rfl) ?_
    refine kcSWR (As := [.ref ax, .int (xs (i + 1)), .int (nI 0), .long (kLg (xs (i + 3)) (xs (i + 4))), .ref ao]) (rest := []) (wr := (Pw ++ ((am, .inr (6, fm)) :: wt))) (ws := ((ao, .inl (D.1 23, 1, .inr (.inl f))) :: wc)) ⟨hx, hb, hml, hown, hts⟩ hW (vx_cwSW 5 hts gL2_L_sign rfl rfl rfl (by decide +kernel) ⟨Nat.le_of_ble_eq_true rfl, Nat.le_of_ble_eq_true rfl⟩) hK hE (kq_1 _ Pw wc _) hP hD hS hA rfl hl.1 rfl (Nat.le_of_ble_eq_true rfl) dL_law_458 ⟨by show cells + mc ≤ 603072; omega, by show slots + ms ≤ 7190634; omega⟩ (fun u H locs hu hP hD hS => ?_)
    refine W.eq (g2 := F0 m 461 ls [.int (nI code)]) rfl ?_
    refine W.widen (k := cells + 5) (n := slots + 34) (by omega) (by omega) ?_
    refine lv_istore (lv' := [(5, .int (nI code)), (0, .ref b), (1, .ref ax), (2, .ref am), (3, .ref ao), (4, .int (nI i))]) hx hb dL_law_461 hl (by decide) rfl (fun ls hl => ?_)
    cases u with
    | none =>
      have hu : 0 < code := hu
      have hP : va_P D kC ((Pw ++ ((am, .inr (6, fm)) :: wt)) ++ ((ao, .inl (D.1 23, 1, .inr (.inl f))) :: wc)) _ := hP
      have hD : va_D (fun q => s.heap.size ≤ q) ((Pw ++ ((am, .inr (6, fm)) :: wt)) ++ ((ao, .inl (D.1 23, 1, .inr (.inl f))) :: wc)) := hD
      refine lv_aload_n hx hb dL_law_463 rfl (lv_at hl 3 rfl) ?_
      refine lv_aload_n hx hb dL_law_464 rfl (lv_at hl 1 rfl) ?_
      refine lv_iload hx hb dL_law_465 (lv_at hl 5 rfl) ?_
      refine lv_iconst (v := nI 1) hx hb dL_law_467 (by decide) ?_
      refine kn_iadd hx hb dL_law_468 ?_
      refine kn_sld (i := i + 1) hx hb hX hbl hbA hS (by omega) (by omega) dL_law_469 ?_
      refine lv_aload_n hx hb dL_law_470 rfl (lv_at hl 1 rfl) ?_
      refine lv_iload hx hb dL_law_471 (lv_at hl 5 rfl) ?_
      refine lv_iconst (v := nI 2) hx hb dL_law_473 (by decide) ?_
      refine kn_iadd hx hb dL_law_474 ?_
      refine kn_sld (i := i + 2) hx hb hX hbl hbA hS (by omega) (by omega) dL_law_475 ?_
      refine lv_if_eq (tgt := 483) hx hb dL_law_476 (by decide) (fun _ => ?_) (fun c_476 => absurd hv1 c_476)
      refine lv_iconst (v := nI 0) hx hb dL_law_483 (by decide) ?_
      refine lv_aload_n hx hb dL_law_484 rfl (lv_at hl 1 rfl) ?_
      refine lv_iload hx hb dL_law_485 (lv_at hl 5 rfl) ?_
      refine lv_iconst (v := nI 3) hx hb dL_law_487 (by decide) ?_
      refine kn_iadd hx hb dL_law_488 ?_
      refine kn_sld (i := i + 3) hx hb hX hbl hbA hS (by omega) (by omega) dL_law_489 ?_
      refine lv_i2l (v := (xs (i + 3)).toInt64) hx hb dL_law_490 rfl ?_
      refine lv_bipush (v := nI 32) hx hb dL_law_491 (by decide) ?_
      refine lv_lshl (v := ((xs (i + 3)).toInt64) <<< ((nI 32).toInt64 &&& 63)) hx hb dL_law_493 rfl ?_
      refine lv_aload_n hx hb dL_law_494 rfl (lv_at hl 1 rfl) ?_
      refine lv_iload hx hb dL_law_495 (lv_at hl 5 rfl) ?_
      refine lv_iconst (v := nI 4) hx hb dL_law_497 (by decide) ?_
      refine kn_iadd hx hb dL_law_498 ?_
      refine kn_sld (i := i + 4) hx hb hX hbl hbA hS (by omega) (by omega) dL_law_499 ?_
      refine lv_i2l (v := (xs (i + 4)).toInt64) hx hb dL_law_500 rfl ?_
      refine lv_ldc2 (v := 4294967295) hx hb hown hc9 dL_law_501 ?_
      refine lv_land hx hb dL_law_504 ?_
      refine lv_lor hx hb dL_law_505 ?_
      refine kt_l (v' := kLg (xs (i + 3)) (xs (i + 4))) rfl ?_
      refine kcVR (C := RX6) (As := [.int (xs (i + 1)), .int (nI 0), .long (kLg (xs (i + 3)) (xs (i + 4)))]) (rest := []) (wr := (ao, .inl (D.1 23, 1, .inr (.inl f))) :: (Pw ++ wc)) (ws := ((am, .inr (6, fm)) :: wt)) ⟨hx, hb, hml, hown, hts⟩ hN (cwV 3 hts gL2_X6_sign rfl hrm2.1 hrm2.2.1 (by decide +kernel) ⟨Nat.le_trans (Nat.succ_le_succ hrm2.2.2.1) (Nat.le_of_ble_eq_true rfl), Nat.le_trans (Nat.add_le_add_left hrm2.2.2.2 _) (Nat.le_of_ble_eq_true rfl)⟩) hK hE (kq_2 _ Pw wc _) hP hD hS hA 0 6 rfl rfl rfl rfl hl.1 rfl (Nat.le_of_ble_eq_true rfl) dL_law_506 ⟨hcl, hsl⟩ (fun u2 H locs hp2 hP hD hS => ?_)
      refine W.eq (g2 := F0 m 509 ls [.int (v2 u2)]) rfl ?_
      refine W.widen (k := cells + 5) (n := slots + 34) (Nat.le_refl _) (Nat.le_refl _) ?_
      refine lv_istore (lv' := [(6, .int (v2 u2)), (5, .int (nI code)), (0, .ref b), (1, .ref ax), (2, .ref am), (3, .ref ao), (4, .int (nI i))]) hx hb dL_law_509 hl (by decide) rfl (fun ls hl => ?_)
      refine lv_aload_n hx hb dL_law_511 rfl (lv_at hl 4 rfl) ?_
      refine kcVR (C := RX6) (As := []) (rest := []) (wr := ((ao, .inl (D.1 23, 1, .inr (.inl f))) :: (Pw ++ wc)) ++ wt' u2) (ws := [(am, .inr (6, fm' u2))]) ⟨hx, hb, hml, hown, hts⟩ (hT u2) (cwV 0 hts gL2_X6_thrown rfl rfl rfl (by decide +kernel) ⟨Nat.le_of_ble_eq_true rfl, Nat.le_of_ble_eq_true rfl⟩) hK hE (kq_3 ((ao, .inl (D.1 23, 1, .inr (.inl f))) :: (Pw ++ wc)) (wt' u2) _) hP hD hS hA 0 6 rfl rfl rfl rfl hl.1 rfl (Nat.le_of_ble_eq_true rfl) dL_law_512 ⟨hcl, hsl⟩ (fun _ H locs _ hP hD hS => ?_)
      refine W.eq (g2 := F0 m 515 ls [.int (nI code)]) rfl ?_
      refine W.widen (k := cells + 5) (n := slots + 34) (Nat.le_refl _) (Nat.le_refl _) ?_
      refine lv_iload hx hb dL_law_515 (lv_at hl 1 rfl) ?_
      refine lv_icmp_eq (tgt := 522) hx hb dL_law_517 (by decide) (fun _ => ?_) (fun c_517 => absurd rfl c_517)
      refine lv_iload hx hb dL_law_522 (lv_at hl 1 rfl) ?_
      refine kn_if_ne (tgt := 539) hx hb (by omega) dL_law_524 (by decide) (fun _ => ?_) (fun c_524 => absurd hu (by omega))
      refine lv_goto (tgt := 1589) hx hb dL_law_539 (by decide) ?_
      exact k1 hu u2 _ _ ls hp2 (kp_P (kq_4 _ _ Pw wc _) hP) (kp_D (kq_4 _ _ Pw wc _) hD) hS (lv_sub hl [2, 3, 4, 5, 6] rfl)
    | some z =>
      obtain ⟨hc0, hpo⟩ := hu
      subst hc0
      have hP : va_P D kC ((Pw ++ ((am, .inr (6, fm)) :: wt)) ++ ((ao, .inl (D.1 23, 1, .inr (.inl (vp_updL f 0 (v z).toInt64)))) :: (wc' z))) _ := hP
      have hD : va_D (fun q => s.heap.size ≤ q) ((Pw ++ ((am, .inr (6, fm)) :: wt)) ++ ((ao, .inl (D.1 23, 1, .inr (.inl (vp_updL f 0 (v z).toInt64)))) :: (wc' z))) := hD
      refine lv_aload_n hx hb dL_law_463 rfl (lv_at hl 3 rfl) ?_
      refine lv_aload_n hx hb dL_law_464 rfl (lv_at hl 1 rfl) ?_
      refine lv_iload hx hb dL_law_465 (lv_at hl 5 rfl) ?_
      refine lv_iconst (v := nI 1) hx hb dL_law_467 (by decide) ?_
      refine kn_iadd hx hb dL_law_468 ?_
      refine kn_sld (i := i + 1) hx hb hX hbl hbA hS (by omega) (by omega) dL_law_469 ?_
      refine lv_aload_n hx hb dL_law_470 rfl (lv_at hl 1 rfl) ?_
      refine lv_iload hx hb dL_law_471 (lv_at hl 5 rfl) ?_
      refine lv_iconst (v := nI 2) hx hb dL_law_473 (by decide) ?_
      refine kn_iadd hx hb dL_law_474 ?_
      refine kn_sld (i := i + 2) hx hb hX hbl hbA hS (by omega) (by omega) dL_law_475 ?_
      refine lv_if_eq (tgt := 483) hx hb dL_law_476 (by decide) (fun _ => ?_) (fun c_476 => absurd hv1 c_476)
      refine lv_iconst (v := nI 0) hx hb dL_law_483 (by decide) ?_
      refine lv_aload_n hx hb dL_law_484 rfl (lv_at hl 1 rfl) ?_
      refine lv_iload hx hb dL_law_485 (lv_at hl 5 rfl) ?_
      refine lv_iconst (v := nI 3) hx hb dL_law_487 (by decide) ?_
      refine kn_iadd hx hb dL_law_488 ?_
      refine kn_sld (i := i + 3) hx hb hX hbl hbA hS (by omega) (by omega) dL_law_489 ?_
      refine lv_i2l (v := (xs (i + 3)).toInt64) hx hb dL_law_490 rfl ?_
      refine lv_bipush (v := nI 32) hx hb dL_law_491 (by decide) ?_
      refine lv_lshl (v := ((xs (i + 3)).toInt64) <<< ((nI 32).toInt64 &&& 63)) hx hb dL_law_493 rfl ?_
      refine lv_aload_n hx hb dL_law_494 rfl (lv_at hl 1 rfl) ?_
      refine lv_iload hx hb dL_law_495 (lv_at hl 5 rfl) ?_
      refine lv_iconst (v := nI 4) hx hb dL_law_497 (by decide) ?_
      refine kn_iadd hx hb dL_law_498 ?_
      refine kn_sld (i := i + 4) hx hb hX hbl hbA hS (by omega) (by omega) dL_law_499 ?_
      refine lv_i2l (v := (xs (i + 4)).toInt64) hx hb dL_law_500 rfl ?_
      refine lv_ldc2 (v := 4294967295) hx hb hown hc9 dL_law_501 ?_
      refine lv_land hx hb dL_law_504 ?_
      refine lv_lor hx hb dL_law_505 ?_
      refine kt_l (v' := kLg (xs (i + 3)) (xs (i + 4))) rfl ?_
      refine kcVR (C := RX6) (As := [.int (xs (i + 1)), .int (nI 0), .long (kLg (xs (i + 3)) (xs (i + 4)))]) (rest := []) (wr := (ao, .inl (D.1 23, 1, .inr (.inl (vp_updL f 0 (v z).toInt64)))) :: (Pw ++ (wc' z))) (ws := ((am, .inr (6, fm)) :: wt)) ⟨hx, hb, hml, hown, hts⟩ hN (cwV 3 hts gL2_X6_sign rfl hrm2.1 hrm2.2.1 (by decide +kernel) ⟨Nat.le_trans (Nat.succ_le_succ hrm2.2.2.1) (Nat.le_of_ble_eq_true rfl), Nat.le_trans (Nat.add_le_add_left hrm2.2.2.2 _) (Nat.le_of_ble_eq_true rfl)⟩) hK hE (kq_2 _ Pw (wc' z) _) hP hD hS hA 0 6 rfl rfl rfl rfl hl.1 rfl (Nat.le_of_ble_eq_true rfl) dL_law_506 ⟨hcl, hsl⟩ (fun u2 H locs hp2 hP hD hS => ?_)
      refine W.eq (g2 := F0 m 509 ls [.int (v2 u2)]) rfl ?_
      refine W.widen (k := cells + 5) (n := slots + 34) (Nat.le_refl _) (Nat.le_refl _) ?_
      refine lv_istore (lv' := [(6, .int (v2 u2)), (5, .int (nI 0)), (0, .ref b), (1, .ref ax), (2, .ref am), (3, .ref ao), (4, .int (nI i))]) hx hb dL_law_509 hl (by decide) rfl (fun ls hl => ?_)
      refine lv_aload_n hx hb dL_law_511 rfl (lv_at hl 4 rfl) ?_
      refine kcVR (C := RX6) (As := []) (rest := []) (wr := ((ao, .inl (D.1 23, 1, .inr (.inl (vp_updL f 0 (v z).toInt64)))) :: (Pw ++ (wc' z))) ++ wt' u2) (ws := [(am, .inr (6, fm' u2))]) ⟨hx, hb, hml, hown, hts⟩ (hT u2) (cwV 0 hts gL2_X6_thrown rfl rfl rfl (by decide +kernel) ⟨Nat.le_of_ble_eq_true rfl, Nat.le_of_ble_eq_true rfl⟩) hK hE (kq_3 ((ao, .inl (D.1 23, 1, .inr (.inl (vp_updL f 0 (v z).toInt64)))) :: (Pw ++ (wc' z))) (wt' u2) _) hP hD hS hA 0 6 rfl rfl rfl rfl hl.1 rfl (Nat.le_of_ble_eq_true rfl) dL_law_512 ⟨hcl, hsl⟩ (fun _ H locs _ hP hD hS => ?_)
      refine W.eq (g2 := F0 m 515 ls [.int (nI 0)]) rfl ?_
      refine W.widen (k := cells + 5) (n := slots + 34) (Nat.le_refl _) (Nat.le_refl _) ?_
      refine lv_iload hx hb dL_law_515 (lv_at hl 1 rfl) ?_
      refine lv_icmp_eq (tgt := 522) hx hb dL_law_517 (by decide) (fun _ => ?_) (fun c_517 => absurd rfl c_517)
      refine lv_iload hx hb dL_law_522 (lv_at hl 1 rfl) ?_
      refine kn_if_ne (tgt := 539) hx hb (by omega) dL_law_524 (by decide) (fun c_524 => absurd c_524 (Nat.lt_irrefl _)) (fun _ => ?_)
      refine lv_aload_n hx hb dL_law_527 rfl (lv_at hl 5 rfl) ?_
      refine lv_iconst (v := nI 0) hx hb dL_law_528 (by decide) ?_
      refine kn_lald hx hb hK hP 0 3 rfl rfl (i := 0) (by omega) (by decide) dL_law_529 ?_
      refine lv_iload hx hb dL_law_530 (lv_at hl 0 rfl) ?_
      refine lv_i2l (v := (v2 u2).toInt64) hx hb dL_law_532 rfl ?_
      refine W.lcmp hx hb dL_law_533 ?_
      refine lv_if_eq (tgt := 539) hx hb dL_law_534 (by decide) (fun _ => ?_) (fun c_534 => absurd ((lg_cmp_eq _ _).mpr ((k_uL _ _ _).trans (hans z u2 rfl hpo hp2))) c_534)
      refine lv_goto (tgt := 1589) hx hb dL_law_539 (by decide) ?_
      exact k0 rfl z hpo u2 _ _ ls hp2 (kp_P (kq_4 _ _ Pw (wc' z) _) hP) (kp_D (kq_4 _ _ Pw (wc' z) _) hD) hS (lv_sub hl [2, 3, 4, 5, 6] rfl)
  · refine lv_aload_n hx hb dL_law_414 rfl (lv_at hl 1 rfl) ?_
    refine lv_aload_n hx hb dL_law_415 rfl (lv_at hl 0 rfl) ?_
    refine lv_iload hx hb dL_law_416 (lv_at hl 4 rfl) ?_
    refine lv_iconst (v := nI 1) hx hb dL_law_418 (by decide) ?_
    refine kn_iadd hx hb dL_law_419 ?_
    refine kn_sld (i := i + 1) hx hb hX hbl hbA hS (by omega) (by omega) dL_law_420 ?_
    refine lv_aload_n hx hb dL_law_421 rfl (lv_at hl 0 rfl) ?_
    refine lv_iload hx hb dL_law_422 (lv_at hl 4 rfl) ?_
    refine lv_iconst (v := nI 2) hx hb dL_law_424 (by decide) ?_
    refine kn_iadd hx hb dL_law_425 ?_
    refine kn_sld (i := i + 2) hx hb hX hbl hbA hS (by omega) (by omega) dL_law_426 ?_
    refine lv_if_eq (tgt := 434) hx hb dL_law_427 (by decide) (fun c_427 => absurd c_427 hv1) (fun _ => ?_)
    refine lv_iconst (v := nI 1) hx hb dL_law_430 (by decide) ?_
    refine lv_goto (tgt := 435) hx hb dL_law_431 (by decide) ?_
    refine lv_aload_n hx hb dL_law_435 rfl (lv_at hl 0 rfl) ?_
    refine lv_iload hx hb dL_law_436 (lv_at hl 4 rfl) ?_
    refine lv_iconst (v := nI 3) hx hb dL_law_438 (by decide) ?_
    refine kn_iadd hx hb dL_law_439 ?_
    refine kn_sld (i := i + 3) hx hb hX hbl hbA hS (by omega) (by omega) dL_law_440 ?_
    refine lv_i2l (v := (xs (i + 3)).toInt64) hx hb dL_law_441 rfl ?_
    refine lv_bipush (v := nI 32) hx hb dL_law_442 (by decide) ?_
    refine lv_lshl (v := ((xs (i + 3)).toInt64) <<< ((nI 32).toInt64 &&& 63)) hx hb dL_law_444 rfl ?_
    refine lv_aload_n hx hb dL_law_445 rfl (lv_at hl 0 rfl) ?_
    refine lv_iload hx hb dL_law_446 (lv_at hl 4 rfl) ?_
    refine lv_iconst (v := nI 4) hx hb dL_law_448 (by decide) ?_
    refine kn_iadd hx hb dL_law_449 ?_
    refine kn_sld (i := i + 4) hx hb hX hbl hbA hS (by omega) (by omega) dL_law_450 ?_
    refine lv_i2l (v := (xs (i + 4)).toInt64) hx hb dL_law_451 rfl ?_
    refine lv_ldc2 (v := 4294967295) hx hb hown hc9 dL_law_452 ?_
    refine lv_land hx hb dL_law_455 ?_
    refine lv_lor hx hb dL_law_456 ?_
    refine kt_l (v' := kLg (xs (i + 3)) (xs (i + 4))) rfl ?_
    refine lv_aload_n hx hb dL_law_457 rfl (lv_at hl 3 rfl) ?_
    refine kcSWR (As := [.ref ax, .int (xs (i + 1)), .int (nI 1), .long (kLg (xs (i + 3)) (xs (i + 4))), .ref ao]) (rest := []) (wr := (Pw ++ ((am, .inr (6, fm)) :: wt))) (ws := ((ao, .inl (D.1 23, 1, .inr (.inl f))) :: wc)) ⟨hx, hb, hml, hown, hts⟩ hW (vx_cwSW 5 hts gL2_L_sign rfl rfl rfl (by decide +kernel) ⟨Nat.le_of_ble_eq_true rfl, Nat.le_of_ble_eq_true rfl⟩) hK hE (kq_1 _ Pw wc _) hP hD hS hA rfl hl.1 rfl (Nat.le_of_ble_eq_true rfl) dL_law_458 ⟨by show cells + mc ≤ 603072; omega, by show slots + ms ≤ 7190634; omega⟩ (fun u H locs hu hP hD hS => ?_)
    refine W.eq (g2 := F0 m 461 ls [.int (nI code)]) rfl ?_
    refine W.widen (k := cells + 5) (n := slots + 34) (by omega) (by omega) ?_
    refine lv_istore (lv' := [(5, .int (nI code)), (0, .ref b), (1, .ref ax), (2, .ref am), (3, .ref ao), (4, .int (nI i))]) hx hb dL_law_461 hl (by decide) rfl (fun ls hl => ?_)
    cases u with
    | none =>
      have hu : 0 < code := hu
      have hP : va_P D kC ((Pw ++ ((am, .inr (6, fm)) :: wt)) ++ ((ao, .inl (D.1 23, 1, .inr (.inl f))) :: wc)) _ := hP
      have hD : va_D (fun q => s.heap.size ≤ q) ((Pw ++ ((am, .inr (6, fm)) :: wt)) ++ ((ao, .inl (D.1 23, 1, .inr (.inl f))) :: wc)) := hD
      refine lv_aload_n hx hb dL_law_463 rfl (lv_at hl 3 rfl) ?_
      refine lv_aload_n hx hb dL_law_464 rfl (lv_at hl 1 rfl) ?_
      refine lv_iload hx hb dL_law_465 (lv_at hl 5 rfl) ?_
      refine lv_iconst (v := nI 1) hx hb dL_law_467 (by decide) ?_
      refine kn_iadd hx hb dL_law_468 ?_
      refine kn_sld (i := i + 1) hx hb hX hbl hbA hS (by omega) (by omega) dL_law_469 ?_
      refine lv_aload_n hx hb dL_law_470 rfl (lv_at hl 1 rfl) ?_
      refine lv_iload hx hb dL_law_471 (lv_at hl 5 rfl) ?_
      refine lv_iconst (v := nI 2) hx hb dL_law_473 (by decide) ?_
      refine kn_iadd hx hb dL_law_474 ?_
      refine kn_sld (i := i + 2) hx hb hX hbl hbA hS (by omega) (by omega) dL_law_475 ?_
      refine lv_if_eq (tgt := 483) hx hb dL_law_476 (by decide) (fun c_476 => absurd c_476 hv1) (fun _ => ?_)
      refine lv_iconst (v := nI 1) hx hb dL_law_479 (by decide) ?_
      refine lv_goto (tgt := 484) hx hb dL_law_480 (by decide) ?_
      refine lv_aload_n hx hb dL_law_484 rfl (lv_at hl 1 rfl) ?_
      refine lv_iload hx hb dL_law_485 (lv_at hl 5 rfl) ?_
      refine lv_iconst (v := nI 3) hx hb dL_law_487 (by decide) ?_
      refine kn_iadd hx hb dL_law_488 ?_
      refine kn_sld (i := i + 3) hx hb hX hbl hbA hS (by omega) (by omega) dL_law_489 ?_
      refine lv_i2l (v := (xs (i + 3)).toInt64) hx hb dL_law_490 rfl ?_
      refine lv_bipush (v := nI 32) hx hb dL_law_491 (by decide) ?_
      refine lv_lshl (v := ((xs (i + 3)).toInt64) <<< ((nI 32).toInt64 &&& 63)) hx hb dL_law_493 rfl ?_
      refine lv_aload_n hx hb dL_law_494 rfl (lv_at hl 1 rfl) ?_
      refine lv_iload hx hb dL_law_495 (lv_at hl 5 rfl) ?_
      refine lv_iconst (v := nI 4) hx hb dL_law_497 (by decide) ?_
      refine kn_iadd hx hb dL_law_498 ?_
      refine kn_sld (i := i + 4) hx hb hX hbl hbA hS (by omega) (by omega) dL_law_499 ?_
      refine lv_i2l (v := (xs (i + 4)).toInt64) hx hb dL_law_500 rfl ?_
      refine lv_ldc2 (v := 4294967295) hx hb hown hc9 dL_law_501 ?_
      refine lv_land hx hb dL_law_504 ?_
      refine lv_lor hx hb dL_law_505 ?_
      refine kt_l (v' := kLg (xs (i + 3)) (xs (i + 4))) rfl ?_
      refine kcVR (C := RX6) (As := [.int (xs (i + 1)), .int (nI 1), .long (kLg (xs (i + 3)) (xs (i + 4)))]) (rest := []) (wr := (ao, .inl (D.1 23, 1, .inr (.inl f))) :: (Pw ++ wc)) (ws := ((am, .inr (6, fm)) :: wt)) ⟨hx, hb, hml, hown, hts⟩ hN (cwV 3 hts gL2_X6_sign rfl hrm2.1 hrm2.2.1 (by decide +kernel) ⟨Nat.le_trans (Nat.succ_le_succ hrm2.2.2.1) (Nat.le_of_ble_eq_true rfl), Nat.le_trans (Nat.add_le_add_left hrm2.2.2.2 _) (Nat.le_of_ble_eq_true rfl)⟩) hK hE (kq_2 _ Pw wc _) hP hD hS hA 0 6 rfl rfl rfl rfl hl.1 rfl (Nat.le_of_ble_eq_true rfl) dL_law_506 ⟨hcl, hsl⟩ (fun u2 H locs hp2 hP hD hS => ?_)
      refine W.eq (g2 := F0 m 509 ls [.int (v2 u2)]) rfl ?_
      refine W.widen (k := cells + 5) (n := slots + 34) (Nat.le_refl _) (Nat.le_refl _) ?_
      refine lv_istore (lv' := [(6, .int (v2 u2)), (5, .int (nI code)), (0, .ref b), (1, .ref ax), (2, .ref am), (3, .ref ao), (4, .int (nI i))]) hx hb dL_law_509 hl (by decide) rfl (fun ls hl => ?_)
      refine lv_aload_n hx hb dL_law_511 rfl (lv_at hl 4 rfl) ?_
      refine kcVR (C := RX6) (As := []) (rest := []) (wr := ((ao, .inl (D.1 23, 1, .inr (.inl f))) :: (Pw ++ wc)) ++ wt' u2) (ws := [(am, .inr (6, fm' u2))]) ⟨hx, hb, hml, hown, hts⟩ (hT u2) (cwV 0 hts gL2_X6_thrown rfl rfl rfl (by decide +kernel) ⟨Nat.le_of_ble_eq_true rfl, Nat.le_of_ble_eq_true rfl⟩) hK hE (kq_3 ((ao, .inl (D.1 23, 1, .inr (.inl f))) :: (Pw ++ wc)) (wt' u2) _) hP hD hS hA 0 6 rfl rfl rfl rfl hl.1 rfl (Nat.le_of_ble_eq_true rfl) dL_law_512 ⟨hcl, hsl⟩ (fun _ H locs _ hP hD hS => ?_)
      refine W.eq (g2 := F0 m 515 ls [.int (nI code)]) rfl ?_
      refine W.widen (k := cells + 5) (n := slots + 34) (Nat.le_refl _) (Nat.le_refl _) ?_
      refine lv_iload hx hb dL_law_515 (lv_at hl 1 rfl) ?_
      refine lv_icmp_eq (tgt := 522) hx hb dL_law_517 (by decide) (fun _ => ?_) (fun c_517 => absurd rfl c_517)
      refine lv_iload hx hb dL_law_522 (lv_at hl 1 rfl) ?_
      refine kn_if_ne (tgt := 539) hx hb (by omega) dL_law_524 (by decide) (fun _ => ?_) (fun c_524 => absurd hu (by omega))
      refine lv_goto (tgt := 1589) hx hb dL_law_539 (by decide) ?_
      exact k1 hu u2 _ _ ls hp2 (kp_P (kq_4 _ _ Pw wc _) hP) (kp_D (kq_4 _ _ Pw wc _) hD) hS (lv_sub hl [2, 3, 4, 5, 6] rfl)
    | some z =>
      obtain ⟨hc0, hpo⟩ := hu
      subst hc0
      have hP : va_P D kC ((Pw ++ ((am, .inr (6, fm)) :: wt)) ++ ((ao, .inl (D.1 23, 1, .inr (.inl (vp_updL f 0 (v z).toInt64)))) :: (wc' z))) _ := hP
      have hD : va_D (fun q => s.heap.size ≤ q) ((Pw ++ ((am, .inr (6, fm)) :: wt)) ++ ((ao, .inl (D.1 23, 1, .inr (.inl (vp_updL f 0 (v z).toInt64)))) :: (wc' z))) := hD
      refine lv_aload_n hx hb dL_law_463 rfl (lv_at hl 3 rfl) ?_
      refine lv_aload_n hx hb dL_law_464 rfl (lv_at hl 1 rfl) ?_
      refine lv_iload hx hb dL_law_465 (lv_at hl 5 rfl) ?_
      refine lv_iconst (v := nI 1) hx hb dL_law_467 (by decide) ?_
      refine kn_iadd hx hb dL_law_468 ?_
      refine kn_sld (i := i + 1) hx hb hX hbl hbA hS (by omega) (by omega) dL_law_469 ?_
      refine lv_aload_n hx hb dL_law_470 rfl (lv_at hl 1 rfl) ?_
      refine lv_iload hx hb dL_law_471 (lv_at hl 5 rfl) ?_
      refine lv_iconst (v := nI 2) hx hb dL_law_473 (by decide) ?_
      refine kn_iadd hx hb dL_law_474 ?_
      refine kn_sld (i := i + 2) hx hb hX hbl hbA hS (by omega) (by omega) dL_law_475 ?_
      refine lv_if_eq (tgt := 483) hx hb dL_law_476 (by decide) (fun c_476 => absurd c_476 hv1) (fun _ => ?_)
      refine lv_iconst (v := nI 1) hx hb dL_law_479 (by decide) ?_
      refine lv_goto (tgt := 484) hx hb dL_law_480 (by decide) ?_
      refine lv_aload_n hx hb dL_law_484 rfl (lv_at hl 1 rfl) ?_
      refine lv_iload hx hb dL_law_485 (lv_at hl 5 rfl) ?_
      refine lv_iconst (v := nI 3) hx hb dL_law_487 (by decide) ?_
      refine kn_iadd hx hb dL_law_488 ?_
      refine kn_sld (i := i + 3) hx hb hX hbl hbA hS (by omega) (by omega) dL_law_489 ?_
      refine lv_i2l (v := (xs (i + 3)).toInt64) hx hb dL_law_490 rfl ?_
      refine lv_bipush (v := nI 32) hx hb dL_law_491 (by decide) ?_
      refine lv_lshl (v := ((xs (i + 3)).toInt64) <<< ((nI 32).toInt64 &&& 63)) hx hb dL_law_493 rfl ?_
      refine lv_aload_n hx hb dL_law_494 rfl (lv_at hl 1 rfl) ?_
      refine lv_iload hx hb dL_law_495 (lv_at hl 5 rfl) ?_
      refine lv_iconst (v := nI 4) hx hb dL_law_497 (by decide) ?_
      refine kn_iadd hx hb dL_law_498 ?_
      refine kn_sld (i := i + 4) hx hb hX hbl hbA hS (by omega) (by omega) dL_law_499 ?_
      refine lv_i2l (v := (xs (i + 4)).toInt64) hx hb dL_law_500 rfl ?_
      refine lv_ldc2 (v := 4294967295) hx hb hown hc9 dL_law_501 ?_
      refine lv_land hx hb dL_law_504 ?_
      refine lv_lor hx hb dL_law_505 ?_
      refine kt_l (v' := kLg (xs (i + 3)) (xs (i + 4))) rfl ?_
      refine kcVR (C := RX6) (As := [.int (xs (i + 1)), .int (nI 1), .long (kLg (xs (i + 3)) (xs (i + 4)))]) (rest := []) (wr := (ao, .inl (D.1 23, 1, .inr (.inl (vp_updL f 0 (v z).toInt64)))) :: (Pw ++ (wc' z))) (ws := ((am, .inr (6, fm)) :: wt)) ⟨hx, hb, hml, hown, hts⟩ hN (cwV 3 hts gL2_X6_sign rfl hrm2.1 hrm2.2.1 (by decide +kernel) ⟨Nat.le_trans (Nat.succ_le_succ hrm2.2.2.1) (Nat.le_of_ble_eq_true rfl), Nat.le_trans (Nat.add_le_add_left hrm2.2.2.2 _) (Nat.le_of_ble_eq_true rfl)⟩) hK hE (kq_2 _ Pw (wc' z) _) hP hD hS hA 0 6 rfl rfl rfl rfl hl.1 rfl (Nat.le_of_ble_eq_true rfl) dL_law_506 ⟨hcl, hsl⟩ (fun u2 H locs hp2 hP hD hS => ?_)
      refine W.eq (g2 := F0 m 509 ls [.int (v2 u2)]) rfl ?_
      refine W.widen (k := cells + 5) (n := slots + 34) (Nat.le_refl _) (Nat.le_refl _) ?_
      refine lv_istore (lv' := [(6, .int (v2 u2)), (5, .int (nI 0)), (0, .ref b), (1, .ref ax), (2, .ref am), (3, .ref ao), (4, .int (nI i))]) hx hb dL_law_509 hl (by decide) rfl (fun ls hl => ?_)
      refine lv_aload_n hx hb dL_law_511 rfl (lv_at hl 4 rfl) ?_
      refine kcVR (C := RX6) (As := []) (rest := []) (wr := ((ao, .inl (D.1 23, 1, .inr (.inl (vp_updL f 0 (v z).toInt64)))) :: (Pw ++ (wc' z))) ++ wt' u2) (ws := [(am, .inr (6, fm' u2))]) ⟨hx, hb, hml, hown, hts⟩ (hT u2) (cwV 0 hts gL2_X6_thrown rfl rfl rfl (by decide +kernel) ⟨Nat.le_of_ble_eq_true rfl, Nat.le_of_ble_eq_true rfl⟩) hK hE (kq_3 ((ao, .inl (D.1 23, 1, .inr (.inl (vp_updL f 0 (v z).toInt64)))) :: (Pw ++ (wc' z))) (wt' u2) _) hP hD hS hA 0 6 rfl rfl rfl rfl hl.1 rfl (Nat.le_of_ble_eq_true rfl) dL_law_512 ⟨hcl, hsl⟩ (fun _ H locs _ hP hD hS => ?_)
      refine W.eq (g2 := F0 m 515 ls [.int (nI 0)]) rfl ?_
      refine W.widen (k := cells + 5) (n := slots + 34) (Nat.le_refl _) (Nat.le_refl _) ?_
      refine lv_iload hx hb dL_law_515 (lv_at hl 1 rfl) ?_
      refine lv_icmp_eq (tgt := 522) hx hb dL_law_517 (by decide) (fun _ => ?_) (fun c_517 => absurd rfl c_517)
      refine lv_iload hx hb dL_law_522 (lv_at hl 1 rfl) ?_
      refine kn_if_ne (tgt := 539) hx hb (by omega) dL_law_524 (by decide) (fun c_524 => absurd c_524 (Nat.lt_irrefl _)) (fun _ => ?_)
      refine lv_aload_n hx hb dL_law_527 rfl (lv_at hl 5 rfl) ?_
      refine lv_iconst (v := nI 0) hx hb dL_law_528 (by decide) ?_
      refine kn_lald hx hb hK hP 0 3 rfl rfl (i := 0) (by omega) (by decide) dL_law_529 ?_
      refine lv_iload hx hb dL_law_530 (lv_at hl 0 rfl) ?_
      refine lv_i2l (v := (v2 u2).toInt64) hx hb dL_law_532 rfl ?_
      refine W.lcmp hx hb dL_law_533 ?_
      refine lv_if_eq (tgt := 539) hx hb dL_law_534 (by decide) (fun _ => ?_) (fun c_534 => absurd ((lg_cmp_eq _ _).mpr ((k_uL _ _ _).trans (hans z u2 rfl hpo hp2))) c_534)
      refine lv_goto (tgt := 1589) hx hb dL_law_539 (by decide) ?_
      exact k0 rfl z hpo u2 _ _ ls hp2 (kp_P (kq_4 _ _ Pw (wc' z) _) hP) (kp_D (kq_4 _ _ Pw (wc' z) _) hD) hS (lv_sub hl [2, 3, 4, 5, 6] rfl)
set_option maxHeartbeats 4000000 in
set_option maxRecDepth 100000 in
theorem o_holds {p : Program} {l : Launch} {e : Env} {s : State} {m : MethodId} {below : List Frame} {meth : Method} {c : Code} {b L : Nat} {xs : Nat → Int32} {D : va_G} {Q : State → Prop} {H : Heap} {locs : List Loc} {cells slots : Nat} {ls : Array Slot} {S S2 : Type} (ax am ao i : Nat) (f : Nat → Int64) (Pw wc wt : va_W) (wc' : S → va_W) (wt' : S2 → va_W) (po : S → Prop) (po2 : S2 → Prop) (v : S → Int32) (v2 : S2 → Int32) (code mc ms q0 : Nat) (rm rm2 : Room) (fs fm : List Value) (fm' : S2 → List Value)
    (h0 : kLaw p s m c b L xs D) (hi : i + 7 ≤ L) (hl : lv_has ls 8 [(0, .ref b), (1, .ref ax), (2, .ref am), (3, .ref ao), (4, .int (nI i))]) (he : wc[q0]? = some (ax, .inr (5, fs))) (hrm : rm.cells = mc ∧ rm.slots = ms ∧ rm.frames ≤ 11 ∧ rm.locals ≤ 340) (hm5 : mc ≤ 5 ∧ ms ≤ 34) (hrm2 : rm2.cells = 0 ∧ rm2.slots = 0 ∧ rm2.frames ≤ 11 ∧ rm2.locals ≤ 340) (hcd : code ≤ 1) (hcl : cells + 5 ≤ 603072) (hsl : slots + 34 ≤ 7190634)
    (hM : kX l yX5_holds wsX5_holds3 rm mc ms D [.ref ax, .int (xs (i + 1))] wc (kEx [kNse] code) (fun u => some (.int (v u))) wc' po)
    (hN : kM l yX6_holds wsX6_holds rm2 0 0 D [.ref am, .int (xs (i + 1))] ((am, .inr (6, fm)) :: wt) (fun u => some (.int (v2 u))) (fun u => (am, .inr (6, fm' u)) :: wt' u) po2)
    (hT : ∀ u, kM (S := Unit) l yX6_thrown wsX6_thrown { frames := 7, cells := 0, slots := 0, locals := 100 } 0 0 D [.ref am] [(am, .inr (6, fm' u))] (fun _ => some (.int (nI code))) (fun _ => [(am, .inr (6, fm' u))]) (fun _ => True))
    (hans : ∀ z u, code = 0 → po z → po2 u → (v z).toInt64 = (v2 u).toInt64)
    (hP : va_P D kC ((ao, .inl (D.1 23, 1, .inr (.inl f))) :: (Pw ++ (wc ++ ((am, .inr (6, fm)) :: wt)))) H) (hD : va_D (fun q => s.heap.size ≤ q) ((ao, .inl (D.1 23, 1, .inr (.inl f))) :: (Pw ++ (wc ++ ((am, .inr (6, fm)) :: wt))))) (hS : va_S (fun q => s.heap.size ≤ q) s.heap H locs)
    (k0 : code = 0 → ∀ (z : S), po z → ∀ (u : S2) (H1 : Heap) (locs1 : List Loc) (ls1 : Array Slot), po2 u → va_P D kC ((ao, .inl (D.1 23, 1, .inr (.inl (vp_updL f 0 (v z).toInt64)))) :: (Pw ++ (wc' z ++ ((am, .inr (6, fm' u)) :: wt' u)))) H1 → va_D (fun q => s.heap.size ≤ q) ((ao, .inl (D.1 23, 1, .inr (.inl (vp_updL f 0 (v z).toInt64)))) :: (Pw ++ (wc' z ++ ((am, .inr (6, fm' u)) :: wt' u)))) → va_S (fun q => s.heap.size ≤ q) s.heap H1 locs1 → lv_has ls1 8 [(0, .ref b), (1, .ref ax), (2, .ref am), (3, .ref ao), (4, .int (nI i))] → W p l e room_1 s m #[Value.ref b] below meth c H1 locs1 (cells + 5) (slots + 34) Q (F0 m 1589 ls1 []))
    (k1 : 0 < code → ∀ (u : S2) (H1 : Heap) (locs1 : List Loc) (ls1 : Array Slot), po2 u → va_P D kC ((ao, .inl (D.1 23, 1, .inr (.inl f))) :: (Pw ++ (wc ++ ((am, .inr (6, fm' u)) :: wt' u)))) H1 → va_D (fun q => s.heap.size ≤ q) ((ao, .inl (D.1 23, 1, .inr (.inl f))) :: (Pw ++ (wc ++ ((am, .inr (6, fm' u)) :: wt' u)))) → va_S (fun q => s.heap.size ≤ q) s.heap H1 locs1 → lv_has ls1 8 [(0, .ref b), (1, .ref ax), (2, .ref am), (3, .ref ao), (4, .int (nI i))] → W p l e room_1 s m #[Value.ref b] below meth c H1 locs1 (cells + 5) (slots + 34) Q (F0 m 1589 ls1 []))
    : W p l e room_1 s m #[Value.ref b] below meth c H locs cells slots Q (F0 m 542 ls []) := by
  obtain ⟨hx, hb, hml, hown, hts, hX, hbl, hL9, hK, hE⟩ := h0
  have hA : ∀ q : Nat, s.heap.size ≤ q → (fun q => s.heap.size ≤ q) q := fun q h => h
  have hbA : ¬ (fun q => s.heap.size ≤ q) b := Nat.not_le.mpr hbl
  have hc9 := hts (.constantLong RL 100 (4294967295)) lw_c100
  have hW := w_holds3 l D ax ao (xs (i + 1)) f wc wc' po v code mc ms q0 rm fs he hrm hcd hM
  refine lv_aload_n hx hb dL_law_542 rfl (lv_at hl 1 rfl) ?_
  refine lv_aload_n hx hb dL_law_543 rfl (lv_at hl 0 rfl) ?_
  refine lv_iload hx hb dL_law_544 (lv_at hl 4 rfl) ?_
  refine lv_iconst (v := nI 1) hx hb dL_law_546 (by decide) ?_
  refine kn_iadd hx hb dL_law_547 ?_
  refine kn_sld (i := i + 1) hx hb hX hbl hbA hS (by omega) (by omega) dL_law_548 ?_
  refine lv_aload_n hx hb dL_law_549 rfl (lv_at hl 3 rfl) ?_
  refine kcSWR (As := [.ref ax, .int (xs (i + 1)), .ref ao]) (rest := []) (wr := (Pw ++ ((am, .inr (6, fm)) :: wt))) (ws := ((ao, .inl (D.1 23, 1, .inr (.inl f))) :: wc)) ⟨hx, hb, hml, hown, hts⟩ hW (vx_cwSW 3 hts gL2_L_holds rfl rfl rfl (by decide +kernel) ⟨Nat.le_of_ble_eq_true rfl, Nat.le_of_ble_eq_true rfl⟩) hK hE (kq_1 _ Pw wc _) hP hD hS hA rfl hl.1 rfl (Nat.le_of_ble_eq_true rfl) dL_law_550 ⟨by show cells + mc ≤ 603072; omega, by show slots + ms ≤ 7190634; omega⟩ (fun u H locs hu hP hD hS => ?_)
  refine W.eq (g2 := F0 m 553 ls [.int (nI code)]) rfl ?_
  refine W.widen (k := cells + 5) (n := slots + 34) (by omega) (by omega) ?_
  refine lv_istore (lv' := [(5, .int (nI code)), (0, .ref b), (1, .ref ax), (2, .ref am), (3, .ref ao), (4, .int (nI i))]) hx hb dL_law_553 hl (by decide) rfl (fun ls hl => ?_)
  cases u with
  | none =>
    have hu : 0 < code := hu
    have hP : va_P D kC ((Pw ++ ((am, .inr (6, fm)) :: wt)) ++ ((ao, .inl (D.1 23, 1, .inr (.inl f))) :: wc)) _ := hP
    have hD : va_D (fun q => s.heap.size ≤ q) ((Pw ++ ((am, .inr (6, fm)) :: wt)) ++ ((ao, .inl (D.1 23, 1, .inr (.inl f))) :: wc)) := hD
    refine lv_aload_n hx hb dL_law_555 rfl (lv_at hl 3 rfl) ?_
    refine lv_aload_n hx hb dL_law_556 rfl (lv_at hl 1 rfl) ?_
    refine lv_iload hx hb dL_law_557 (lv_at hl 5 rfl) ?_
    refine lv_iconst (v := nI 1) hx hb dL_law_559 (by decide) ?_
    refine kn_iadd hx hb dL_law_560 ?_
    refine kn_sld (i := i + 1) hx hb hX hbl hbA hS (by omega) (by omega) dL_law_561 ?_
    refine kcVR (C := RX6) (As := [.int (xs (i + 1))]) (rest := []) (wr := (ao, .inl (D.1 23, 1, .inr (.inl f))) :: (Pw ++ wc)) (ws := ((am, .inr (6, fm)) :: wt)) ⟨hx, hb, hml, hown, hts⟩ hN (cwV 1 hts gL2_X6_holds rfl hrm2.1 hrm2.2.1 (by decide +kernel) ⟨Nat.le_trans (Nat.succ_le_succ hrm2.2.2.1) (Nat.le_of_ble_eq_true rfl), Nat.le_trans (Nat.add_le_add_left hrm2.2.2.2 _) (Nat.le_of_ble_eq_true rfl)⟩) hK hE (kq_2 _ Pw wc _) hP hD hS hA 0 6 rfl rfl rfl rfl hl.1 rfl (Nat.le_of_ble_eq_true rfl) dL_law_562 ⟨hcl, hsl⟩ (fun u2 H locs hp2 hP hD hS => ?_)
    refine W.eq (g2 := F0 m 565 ls [.int (v2 u2)]) rfl ?_
    refine W.widen (k := cells + 5) (n := slots + 34) (Nat.le_refl _) (Nat.le_refl _) ?_
    refine lv_istore (lv' := [(6, .int (v2 u2)), (5, .int (nI code)), (0, .ref b), (1, .ref ax), (2, .ref am), (3, .ref ao), (4, .int (nI i))]) hx hb dL_law_565 hl (by decide) rfl (fun ls hl => ?_)
    refine lv_aload_n hx hb dL_law_567 rfl (lv_at hl 4 rfl) ?_
    refine kcVR (C := RX6) (As := []) (rest := []) (wr := ((ao, .inl (D.1 23, 1, .inr (.inl f))) :: (Pw ++ wc)) ++ wt' u2) (ws := [(am, .inr (6, fm' u2))]) ⟨hx, hb, hml, hown, hts⟩ (hT u2) (cwV 0 hts gL2_X6_thrown rfl rfl rfl (by decide +kernel) ⟨Nat.le_of_ble_eq_true rfl, Nat.le_of_ble_eq_true rfl⟩) hK hE (kq_3 ((ao, .inl (D.1 23, 1, .inr (.inl f))) :: (Pw ++ wc)) (wt' u2) _) hP hD hS hA 0 6 rfl rfl rfl rfl hl.1 rfl (Nat.le_of_ble_eq_true rfl) dL_law_568 ⟨hcl, hsl⟩ (fun _ H locs _ hP hD hS => ?_)
    refine W.eq (g2 := F0 m 571 ls [.int (nI code)]) rfl ?_
    refine W.widen (k := cells + 5) (n := slots + 34) (Nat.le_refl _) (Nat.le_refl _) ?_
    refine lv_iload hx hb dL_law_571 (lv_at hl 1 rfl) ?_
    refine lv_icmp_eq (tgt := 578) hx hb dL_law_573 (by decide) (fun _ => ?_) (fun c_573 => absurd rfl c_573)
    refine lv_iload hx hb dL_law_578 (lv_at hl 1 rfl) ?_
    refine kn_if_ne (tgt := 595) hx hb (by omega) dL_law_580 (by decide) (fun _ => ?_) (fun c_580 => absurd hu (by omega))
    refine lv_goto (tgt := 1589) hx hb dL_law_595 (by decide) ?_
    exact k1 hu u2 _ _ ls hp2 (kp_P (kq_4 _ _ Pw wc _) hP) (kp_D (kq_4 _ _ Pw wc _) hD) hS (lv_sub hl [2, 3, 4, 5, 6] rfl)
  | some z =>
    obtain ⟨hc0, hpo⟩ := hu
    subst hc0
    have hP : va_P D kC ((Pw ++ ((am, .inr (6, fm)) :: wt)) ++ ((ao, .inl (D.1 23, 1, .inr (.inl (vp_updL f 0 (v z).toInt64)))) :: (wc' z))) _ := hP
    have hD : va_D (fun q => s.heap.size ≤ q) ((Pw ++ ((am, .inr (6, fm)) :: wt)) ++ ((ao, .inl (D.1 23, 1, .inr (.inl (vp_updL f 0 (v z).toInt64)))) :: (wc' z))) := hD
    refine lv_aload_n hx hb dL_law_555 rfl (lv_at hl 3 rfl) ?_
    refine lv_aload_n hx hb dL_law_556 rfl (lv_at hl 1 rfl) ?_
    refine lv_iload hx hb dL_law_557 (lv_at hl 5 rfl) ?_
    refine lv_iconst (v := nI 1) hx hb dL_law_559 (by decide) ?_
    refine kn_iadd hx hb dL_law_560 ?_
    refine kn_sld (i := i + 1) hx hb hX hbl hbA hS (by omega) (by omega) dL_law_561 ?_
    refine kcVR (C := RX6) (As := [.int (xs (i + 1))]) (rest := []) (wr := (ao, .inl (D.1 23, 1, .inr (.inl (vp_updL f 0 (v z).toInt64)))) :: (Pw ++ (wc' z))) (ws := ((am, .inr (6, fm)) :: wt)) ⟨hx, hb, hml, hown, hts⟩ hN (cwV 1 hts gL2_X6_holds rfl hrm2.1 hrm2.2.1 (by decide +kernel) ⟨Nat.le_trans (Nat.succ_le_succ hrm2.2.2.1) (Nat.le_of_ble_eq_true rfl), Nat.le_trans (Nat.add_le_add_left hrm2.2.2.2 _) (Nat.le_of_ble_eq_true rfl)⟩) hK hE (kq_2 _ Pw (wc' z) _) hP hD hS hA 0 6 rfl rfl rfl rfl hl.1 rfl (Nat.le_of_ble_eq_true rfl) dL_law_562 ⟨hcl, hsl⟩ (fun u2 H locs hp2 hP hD hS => ?_)
    refine W.eq (g2 := F0 m 565 ls [.int (v2 u2)]) rfl ?_
    refine W.widen (k := cells + 5) (n := slots + 34) (Nat.le_refl _) (Nat.le_refl _) ?_
    refine lv_istore (lv' := [(6, .int (v2 u2)), (5, .int (nI 0)), (0, .ref b), (1, .ref ax), (2, .ref am), (3, .ref ao), (4, .int (nI i))]) hx hb dL_law_565 hl (by decide) rfl (fun ls hl => ?_)
    refine lv_aload_n hx hb dL_law_567 rfl (lv_at hl 4 rfl) ?_
    refine kcVR (C := RX6) (As := []) (rest := []) (wr := ((ao, .inl (D.1 23, 1, .inr (.inl (vp_updL f 0 (v z).toInt64)))) :: (Pw ++ (wc' z))) ++ wt' u2) (ws := [(am, .inr (6, fm' u2))]) ⟨hx, hb, hml, hown, hts⟩ (hT u2) (cwV 0 hts gL2_X6_thrown rfl rfl rfl (by decide +kernel) ⟨Nat.le_of_ble_eq_true rfl, Nat.le_of_ble_eq_true rfl⟩) hK hE (kq_3 ((ao, .inl (D.1 23, 1, .inr (.inl (vp_updL f 0 (v z).toInt64)))) :: (Pw ++ (wc' z))) (wt' u2) _) hP hD hS hA 0 6 rfl rfl rfl rfl hl.1 rfl (Nat.le_of_ble_eq_true rfl) dL_law_568 ⟨hcl, hsl⟩ (fun _ H locs _ hP hD hS => ?_)
    refine W.eq (g2 := F0 m 571 ls [.int (nI 0)]) rfl ?_
    refine W.widen (k := cells + 5) (n := slots + 34) (Nat.le_refl _) (Nat.le_refl _) ?_
    refine lv_iload hx hb dL_law_571 (lv_at hl 1 rfl) ?_
    refine lv_icmp_eq (tgt := 578) hx hb dL_law_573 (by decide) (fun _ => ?_) (fun c_573 => absurd rfl c_573)
    refine lv_iload hx hb dL_law_578 (lv_at hl 1 rfl) ?_
    refine kn_if_ne (tgt := 595) hx hb (by omega) dL_law_580 (by decide) (fun c_580 => absurd c_580 (Nat.lt_irrefl _)) (fun _ => ?_)
    refine lv_aload_n hx hb dL_law_583 rfl (lv_at hl 5 rfl) ?_
    refine lv_iconst (v := nI 0) hx hb dL_law_584 (by decide) ?_
    refine kn_lald hx hb hK hP 0 3 rfl rfl (i := 0) (by omega) (by decide) dL_law_585 ?_
    refine lv_iload hx hb dL_law_586 (lv_at hl 0 rfl) ?_
    refine lv_i2l (v := (v2 u2).toInt64) hx hb dL_law_588 rfl ?_
    refine W.lcmp hx hb dL_law_589 ?_
    refine lv_if_eq (tgt := 595) hx hb dL_law_590 (by decide) (fun _ => ?_) (fun c_590 => absurd ((lg_cmp_eq _ _).mpr ((k_uL _ _ _).trans (hans z u2 rfl hpo hp2))) c_590)
    refine lv_goto (tgt := 1589) hx hb dL_law_595 (by decide) ?_
    exact k0 rfl z hpo u2 _ _ ls hp2 (kp_P (kq_4 _ _ Pw (wc' z) _) hP) (kp_D (kq_4 _ _ Pw (wc' z) _) hD) hS (lv_sub hl [2, 3, 4, 5, 6] rfl)
set_option maxHeartbeats 4000000 in
set_option maxRecDepth 100000 in
theorem o_span {p : Program} {l : Launch} {e : Env} {s : State} {m : MethodId} {below : List Frame} {meth : Method} {c : Code} {b L : Nat} {xs : Nat → Int32} {D : va_G} {Q : State → Prop} {H : Heap} {locs : List Loc} {cells slots : Nat} {ls : Array Slot} {S S2 : Type} (ax am ao i : Nat) (f : Nat → Int64) (Pw wc wt : va_W) (wc' : S → va_W) (wt' : S2 → va_W) (po : S → Prop) (po2 : S2 → Prop) (v : S → Int64) (v2 : S2 → Int64) (code mc ms q0 : Nat) (rm rm2 : Room) (fs fm : List Value) (fm' : S2 → List Value)
    (h0 : kLaw p s m c b L xs D) (hi : i + 7 ≤ L) (hl : lv_has ls 8 [(0, .ref b), (1, .ref ax), (2, .ref am), (3, .ref ao), (4, .int (nI i))]) (he : wc[q0]? = some (ax, .inr (5, fs))) (hrm : rm.cells = mc ∧ rm.slots = ms ∧ rm.frames ≤ 11 ∧ rm.locals ≤ 340) (hm5 : mc ≤ 5 ∧ ms ≤ 34) (hrm2 : rm2.cells = 0 ∧ rm2.slots = 0 ∧ rm2.frames ≤ 11 ∧ rm2.locals ≤ 340) (hcd : code ≤ 2) (hcl : cells + 5 ≤ 603072) (hsl : slots + 34 ≤ 7190634)
    (hM : kX l yX5_span wsX5_span3 rm mc ms D [.ref ax, .int (xs (i + 1)), .int (xs (i + 2)), .int (xs (i + 3))] wc (kEx [kNse, kIob] code) (fun u => some (.long (v u))) wc' po)
    (hN : kM l yX6_span wsX6_span rm2 0 0 D [.ref am, .int (xs (i + 1)), .int (xs (i + 2)), .int (xs (i + 3))] ((am, .inr (6, fm)) :: wt) (fun u => some (.long (v2 u))) (fun u => (am, .inr (6, fm' u)) :: wt' u) po2)
    (hT : ∀ u, kM (S := Unit) l yX6_thrown wsX6_thrown { frames := 7, cells := 0, slots := 0, locals := 100 } 0 0 D [.ref am] [(am, .inr (6, fm' u))] (fun _ => some (.int (nI code))) (fun _ => [(am, .inr (6, fm' u))]) (fun _ => True))
    (hans : ∀ z u, code = 0 → po z → po2 u → v z = v2 u)
    (hP : va_P D kC ((ao, .inl (D.1 23, 1, .inr (.inl f))) :: (Pw ++ (wc ++ ((am, .inr (6, fm)) :: wt)))) H) (hD : va_D (fun q => s.heap.size ≤ q) ((ao, .inl (D.1 23, 1, .inr (.inl f))) :: (Pw ++ (wc ++ ((am, .inr (6, fm)) :: wt))))) (hS : va_S (fun q => s.heap.size ≤ q) s.heap H locs)
    (k0 : code = 0 → ∀ (z : S), po z → ∀ (u : S2) (H1 : Heap) (locs1 : List Loc) (ls1 : Array Slot), po2 u → va_P D kC ((ao, .inl (D.1 23, 1, .inr (.inl (vp_updL f 0 (v z))))) :: (Pw ++ (wc' z ++ ((am, .inr (6, fm' u)) :: wt' u)))) H1 → va_D (fun q => s.heap.size ≤ q) ((ao, .inl (D.1 23, 1, .inr (.inl (vp_updL f 0 (v z))))) :: (Pw ++ (wc' z ++ ((am, .inr (6, fm' u)) :: wt' u)))) → va_S (fun q => s.heap.size ≤ q) s.heap H1 locs1 → lv_has ls1 8 [(0, .ref b), (1, .ref ax), (2, .ref am), (3, .ref ao), (4, .int (nI i))] → W p l e room_1 s m #[Value.ref b] below meth c H1 locs1 (cells + 5) (slots + 34) Q (F0 m 1589 ls1 []))
    (k1 : 0 < code → ∀ (u : S2) (H1 : Heap) (locs1 : List Loc) (ls1 : Array Slot), po2 u → va_P D kC ((ao, .inl (D.1 23, 1, .inr (.inl f))) :: (Pw ++ (wc ++ ((am, .inr (6, fm' u)) :: wt' u)))) H1 → va_D (fun q => s.heap.size ≤ q) ((ao, .inl (D.1 23, 1, .inr (.inl f))) :: (Pw ++ (wc ++ ((am, .inr (6, fm' u)) :: wt' u)))) → va_S (fun q => s.heap.size ≤ q) s.heap H1 locs1 → lv_has ls1 8 [(0, .ref b), (1, .ref ax), (2, .ref am), (3, .ref ao), (4, .int (nI i))] → W p l e room_1 s m #[Value.ref b] below meth c H1 locs1 (cells + 5) (slots + 34) Q (F0 m 1589 ls1 []))
    : W p l e room_1 s m #[Value.ref b] below meth c H locs cells slots Q (F0 m 598 ls []) := by
  obtain ⟨hx, hb, hml, hown, hts, hX, hbl, hL9, hK, hE⟩ := h0
  have hA : ∀ q : Nat, s.heap.size ≤ q → (fun q => s.heap.size ≤ q) q := fun q h => h
  have hbA : ¬ (fun q => s.heap.size ≤ q) b := Nat.not_le.mpr hbl
  have hc9 := hts (.constantLong RL 100 (4294967295)) lw_c100
  have hW := w_span3 l D ax ao (xs (i + 1)) (xs (i + 2)) (xs (i + 3)) f wc wc' po v code mc ms q0 rm fs he hrm hcd hM
  refine lv_aload_n hx hb dL_law_598 rfl (lv_at hl 1 rfl) ?_
  refine lv_aload_n hx hb dL_law_599 rfl (lv_at hl 0 rfl) ?_
  refine lv_iload hx hb dL_law_600 (lv_at hl 4 rfl) ?_
  refine lv_iconst (v := nI 1) hx hb dL_law_602 (by decide) ?_
  refine kn_iadd hx hb dL_law_603 ?_
  refine kn_sld (i := i + 1) hx hb hX hbl hbA hS (by omega) (by omega) dL_law_604 ?_
  refine lv_aload_n hx hb dL_law_605 rfl (lv_at hl 0 rfl) ?_
  refine lv_iload hx hb dL_law_606 (lv_at hl 4 rfl) ?_
  refine lv_iconst (v := nI 2) hx hb dL_law_608 (by decide) ?_
  refine kn_iadd hx hb dL_law_609 ?_
  refine kn_sld (i := i + 2) hx hb hX hbl hbA hS (by omega) (by omega) dL_law_610 ?_
  refine lv_aload_n hx hb dL_law_611 rfl (lv_at hl 0 rfl) ?_
  refine lv_iload hx hb dL_law_612 (lv_at hl 4 rfl) ?_
  refine lv_iconst (v := nI 3) hx hb dL_law_614 (by decide) ?_
  refine kn_iadd hx hb dL_law_615 ?_
  refine kn_sld (i := i + 3) hx hb hX hbl hbA hS (by omega) (by omega) dL_law_616 ?_
  refine lv_aload_n hx hb dL_law_617 rfl (lv_at hl 3 rfl) ?_
  refine kcSWR (As := [.ref ax, .int (xs (i + 1)), .int (xs (i + 2)), .int (xs (i + 3)), .ref ao]) (rest := []) (wr := (Pw ++ ((am, .inr (6, fm)) :: wt))) (ws := ((ao, .inl (D.1 23, 1, .inr (.inl f))) :: wc)) ⟨hx, hb, hml, hown, hts⟩ hW (vx_cwSW 5 hts gL2_L_span rfl rfl rfl (by decide +kernel) ⟨Nat.le_of_ble_eq_true rfl, Nat.le_of_ble_eq_true rfl⟩) hK hE (kq_1 _ Pw wc _) hP hD hS hA rfl hl.1 rfl (Nat.le_of_ble_eq_true rfl) dL_law_618 ⟨by show cells + mc ≤ 603072; omega, by show slots + ms ≤ 7190634; omega⟩ (fun u H locs hu hP hD hS => ?_)
  refine W.eq (g2 := F0 m 621 ls [.int (nI code)]) rfl ?_
  refine W.widen (k := cells + 5) (n := slots + 34) (by omega) (by omega) ?_
  refine lv_istore (lv' := [(5, .int (nI code)), (0, .ref b), (1, .ref ax), (2, .ref am), (3, .ref ao), (4, .int (nI i))]) hx hb dL_law_621 hl (by decide) rfl (fun ls hl => ?_)
  cases u with
  | none =>
    have hu : 0 < code := hu
    have hP : va_P D kC ((Pw ++ ((am, .inr (6, fm)) :: wt)) ++ ((ao, .inl (D.1 23, 1, .inr (.inl f))) :: wc)) _ := hP
    have hD : va_D (fun q => s.heap.size ≤ q) ((Pw ++ ((am, .inr (6, fm)) :: wt)) ++ ((ao, .inl (D.1 23, 1, .inr (.inl f))) :: wc)) := hD
    refine lv_aload_n hx hb dL_law_623 rfl (lv_at hl 3 rfl) ?_
    refine lv_aload_n hx hb dL_law_624 rfl (lv_at hl 1 rfl) ?_
    refine lv_iload hx hb dL_law_625 (lv_at hl 5 rfl) ?_
    refine lv_iconst (v := nI 1) hx hb dL_law_627 (by decide) ?_
    refine kn_iadd hx hb dL_law_628 ?_
    refine kn_sld (i := i + 1) hx hb hX hbl hbA hS (by omega) (by omega) dL_law_629 ?_
    refine lv_aload_n hx hb dL_law_630 rfl (lv_at hl 1 rfl) ?_
    refine lv_iload hx hb dL_law_631 (lv_at hl 5 rfl) ?_
    refine lv_iconst (v := nI 2) hx hb dL_law_633 (by decide) ?_
    refine kn_iadd hx hb dL_law_634 ?_
    refine kn_sld (i := i + 2) hx hb hX hbl hbA hS (by omega) (by omega) dL_law_635 ?_
    refine lv_aload_n hx hb dL_law_636 rfl (lv_at hl 1 rfl) ?_
    refine lv_iload hx hb dL_law_637 (lv_at hl 5 rfl) ?_
    refine lv_iconst (v := nI 3) hx hb dL_law_639 (by decide) ?_
    refine kn_iadd hx hb dL_law_640 ?_
    refine kn_sld (i := i + 3) hx hb hX hbl hbA hS (by omega) (by omega) dL_law_641 ?_
    refine kcVR (C := RX6) (As := [.int (xs (i + 1)), .int (xs (i + 2)), .int (xs (i + 3))]) (rest := []) (wr := (ao, .inl (D.1 23, 1, .inr (.inl f))) :: (Pw ++ wc)) (ws := ((am, .inr (6, fm)) :: wt)) ⟨hx, hb, hml, hown, hts⟩ hN (cwV 3 hts gL2_X6_span rfl hrm2.1 hrm2.2.1 (by decide +kernel) ⟨Nat.le_trans (Nat.succ_le_succ hrm2.2.2.1) (Nat.le_of_ble_eq_true rfl), Nat.le_trans (Nat.add_le_add_left hrm2.2.2.2 _) (Nat.le_of_ble_eq_true rfl)⟩) hK hE (kq_2 _ Pw wc _) hP hD hS hA 0 6 rfl rfl rfl rfl hl.1 rfl (Nat.le_of_ble_eq_true rfl) dL_law_642 ⟨hcl, hsl⟩ (fun u2 H locs hp2 hP hD hS => ?_)
    refine W.eq (g2 := F0 m 645 ls [.long (v2 u2)]) rfl ?_
    refine W.widen (k := cells + 5) (n := slots + 34) (Nat.le_refl _) (Nat.le_refl _) ?_
    refine lv_lstore (lv' := [(6, .long (v2 u2)), (5, .int (nI code)), (0, .ref b), (1, .ref ax), (2, .ref am), (3, .ref ao), (4, .int (nI i))]) hx hb dL_law_645 hl (by decide) rfl (fun ls hl => ?_)
    refine lv_aload_n hx hb dL_law_647 rfl (lv_at hl 4 rfl) ?_
    refine kcVR (C := RX6) (As := []) (rest := []) (wr := ((ao, .inl (D.1 23, 1, .inr (.inl f))) :: (Pw ++ wc)) ++ wt' u2) (ws := [(am, .inr (6, fm' u2))]) ⟨hx, hb, hml, hown, hts⟩ (hT u2) (cwV 0 hts gL2_X6_thrown rfl rfl rfl (by decide +kernel) ⟨Nat.le_of_ble_eq_true rfl, Nat.le_of_ble_eq_true rfl⟩) hK hE (kq_3 ((ao, .inl (D.1 23, 1, .inr (.inl f))) :: (Pw ++ wc)) (wt' u2) _) hP hD hS hA 0 6 rfl rfl rfl rfl hl.1 rfl (Nat.le_of_ble_eq_true rfl) dL_law_648 ⟨hcl, hsl⟩ (fun _ H locs _ hP hD hS => ?_)
    refine W.eq (g2 := F0 m 651 ls [.int (nI code)]) rfl ?_
    refine W.widen (k := cells + 5) (n := slots + 34) (Nat.le_refl _) (Nat.le_refl _) ?_
    refine lv_iload hx hb dL_law_651 (lv_at hl 1 rfl) ?_
    refine lv_icmp_eq (tgt := 658) hx hb dL_law_653 (by decide) (fun _ => ?_) (fun c_653 => absurd rfl c_653)
    refine lv_iload hx hb dL_law_658 (lv_at hl 1 rfl) ?_
    refine kn_if_ne (tgt := 674) hx hb (by omega) dL_law_660 (by decide) (fun _ => ?_) (fun c_660 => absurd hu (by omega))
    refine lv_goto (tgt := 1589) hx hb dL_law_674 (by decide) ?_
    exact k1 hu u2 _ _ ls hp2 (kp_P (kq_4 _ _ Pw wc _) hP) (kp_D (kq_4 _ _ Pw wc _) hD) hS (lv_sub hl [2, 3, 4, 5, 6] rfl)
  | some z =>
    obtain ⟨hc0, hpo⟩ := hu
    subst hc0
    have hP : va_P D kC ((Pw ++ ((am, .inr (6, fm)) :: wt)) ++ ((ao, .inl (D.1 23, 1, .inr (.inl (vp_updL f 0 (v z))))) :: (wc' z))) _ := hP
    have hD : va_D (fun q => s.heap.size ≤ q) ((Pw ++ ((am, .inr (6, fm)) :: wt)) ++ ((ao, .inl (D.1 23, 1, .inr (.inl (vp_updL f 0 (v z))))) :: (wc' z))) := hD
    refine lv_aload_n hx hb dL_law_623 rfl (lv_at hl 3 rfl) ?_
    refine lv_aload_n hx hb dL_law_624 rfl (lv_at hl 1 rfl) ?_
    refine lv_iload hx hb dL_law_625 (lv_at hl 5 rfl) ?_
    refine lv_iconst (v := nI 1) hx hb dL_law_627 (by decide) ?_
    refine kn_iadd hx hb dL_law_628 ?_
    refine kn_sld (i := i + 1) hx hb hX hbl hbA hS (by omega) (by omega) dL_law_629 ?_
    refine lv_aload_n hx hb dL_law_630 rfl (lv_at hl 1 rfl) ?_
    refine lv_iload hx hb dL_law_631 (lv_at hl 5 rfl) ?_
    refine lv_iconst (v := nI 2) hx hb dL_law_633 (by decide) ?_
    refine kn_iadd hx hb dL_law_634 ?_
    refine kn_sld (i := i + 2) hx hb hX hbl hbA hS (by omega) (by omega) dL_law_635 ?_
    refine lv_aload_n hx hb dL_law_636 rfl (lv_at hl 1 rfl) ?_
    refine lv_iload hx hb dL_law_637 (lv_at hl 5 rfl) ?_
    refine lv_iconst (v := nI 3) hx hb dL_law_639 (by decide) ?_
    refine kn_iadd hx hb dL_law_640 ?_
    refine kn_sld (i := i + 3) hx hb hX hbl hbA hS (by omega) (by omega) dL_law_641 ?_
    refine kcVR (C := RX6) (As := [.int (xs (i + 1)), .int (xs (i + 2)), .int (xs (i + 3))]) (rest := []) (wr := (ao, .inl (D.1 23, 1, .inr (.inl (vp_updL f 0 (v z))))) :: (Pw ++ (wc' z))) (ws := ((am, .inr (6, fm)) :: wt)) ⟨hx, hb, hml, hown, hts⟩ hN (cwV 3 hts gL2_X6_span rfl hrm2.1 hrm2.2.1 (by decide +kernel) ⟨Nat.le_trans (Nat.succ_le_succ hrm2.2.2.1) (Nat.le_of_ble_eq_true rfl), Nat.le_trans (Nat.add_le_add_left hrm2.2.2.2 _) (Nat.le_of_ble_eq_true rfl)⟩) hK hE (kq_2 _ Pw (wc' z) _) hP hD hS hA 0 6 rfl rfl rfl rfl hl.1 rfl (Nat.le_of_ble_eq_true rfl) dL_law_642 ⟨hcl, hsl⟩ (fun u2 H locs hp2 hP hD hS => ?_)
    refine W.eq (g2 := F0 m 645 ls [.long (v2 u2)]) rfl ?_
    refine W.widen (k := cells + 5) (n := slots + 34) (Nat.le_refl _) (Nat.le_refl _) ?_
    refine lv_lstore (lv' := [(6, .long (v2 u2)), (5, .int (nI 0)), (0, .ref b), (1, .ref ax), (2, .ref am), (3, .ref ao), (4, .int (nI i))]) hx hb dL_law_645 hl (by decide) rfl (fun ls hl => ?_)
    refine lv_aload_n hx hb dL_law_647 rfl (lv_at hl 4 rfl) ?_
    refine kcVR (C := RX6) (As := []) (rest := []) (wr := ((ao, .inl (D.1 23, 1, .inr (.inl (vp_updL f 0 (v z))))) :: (Pw ++ (wc' z))) ++ wt' u2) (ws := [(am, .inr (6, fm' u2))]) ⟨hx, hb, hml, hown, hts⟩ (hT u2) (cwV 0 hts gL2_X6_thrown rfl rfl rfl (by decide +kernel) ⟨Nat.le_of_ble_eq_true rfl, Nat.le_of_ble_eq_true rfl⟩) hK hE (kq_3 ((ao, .inl (D.1 23, 1, .inr (.inl (vp_updL f 0 (v z))))) :: (Pw ++ (wc' z))) (wt' u2) _) hP hD hS hA 0 6 rfl rfl rfl rfl hl.1 rfl (Nat.le_of_ble_eq_true rfl) dL_law_648 ⟨hcl, hsl⟩ (fun _ H locs _ hP hD hS => ?_)
    refine W.eq (g2 := F0 m 651 ls [.int (nI 0)]) rfl ?_
    refine W.widen (k := cells + 5) (n := slots + 34) (Nat.le_refl _) (Nat.le_refl _) ?_
    refine lv_iload hx hb dL_law_651 (lv_at hl 1 rfl) ?_
    refine lv_icmp_eq (tgt := 658) hx hb dL_law_653 (by decide) (fun _ => ?_) (fun c_653 => absurd rfl c_653)
    refine lv_iload hx hb dL_law_658 (lv_at hl 1 rfl) ?_
    refine kn_if_ne (tgt := 674) hx hb (by omega) dL_law_660 (by decide) (fun c_660 => absurd c_660 (Nat.lt_irrefl _)) (fun _ => ?_)
    refine lv_aload_n hx hb dL_law_663 rfl (lv_at hl 5 rfl) ?_
    refine lv_iconst (v := nI 0) hx hb dL_law_664 (by decide) ?_
    refine kn_lald hx hb hK hP 0 3 rfl rfl (i := 0) (by omega) (by decide) dL_law_665 ?_
    refine lv_lload hx hb dL_law_666 (lv_at hl 0 rfl) ?_
    refine W.lcmp hx hb dL_law_668 ?_
    refine lv_if_eq (tgt := 674) hx hb dL_law_669 (by decide) (fun _ => ?_) (fun c_669 => absurd ((lg_cmp_eq _ _).mpr ((k_uL _ _ _).trans (hans z u2 rfl hpo hp2))) c_669)
    refine lv_goto (tgt := 1589) hx hb dL_law_674 (by decide) ?_
    exact k0 rfl z hpo u2 _ _ ls hp2 (kp_P (kq_4 _ _ Pw (wc' z) _) hP) (kp_D (kq_4 _ _ Pw (wc' z) _) hD) hS (lv_sub hl [2, 3, 4, 5, 6] rfl)
