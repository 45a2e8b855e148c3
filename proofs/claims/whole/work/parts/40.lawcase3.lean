/-! ===== the cases of the law ===== -/
set_option maxHeartbeats 4000000 in
set_option maxRecDepth 100000 in
theorem o_since {p : Program} {l : Launch} {e : Env} {s : State} {m : MethodId} {below : List Frame} {meth : Method} {c : Code} {b L : Nat} {xs : Nat → Int32} {D : va_G} {Q : State → Prop} {H : Heap} {locs : List Loc} {cells slots : Nat} {ls : Array Slot} {S S2 : Type} (ax am ao i : Nat) (f : Nat → Int64) (Pw wc wt : va_W) (wc' : S → va_W) (wt' : S2 → va_W) (po : S → Prop) (po2 : S2 → Prop) (v : S → Int32) (v2 : S2 → Int32) (code mc ms q0 : Nat) (rm rm2 : Room) (fs fm : List Value) (fm' : S2 → List Value)
    (h0 : kLaw p s m c b L xs D) (hi : i + 7 ≤ L) (hl : lv_has ls 8 [(0, .ref b), (1, .ref ax), (2, .ref am), (3, .ref ao), (4, .int (nI i))]) (he : wc[q0]? = some (ax, .inr (5, fs))) (hrm : rm.cells = mc ∧ rm.slots = ms ∧ rm.frames ≤ 11 ∧ rm.locals ≤ 340) (hm5 : mc ≤ 5 ∧ ms ≤ 34) (hrm2 : rm2.cells = 0 ∧ rm2.slots = 0 ∧ rm2.frames ≤ 11 ∧ rm2.locals ≤ 340) (hcd : code ≤ 2) (hcl : cells + 5 ≤ 603072) (hsl : slots + 34 ≤ 7190634)
    (hM : kX l yX5_since wsX5_since3 rm mc ms D [.ref ax, .int (xs (i + 1)), .int (xs (i + 2)), .int (xs (i + 3))] wc (kEx [kNse, kIob] code) (fun u => some (.int (v u))) wc' po)
    (hN : kM l yX6_since wsX6_since rm2 0 0 D [.ref am, .int (xs (i + 1)), .int (xs (i + 2)), .int (xs (i + 3))] ((am, .inr (6, fm)) :: wt) (fun u => some (.int (v2 u))) (fun u => (am, .inr (6, fm' u)) :: wt' u) po2)
    (hT : ∀ u, kM (S := Unit) l yX6_thrown wsX6_thrown { frames := 7, cells := 0, slots := 0, locals := 100 } 0 0 D [.ref am] [(am, .inr (6, fm' u))] (fun _ => some (.int (nI code))) (fun _ => [(am, .inr (6, fm' u))]) (fun _ => True))
    (hans : ∀ z u, code = 0 → po z → po2 u → (v z).toInt64 = (v2 u).toInt64)
    (hP : va_P D kC ((ao, .inl (D.1 23, 1, .inr (.inl f))) :: (Pw ++ (wc ++ ((am, .inr (6, fm)) :: wt)))) H) (hD : va_D (fun q => s.heap.size ≤ q) ((ao, .inl (D.1 23, 1, .inr (.inl f))) :: (Pw ++ (wc ++ ((am, .inr (6, fm)) :: wt))))) (hS : va_S (fun q => s.heap.size ≤ q) s.heap H locs)
    (k0 : code = 0 → ∀ (z : S), po z → ∀ (u : S2) (H1 : Heap) (locs1 : List Loc) (ls1 : Array Slot), po2 u → va_P D kC ((ao, .inl (D.1 23, 1, .inr (.inl (vp_updL f 0 (v z).toInt64)))) :: (Pw ++ (wc' z ++ ((am, .inr (6, fm' u)) :: wt' u)))) H1 → va_D (fun q => s.heap.size ≤ q) ((ao, .inl (D.1 23, 1, .inr (.inl (vp_updL f 0 (v z).toInt64)))) :: (Pw ++ (wc' z ++ ((am, .inr (6, fm' u)) :: wt' u)))) → va_S (fun q => s.heap.size ≤ q) s.heap H1 locs1 → lv_has ls1 8 [(0, .ref b), (1, .ref ax), (2, .ref am), (3, .ref ao), (4, .int (nI i))] → W p l e room_1 s m #[Value.ref b] below meth c H1 locs1 (cells + 5) (slots + 34) Q (F0 m 1589 ls1 []))
    (k1 : 0 < code → ∀ (u : S2) (H1 : Heap) (locs1 : List Loc) (ls1 : Array Slot), po2 u → va_P D kC ((ao, .inl (D.1 23, 1, .inr (.inl f))) :: (Pw ++ (wc ++ ((am, .inr (6, fm' u)) :: wt' u)))) H1 → va_D (fun q => s.heap.size ≤ q) ((ao, .inl (D.1 23, 1, .inr (.inl f))) :: (Pw ++ (wc ++ ((am, .inr (6, fm' u)) :: wt' u)))) → va_S (fun q => s.heap.size ≤ q) s.heap H1 locs1 → lv_has ls1 8 [(0, .ref b), (1, .ref ax), (2, .ref am), (3, .ref ao), (4, .int (nI i))] → W p l e room_1 s m #[Value.ref b] below meth c H1 locs1 (cells + 5) (slots + 34) Q (F0 m 1589 ls1 []))
    : W p l e room_1 s m #[Value.ref b] below meth c H locs cells slots Q (F0 m 1231 ls []) := by
  obtain ⟨hx, hb, hml, hown, hts, hX, hbl, hL9, hK, hE⟩ := h0
  have hA : ∀ q : Nat, s.heap.size ≤ q → (fun q => s.heap.size ≤ q) q := fun q h => h
  have hbA : ¬ (fun q => s.heap.size ≤ q) b := Nat.not_le.mpr hbl
  have hc9 := hts (.constantLong RL 100 (4294967295)) lw_c100
  have hW := w_since3 l D ax ao (xs (i + 1)) (xs (i + 2)) (xs (i + 3)) f wc wc' po v code mc ms q0 rm fs he hrm hcd hM
  refine lv_aload_n hx hb dL_law_1231 rfl (lv_at hl 1 rfl) ?_
  refine lv_aload_n hx hb dL_law_1232 rfl (lv_at hl 0 rfl) ?_
  refine lv_iload hx hb dL_law_1233 (lv_at hl 4 rfl) ?_
  refine lv_iconst (v := nI 1) hx hb dL_law_1235 (by decide) ?_
  refine kn_iadd hx hb dL_law_1236 ?_
  refine kn_sld (i := i + 1) hx hb hX hbl hbA hS (by omega) (by omega) dL_law_1237 ?_
  refine lv_aload_n hx hb dL_law_1238 rfl (lv_at hl 0 rfl) ?_
  refine lv_iload hx hb dL_law_1239 (lv_at hl 4 rfl) ?_
  refine lv_iconst (v := nI 2) hx hb dL_law_1241 (by decide) ?_
  refine kn_iadd hx hb dL_law_1242 ?_
  refine kn_sld (i := i + 2) hx hb hX hbl hbA hS (by omega) (by omega) dL_law_1243 ?_
  refine lv_aload_n hx hb dL_law_1244 rfl (lv_at hl 0 rfl) ?_
  refine lv_iload hx hb dL_law_1245 (lv_at hl 4 rfl) ?_
  refine lv_iconst (v := nI 3) hx hb dL_law_1247 (by decide) ?_
  refine kn_iadd hx hb dL_law_1248 ?_
  refine kn_sld (i := i + 3) hx hb hX hbl hbA hS (by omega) (by omega) dL_law_1249 ?_
  refine lv_aload_n hx hb dL_law_1250 rfl (lv_at hl 3 rfl) ?_
  refine kcSWR (As := [.ref ax, .int (xs (i + 1)), .int (xs (i + 2)), .int (xs (i + 3)), .ref ao]) (rest := []) (wr := (Pw ++ ((am, .inr (6, fm)) :: wt))) (ws := ((ao, .inl (D.1 23, 1, .inr (.inl f))) :: wc)) ⟨hx, hb, hml, hown, hts⟩ hW (vx_cwSW 5 hts gL2_L_since rfl rfl rfl (by decide +kernel) ⟨Nat.le_of_ble_eq_true rfl, Nat.le_of_ble_eq_true rfl⟩) hK hE (kq_1 _ Pw wc _) hP hD hS hA rfl hl.1 rfl (Nat.le_of_ble_eq_true rfl) dL_law_1251 ⟨by show cells + mc ≤ 603072; omega, by show slots + ms ≤ 7190634; omega⟩ (fun u H locs hu hP hD hS => ?_)
  refine W.eq (g2 := F0 m 1254 ls [.int (nI code)]) rfl ?_
  refine W.widen (k := cells + 5) (n := slots + 34) (by omega) (by omega) ?_
  refine lv_istore (lv' := [(5, .int (nI code)), (0, .ref b), (1, .ref ax), (2, .ref am), (3, .ref ao), (4, .int (nI i))]) hx hb dL_law_1254 hl (by decide) rfl (fun ls hl => ?_)
  cases u with
  | none =>
    have hu : 0 < code := hu
    have hP : va_P D kC ((Pw ++ ((am, .inr (6, fm)) :: wt)) ++ ((ao, .inl (D.1 23, 1, .inr (.inl f))) :: wc)) _ := hP
    have hD : va_D (fun q => s.heap.size ≤ q) ((Pw ++ ((am, .inr (6, fm)) :: wt)) ++ ((ao, .inl (D.1 23, 1, .inr (.inl f))) :: wc)) := hD
    refine lv_aload_n hx hb dL_law_1256 rfl (lv_at hl 3 rfl) ?_
    refine lv_aload_n hx hb dL_law_1257 rfl (lv_at hl 1 rfl) ?_
    refine lv_iload hx hb dL_law_1258 (lv_at hl 5 rfl) ?_
    refine lv_iconst (v := nI 1) hx hb dL_law_1260 (by decide) ?_
    refine kn_iadd hx hb dL_law_1261 ?_
    refine kn_sld (i := i + 1) hx hb hX hbl hbA hS (by omega) (by omega) dL_law_1262 ?_
    refine lv_aload_n hx hb dL_law_1263 rfl (lv_at hl 1 rfl) ?_
    refine lv_iload hx hb dL_law_1264 (lv_at hl 5 rfl) ?_
    refine lv_iconst (v := nI 2) hx hb dL_law_1266 (by decide) ?_
    refine kn_iadd hx hb dL_law_1267 ?_
    refine kn_sld (i := i + 2) hx hb hX hbl hbA hS (by omega) (by omega) dL_law_1268 ?_
    refine lv_aload_n hx hb dL_law_1269 rfl (lv_at hl 1 rfl) ?_
    refine lv_iload hx hb dL_law_1270 (lv_at hl 5 rfl) ?_
    refine lv_iconst (v := nI 3) hx hb dL_law_1272 (by decide) ?_
    refine kn_iadd hx hb dL_law_1273 ?_
    refine kn_sld (i := i + 3) hx hb hX hbl hbA hS (by omega) (by omega) dL_law_1274 ?_
    refine kcVR (C := RX6) (As := [.int (xs (i + 1)), .int (xs (i + 2)), .int (xs (i + 3))]) (rest := []) (wr := (ao, .inl (D.1 23, 1, .inr (.inl f))) :: (Pw ++ wc)) (ws := ((am, .inr (6, fm)) :: wt)) ⟨hx, hb, hml, hown, hts⟩ hN (cwV 3 hts gL2_X6_since rfl hrm2.1 hrm2.2.1 (by decide +kernel) ⟨Nat.le_trans (Nat.succ_le_succ hrm2.2.2.1) (Nat.le_of_ble_eq_true rfl), Nat.le_trans (Nat.add_le_add_left hrm2.2.2.2 _) (Nat.le_of_ble_eq_true rfl)⟩) hK hE (kq_2 _ Pw wc _) hP hD hS hA 0 6 rfl rfl rfl rfl hl.1 rfl (Nat.le_of_ble_eq_true rfl) dL_law_1275 ⟨hcl, hsl⟩ (fun u2 H locs hp2 hP hD hS => ?_)
    refine W.eq (g2 := F0 m 1278 ls [.int (v2 u2)]) rfl ?_
    refine W.widen (k := cells + 5) (n := slots + 34) (Nat.le_refl _) (Nat.le_refl _) ?_
    refine lv_istore (lv' := [(6, .int (v2 u2)), (5, .int (nI code)), (0, .ref b), (1, .ref ax), (2, .ref am), (3, .ref ao), (4, .int (nI i))]) hx hb dL_law_1278 hl (by decide) rfl (fun ls hl => ?_)
    refine lv_aload_n hx hb dL_law_1280 rfl (lv_at hl 4 rfl) ?_
    refine kcVR (C := RX6) (As := []) (rest := []) (wr := ((ao, .inl (D.1 23, 1, .inr (.inl f))) :: (Pw ++ wc)) ++ wt' u2) (ws := [(am, .inr (6, fm' u2))]) ⟨hx, hb, hml, hown, hts⟩ (hT u2) (cwV 0 hts gL2_X6_thrown rfl rfl rfl (by decide +kernel) ⟨Nat.le_of_ble_eq_true rfl, Nat.le_of_ble_eq_true rfl⟩) hK hE (kq_3 ((ao, .inl (D.1 23, 1, .inr (.inl f))) :: (Pw ++ wc)) (wt' u2) _) hP hD hS hA 0 6 rfl rfl rfl rfl hl.1 rfl (Nat.le_of_ble_eq_true rfl) dL_law_1281 ⟨hcl, hsl⟩ (fun _ H locs _ hP hD hS => ?_)
    refine W.eq (g2 := F0 m 1284 ls [.int (nI code)]) rfl ?_
    refine W.widen (k := cells + 5) (n := slots + 34) (Nat.le_refl _) (Nat.le_refl _) ?_
    refine lv_iload hx hb dL_law_1284 (lv_at hl 1 rfl) ?_
    refine lv_icmp_eq (tgt := 1291) hx hb dL_law_1286 (by decide) (fun _ => ?_) (fun c_1286 => absurd rfl c_1286)
    refine lv_iload hx hb dL_law_1291 (lv_at hl 1 rfl) ?_
    refine kn_if_ne (tgt := 1308) hx hb (by omega) dL_law_1293 (by decide) (fun _ => ?_) (fun c_1293 => absurd hu (by omega))
    refine lv_goto (tgt := 1589) hx hb dL_law_1308 (by decide) ?_
    exact k1 hu u2 _ _ ls hp2 (kp_P (kq_4 _ _ Pw wc _) hP) (kp_D (kq_4 _ _ Pw wc _) hD) hS (lv_sub hl [2, 3, 4, 5, 6] rfl)
  | some z =>
    obtain ⟨hc0, hpo⟩ := hu
    subst hc0
    have hP : va_P D kC ((Pw ++ ((am, .inr (6, fm)) :: wt)) ++ ((ao, .inl (D.1 23, 1, .inr (.inl (vp_updL f 0 (v z).toInt64)))) :: (wc' z))) _ := hP
    have hD : va_D (fun q => s.heap.size ≤ q) ((Pw ++ ((am, .inr (6, fm)) :: wt)) ++ ((ao, .inl (D.1 23, 1, .inr (.inl (vp_updL f 0 (v z).toInt64)))) :: (wc' z))) := hD
    refine lv_aload_n hx hb dL_law_1256 rfl (lv_at hl 3 rfl) ?_
    refine lv_aload_n hx hb dL_law_1257 rfl (lv_at hl 1 rfl) ?_
    refine lv_iload hx hb dL_law_1258 (lv_at hl 5 rfl) ?_
    refine lv_iconst (v := nI 1) hx hb dL_law_1260 (by decide) ?_
    refine kn_iadd hx hb dL_law_1261 ?_
    refine kn_sld (i := i + 1) hx hb hX hbl hbA hS (by omega) (by omega) dL_law_1262 ?_
    refine lv_aload_n hx hb dL_law_1263 rfl (lv_at hl 1 rfl) ?_
    refine lv_iload hx hb dL_law_1264 (lv_at hl 5 rfl) ?_
    refine lv_iconst (v := nI 2) hx hb dL_law_1266 (by decide) ?_
    refine kn_iadd hx hb dL_law_1267 ?_
    refine kn_sld (i := i + 2) hx hb hX hbl hbA hS (by omega) (by omega) dL_law_1268 ?_
    refine lv_aload_n hx hb dL_law_1269 rfl (lv_at hl 1 rfl) ?_
    refine lv_iload hx hb dL_law_1270 (lv_at hl 5 rfl) ?_
    refine lv_iconst (v := nI 3) hx hb dL_law_1272 (by decide) ?_
    refine kn_iadd hx hb dL_law_1273 ?_
    refine kn_sld (i := i + 3) hx hb hX hbl hbA hS (by omega) (by omega) dL_law_1274 ?_
    refine kcVR (C := RX6) (As := [.int (xs (i + 1)), .int (xs (i + 2)), .int (xs (i + 3))]) (rest := []) (wr := (ao, .inl (D.1 23, 1, .inr (.inl (vp_updL f 0 (v z).toInt64)))) :: (Pw ++ (wc' z))) (ws := ((am, .inr (6, fm)) :: wt)) ⟨hx, hb, hml, hown, hts⟩ hN (cwV 3 hts gL2_X6_since rfl hrm2.1 hrm2.2.1 (by decide +kernel) ⟨Nat.le_trans (Nat.succ_le_succ hrm2.2.2.1) (Nat.le_of_ble_eq_true rfl), Nat.le_trans (Nat.add_le_add_left hrm2.2.2.2 _) (Nat.le_of_ble_eq_true rfl)⟩) hK hE (kq_2 _ Pw (wc' z) _) hP hD hS hA 0 6 rfl rfl rfl rfl hl.1 rfl (Nat.le_of_ble_eq_true rfl) dL_law_1275 ⟨hcl, hsl⟩ (fun u2 H locs hp2 hP hD hS => ?_)
    refine W.eq (g2 := F0 m 1278 ls [.int (v2 u2)]) rfl ?_
    refine W.widen (k := cells + 5) (n := slots + 34) (Nat.le_refl _) (Nat.le_refl _) ?_
    refine lv_istore (lv' := [(6, .int (v2 u2)), (5, .int (nI 0)), (0, .ref b), (1, .ref ax), (2, .ref am), (3, .ref ao), (4, .int (nI i))]) hx hb dL_law_1278 hl (by decide) rfl (fun ls hl => ?_)
    refine lv_aload_n hx hb dL_law_1280 rfl (lv_at hl 4 rfl) ?_
    refine kcVR (C := RX6) (As := []) (rest := []) (wr := ((ao, .inl (D.1 23, 1, .inr (.inl (vp_updL f 0 (v z).toInt64)))) :: (Pw ++ (wc' z))) ++ wt' u2) (ws := [(am, .inr (6, fm' u2))]) ⟨hx, hb, hml, hown, hts⟩ (hT u2) (cwV 0 hts gL2_X6_thrown rfl rfl rfl (by decide +kernel) ⟨Nat.le_of_ble_eq_true rfl, Nat.le_of_ble_eq_true rfl⟩) hK hE (kq_3 ((ao, .inl (D.1 23, 1, .inr (.inl (vp_updL f 0 (v z).toInt64)))) :: (Pw ++ (wc' z))) (wt' u2) _) hP hD hS hA 0 6 rfl rfl rfl rfl hl.1 rfl (Nat.le_of_ble_eq_true rfl) dL_law_1281 ⟨hcl, hsl⟩ (fun _ H locs _ hP hD hS => ?_)
    refine W.eq (g2 := F0 m 1284 ls [.int (nI 0)]) rfl ?_
    refine W.widen (k := cells + 5) (n := slots + 34) (Nat.le_refl _) (Nat.le_refl _) ?_
    refine lv_iload hx hb dL_law_1284 (lv_at hl 1 rfl) ?_
    refine lv_icmp_eq (tgt := 1291) hx hb dL_law_1286 (by decide) (fun _ => ?_) (fun c_1286 => absurd rfl c_1286)
    refine lv_iload hx hb dL_law_1291 (lv_at hl 1 rfl) ?_
    refine kn_if_ne (tgt := 1308) hx hb (by omega) dL_law_1293 (by decide) (fun c_1293 => absurd c_1293 (Nat.lt_irrefl _)) (fun _ => ?_)
    refine lv_aload_n hx hb dL_law_1296 rfl (lv_at hl 5 rfl) ?_
    refine lv_iconst (v := nI 0) hx hb dL_law_1297 (by decide) ?_
    refine kn_lald hx hb hK hP 0 3 rfl rfl (i := 0) (by omega) (by decide) dL_law_1298 ?_
    refine lv_iload hx hb dL_law_1299 (lv_at hl 0 rfl) ?_
    refine lv_i2l (v := (v2 u2).toInt64) hx hb dL_law_1301 rfl ?_
    refine W.lcmp hx hb dL_law_1302 ?_
    refine lv_if_eq (tgt := 1308) hx hb dL_law_1303 (by decide) (fun _ => ?_) (fun c_1303 => absurd ((lg_cmp_eq _ _).mpr ((k_uL _ _ _).trans (hans z u2 rfl hpo hp2))) c_1303)
    refine lv_goto (tgt := 1589) hx hb dL_law_1308 (by decide) ?_
    exact k0 rfl z hpo u2 _ _ ls hp2 (kp_P (kq_4 _ _ Pw (wc' z) _) hP) (kp_D (kq_4 _ _ Pw (wc' z) _) hD) hS (lv_sub hl [2, 3, 4, 5, 6] rfl)
set_option maxHeartbeats 4000000 in
set_option maxRecDepth 100000 in
theorem o_digest {p : Program} {l : Launch} {e : Env} {s : State} {m : MethodId} {below : List Frame} {meth : Method} {c : Code} {b L : Nat} {xs : Nat → Int32} {D : va_G} {Q : State → Prop} {H : Heap} {locs : List Loc} {cells slots : Nat} {ls : Array Slot} {S S2 : Type} (ax am ao i : Nat) (f : Nat → Int64) (Pw wc wt : va_W) (wc' : S → va_W) (wt' : S2 → va_W) (po : S → Prop) (po2 : S2 → Prop) (v : S → Int32) (v2 : S2 → Int32) (code mc ms q0 : Nat) (rm rm2 : Room) (fs fm : List Value) (fm' : S2 → List Value)
    (h0 : kLaw p s m c b L xs D) (hi : i + 7 ≤ L) (hl : lv_has ls 8 [(0, .ref b), (1, .ref ax), (2, .ref am), (3, .ref ao), (4, .int (nI i))]) (he : wc[q0]? = some (ax, .inr (5, fs))) (hrm : rm.cells = mc ∧ rm.slots = ms ∧ rm.frames ≤ 11 ∧ rm.locals ≤ 340) (hm5 : mc ≤ 5 ∧ ms ≤ 34) (hrm2 : rm2.cells = 0 ∧ rm2.slots = 0 ∧ rm2.frames ≤ 11 ∧ rm2.locals ≤ 340) (hcd : code ≤ 2) (hcl : cells + 5 ≤ 603072) (hsl : slots + 34 ≤ 7190634)
    (hM : kX l yX5_digest wsX5_digest23 rm mc ms D [.ref ax, .int (xs (i + 1)), .int (xs (i + 2))] wc (kEx [kNse, kAio] code) (fun u => some (.int (v u))) wc' po)
    (hN : kM l yX6_digest wsX6_digest rm2 0 0 D [.ref am, .int (xs (i + 1)), .int (xs (i + 2))] ((am, .inr (6, fm)) :: wt) (fun u => some (.int (v2 u))) (fun u => (am, .inr (6, fm' u)) :: wt' u) po2)
    (hT : ∀ u, kM (S := Unit) l yX6_thrown wsX6_thrown { frames := 7, cells := 0, slots := 0, locals := 100 } 0 0 D [.ref am] [(am, .inr (6, fm' u))] (fun _ => some (.int (nI code))) (fun _ => [(am, .inr (6, fm' u))]) (fun _ => True))
    (hans : ∀ z u, code = 0 → po z → po2 u → (v z).toInt64 = (v2 u).toInt64)
    (hP : va_P D kC ((ao, .inl (D.1 23, 1, .inr (.inl f))) :: (Pw ++ (wc ++ ((am, .inr (6, fm)) :: wt)))) H) (hD : va_D (fun q => s.heap.size ≤ q) ((ao, .inl (D.1 23, 1, .inr (.inl f))) :: (Pw ++ (wc ++ ((am, .inr (6, fm)) :: wt))))) (hS : va_S (fun q => s.heap.size ≤ q) s.heap H locs)
    (k0 : code = 0 → ∀ (z : S), po z → ∀ (u : S2) (H1 : Heap) (locs1 : List Loc) (ls1 : Array Slot), po2 u → va_P D kC ((ao, .inl (D.1 23, 1, .inr (.inl (vp_updL f 0 (v z).toInt64)))) :: (Pw ++ (wc' z ++ ((am, .inr (6, fm' u)) :: wt' u)))) H1 → va_D (fun q => s.heap.size ≤ q) ((ao, .inl (D.1 23, 1, .inr (.inl (vp_updL f 0 (v z).toInt64)))) :: (Pw ++ (wc' z ++ ((am, .inr (6, fm' u)) :: wt' u)))) → va_S (fun q => s.heap.size ≤ q) s.heap H1 locs1 → lv_has ls1 8 [(0, .ref b), (1, .ref ax), (2, .ref am), (3, .ref ao), (4, .int (nI i))] → W p l e room_1 s m #[Value.ref b] below meth c H1 locs1 (cells + 5) (slots + 34) Q (F0 m 1589 ls1 []))
    (k1 : 0 < code → ∀ (u : S2) (H1 : Heap) (locs1 : List Loc) (ls1 : Array Slot), po2 u → va_P D kC ((ao, .inl (D.1 23, 1, .inr (.inl f))) :: (Pw ++ (wc ++ ((am, .inr (6, fm' u)) :: wt' u)))) H1 → va_D (fun q => s.heap.size ≤ q) ((ao, .inl (D.1 23, 1, .inr (.inl f))) :: (Pw ++ (wc ++ ((am, .inr (6, fm' u)) :: wt' u)))) → va_S (fun q => s.heap.size ≤ q) s.heap H1 locs1 → lv_has ls1 8 [(0, .ref b), (1, .ref ax), (2, .ref am), (3, .ref ao), (4, .int (nI i))] → W p l e room_1 s m #[Value.ref b] below meth c H1 locs1 (cells + 5) (slots + 34) Q (F0 m 1589 ls1 []))
    : W p l e room_1 s m #[Value.ref b] below meth c H locs cells slots Q (F0 m 1311 ls []) := by
  obtain ⟨hx, hb, hml, hown, hts, hX, hbl, hL9, hK, hE⟩ := h0
  have hA : ∀ q : Nat, s.heap.size ≤ q → (fun q => s.heap.size ≤ q) q := fun q h => h
  have hbA : ¬ (fun q => s.heap.size ≤ q) b := Nat.not_le.mpr hbl
  have hc9 := hts (.constantLong RL 100 (4294967295)) lw_c100
  have hW := w_digest3 l D ax ao (xs (i + 1)) (xs (i + 2)) f wc wc' po v code mc ms q0 rm fs he hrm hcd hM
  refine lv_aload_n hx hb dL_law_1311 rfl (lv_at hl 1 rfl) ?_
  refine lv_aload_n hx hb dL_law_1312 rfl (lv_at hl 0 rfl) ?_
  refine lv_iload hx hb dL_law_1313 (lv_at hl 4 rfl) ?_
  refine lv_iconst (v := nI 1) hx hb dL_law_1315 (by decide) ?_
  refine kn_iadd hx hb dL_law_1316 ?_
  refine kn_sld (i := i + 1) hx hb hX hbl hbA hS (by omega) (by omega) dL_law_1317 ?_
  refine lv_aload_n hx hb dL_law_1318 rfl (lv_at hl 0 rfl) ?_
  refine lv_iload hx hb dL_law_1319 (lv_at hl 4 rfl) ?_
  refine lv_iconst (v := nI 2) hx hb dL_law_1321 (by decide) ?_
  refine kn_iadd hx hb dL_law_1322 ?_
  refine kn_sld (i := i + 2) hx hb hX hbl hbA hS (by omega) (by omega) dL_law_1323 ?_
  refine lv_aload_n hx hb dL_law_1324 rfl (lv_at hl 3 rfl) ?_
  refine kcSWR (As := [.ref ax, .int (xs (i + 1)), .int (xs (i + 2)), .ref ao]) (rest := []) (wr := (Pw ++ ((am, .inr (6, fm)) :: wt))) (ws := ((ao, .inl (D.1 23, 1, .inr (.inl f))) :: wc)) ⟨hx, hb, hml, hown, hts⟩ hW (vx_cwSW 4 hts gL2_L_digest rfl rfl rfl (by decide +kernel) ⟨Nat.le_of_ble_eq_true rfl, Nat.le_of_ble_eq_true rfl⟩) hK hE (kq_1 _ Pw wc _) hP hD hS hA rfl hl.1 rfl (Nat.le_of_ble_eq_true rfl) dL_law_1325 ⟨by show cells + mc ≤ 603072; omega, by show slots + ms ≤ 7190634; omega⟩ (fun u H locs hu hP hD hS => ?_)
  refine W.eq (g2 := F0 m 1328 ls [.int (nI code)]) rfl ?_
  refine W.widen (k := cells + 5) (n := slots + 34) (by omega) (by omega) ?_
  refine lv_istore (lv' := [(5, .int (nI code)), (0, .ref b), (1, .ref ax), (2, .ref am), (3, .ref ao), (4, .int (nI i))]) hx hb dL_law_1328 hl (by decide) rfl (fun ls hl => ?_)
  cases u with
  | none =>
    have hu : 0 < code := hu
    have hP : va_P D kC ((Pw ++ ((am, .inr (6, fm)) :: wt)) ++ ((ao, .inl (D.1 23, 1, .inr (.inl f))) :: wc)) _ := hP
    have hD : va_D (fun q => s.heap.size ≤ q) ((Pw ++ ((am, .inr (6, fm)) :: wt)) ++ ((ao, .inl (D.1 23, 1, .inr (.inl f))) :: wc)) := hD
    refine lv_aload_n hx hb dL_law_1330 rfl (lv_at hl 3 rfl) ?_
    refine lv_aload_n hx hb dL_law_1331 rfl (lv_at hl 1 rfl) ?_
    refine lv_iload hx hb dL_law_1332 (lv_at hl 5 rfl) ?_
    refine lv_iconst (v := nI 1) hx hb dL_law_1334 (by decide) ?_
    refine kn_iadd hx hb dL_law_1335 ?_
    refine kn_sld (i := i + 1) hx hb hX hbl hbA hS (by omega) (by omega) dL_law_1336 ?_
    refine lv_aload_n hx hb dL_law_1337 rfl (lv_at hl 1 rfl) ?_
    refine lv_iload hx hb dL_law_1338 (lv_at hl 5 rfl) ?_
    refine lv_iconst (v := nI 2) hx hb dL_law_1340 (by decide) ?_
    refine kn_iadd hx hb dL_law_1341 ?_
    refine kn_sld (i := i + 2) hx hb hX hbl hbA hS (by omega) (by omega) dL_law_1342 ?_
    refine kcVR (C := RX6) (As := [.int (xs (i + 1)), .int (xs (i + 2))]) (rest := []) (wr := (ao, .inl (D.1 23, 1, .inr (.inl f))) :: (Pw ++ wc)) (ws := ((am, .inr (6, fm)) :: wt)) ⟨hx, hb, hml, hown, hts⟩ hN (cwV 2 hts gL2_X6_digest rfl hrm2.1 hrm2.2.1 (by decide +kernel) ⟨Nat.le_trans (Nat.succ_le_succ hrm2.2.2.1) (Nat.le_of_ble_eq_true rfl), Nat.le_trans (Nat.add_le_add_left hrm2.2.2.2 _) (Nat.le_of_ble_eq_true rfl)⟩) hK hE (kq_2 _ Pw wc _) hP hD hS hA 0 6 rfl rfl rfl rfl hl.1 rfl (Nat.le_of_ble_eq_true rfl) dL_law_1343 ⟨hcl, hsl⟩ (fun u2 H locs hp2 hP hD hS => ?_)
    refine W.eq (g2 := F0 m 1346 ls [.int (v2 u2)]) rfl ?_
    refine W.widen (k := cells + 5) (n := slots + 34) (Nat.le_refl _) (Nat.le_refl _) ?_
    refine lv_istore (lv' := [(6, .int (v2 u2)), (5, .int (nI code)), (0, .ref b), (1, .ref ax), (2, .ref am), (3, .ref ao), (4, .int (nI i))]) hx hb dL_law_1346 hl (by decide) rfl (fun ls hl => ?_)
    refine lv_aload_n hx hb dL_law_1348 rfl (lv_at hl 4 rfl) ?_
    refine kcVR (C := RX6) (As := []) (rest := []) (wr := ((ao, .inl (D.1 23, 1, .inr (.inl f))) :: (Pw ++ wc)) ++ wt' u2) (ws := [(am, .inr (6, fm' u2))]) ⟨hx, hb, hml, hown, hts⟩ (hT u2) (cwV 0 hts gL2_X6_thrown rfl rfl rfl (by decide +kernel) ⟨Nat.le_of_ble_eq_true rfl, Nat.le_of_ble_eq_true rfl⟩) hK hE (kq_3 ((ao, .inl (D.1 23, 1, .inr (.inl f))) :: (Pw ++ wc)) (wt' u2) _) hP hD hS hA 0 6 rfl rfl rfl rfl hl.1 rfl (Nat.le_of_ble_eq_true rfl) dL_law_1349 ⟨hcl, hsl⟩ (fun _ H locs _ hP hD hS => ?_)
    refine W.eq (g2 := F0 m 1352 ls [.int (nI code)]) rfl ?_
    refine W.widen (k := cells + 5) (n := slots + 34) (Nat.le_refl _) (Nat.le_refl _) ?_
    refine lv_iload hx hb dL_law_1352 (lv_at hl 1 rfl) ?_
    refine lv_icmp_eq (tgt := 1359) hx hb dL_law_1354 (by decide) (fun _ => ?_) (fun c_1354 => absurd rfl c_1354)
    refine lv_iload hx hb dL_law_1359 (lv_at hl 1 rfl) ?_
    refine kn_if_ne (tgt := 1376) hx hb (by omega) dL_law_1361 (by decide) (fun _ => ?_) (fun c_1361 => absurd hu (by omega))
    refine lv_goto (tgt := 1589) hx hb dL_law_1376 (by decide) ?_
    exact k1 hu u2 _ _ ls hp2 (kp_P (kq_4 _ _ Pw wc _) hP) (kp_D (kq_4 _ _ Pw wc _) hD) hS (lv_sub hl [2, 3, 4, 5, 6] rfl)
  | some z =>
    obtain ⟨hc0, hpo⟩ := hu
    subst hc0
    have hP : va_P D kC ((Pw ++ ((am, .inr (6, fm)) :: wt)) ++ ((ao, .inl (D.1 23, 1, .inr (.inl (vp_updL f 0 (v z).toInt64)))) :: (wc' z))) _ := hP
    have hD : va_D (fun q => s.heap.size ≤ q) ((Pw ++ ((am, .inr (6, fm)) :: wt)) ++ ((ao, .inl (D.1 23, 1, .inr (.inl (vp_updL f 0 (v z).toInt64)))) :: (wc' z))) := hD
    refine lv_aload_n hx hb dL_law_1330 rfl (lv_at hl 3 rfl) ?_
    refine lv_aload_n hx hb dL_law_1331 rfl (lv_at hl 1 rfl) ?_
    refine lv_iload hx hb dL_law_1332 (lv_at hl 5 rfl) ?_
    refine lv_iconst (v := nI 1) hx hb dL_law_1334 (by decide) ?_
    refine kn_iadd hx hb dL_law_1335 ?_
    refine kn_sld (i := i + 1) hx hb hX hbl hbA hS (by omega) (by omega) dL_law_1336 ?_
    refine lv_aload_n hx hb dL_law_1337 rfl (lv_at hl 1 rfl) ?_
    refine lv_iload hx hb dL_law_1338 (lv_at hl 5 rfl) ?_
    refine lv_iconst (v := nI 2) hx hb dL_law_1340 (by decide) ?_
    refine kn_iadd hx hb dL_law_1341 ?_
    refine kn_sld (i := i + 2) hx hb hX hbl hbA hS (by omega) (by omega) dL_law_1342 ?_
    refine kcVR (C := RX6) (As := [.int (xs (i + 1)), .int (xs (i + 2))]) (rest := []) (wr := (ao, .inl (D.1 23, 1, .inr (.inl (vp_updL f 0 (v z).toInt64)))) :: (Pw ++ (wc' z))) (ws := ((am, .inr (6, fm)) :: wt)) ⟨hx, hb, hml, hown, hts⟩ hN (cwV 2 hts gL2_X6_digest rfl hrm2.1 hrm2.2.1 (by decide +kernel) ⟨Nat.le_trans (Nat.succ_le_succ hrm2.2.2.1) (Nat.le_of_ble_eq_true rfl), Nat.le_trans (Nat.add_le_add_left hrm2.2.2.2 _) (Nat.le_of_ble_eq_true rfl)⟩) hK hE (kq_2 _ Pw (wc' z) _) hP hD hS hA 0 6 rfl rfl rfl rfl hl.1 rfl (Nat.le_of_ble_eq_true rfl) dL_law_1343 ⟨hcl, hsl⟩ (fun u2 H locs hp2 hP hD hS => ?_)
    refine W.eq (g2 := F0 m 1346 ls [.int (v2 u2)]) rfl ?_
    refine W.widen (k := cells + 5) (n := slots + 34) (Nat.le_refl _) (Nat.le_refl _) ?_
    refine lv_istore (lv' := [(6, .int (v2 u2)), (5, .int (nI 0)), (0, .ref b), (1, .ref ax), (2, .ref am), (3, .ref ao), (4, .int (nI i))]) hx hb dL_law_1346 hl (by decide) rfl (fun ls hl => ?_)
    refine lv_aload_n hx hb dL_law_1348 rfl (lv_at hl 4 rfl) ?_
    refine kcVR (C := RX6) (As := []) (rest := []) (wr := ((ao, .inl (D.1 23, 1, .inr (.inl (vp_updL f 0 (v z).toInt64)))) :: (Pw ++ (wc' z))) ++ wt' u2) (ws := [(am, .inr (6, fm' u2))]) ⟨hx, hb, hml, hown, hts⟩ (hT u2) (cwV 0 hts gL2_X6_thrown rfl rfl rfl (by decide +kernel) ⟨Nat.le_of_ble_eq_true rfl, Nat.le_of_ble_eq_true rfl⟩) hK hE (kq_3 ((ao, .inl (D.1 23, 1, .inr (.inl (vp_updL f 0 (v z).toInt64)))) :: (Pw ++ (wc' z))) (wt' u2) _) hP hD hS hA 0 6 rfl rfl rfl rfl hl.1 rfl (Nat.le_of_ble_eq_true rfl) dL_law_1349 ⟨hcl, hsl⟩ (fun _ H locs _ hP hD hS => ?_)
    refine W.eq (g2 := F0 m 1352 ls [.int (nI 0)]) rfl ?_
    refine W.widen (k := cells + 5) (n := slots + 34) (Nat.le_refl _) (Nat.le_refl _) ?_
    refine lv_iload hx hb dL_law_1352 (lv_at hl 1 rfl) ?_
    refine lv_icmp_eq (tgt := 1359) hx hb dL_law_1354 (by decide) (fun _ => ?_) (fun c_1354 => absurd rfl c_1354)
    refine lv_iload hx hb dL_law_1359 (lv_at hl 1 rfl) ?_
    refine kn_if_ne (tgt := 1376) hx hb (by omega) dL_law_1361 (by decide) (fun c_1361 => absurd c_1361 (Nat.lt_irrefl _)) (fun _ => ?_)
    refine lv_aload_n hx hb dL_law_1364 rfl (lv_at hl 5 rfl) ?_
    refine lv_iconst (v := nI 0) hx hb dL_law_1365 (by decide) ?_
    refine kn_lald hx hb hK hP 0 3 rfl rfl (i := 0) (by omega) (by decide) dL_law_1366 ?_
    refine lv_iload hx hb dL_law_1367 (lv_at hl 0 rfl) ?_
    refine lv_i2l (v := (v2 u2).toInt64) hx hb dL_law_1369 rfl ?_
    refine W.lcmp hx hb dL_law_1370 ?_
    refine lv_if_eq (tgt := 1376) hx hb dL_law_1371 (by decide) (fun _ => ?_) (fun c_1371 => absurd ((lg_cmp_eq _ _).mpr ((k_uL _ _ _).trans (hans z u2 rfl hpo hp2))) c_1371)
    refine lv_goto (tgt := 1589) hx hb dL_law_1376 (by decide) ?_
    exact k0 rfl z hpo u2 _ _ ls hp2 (kp_P (kq_4 _ _ Pw (wc' z) _) hP) (kp_D (kq_4 _ _ Pw (wc' z) _) hD) hS (lv_sub hl [2, 3, 4, 5, 6] rfl)
set_option maxHeartbeats 4000000 in
set_option maxRecDepth 100000 in
theorem o_behind {p : Program} {l : Launch} {e : Env} {s : State} {m : MethodId} {below : List Frame} {meth : Method} {c : Code} {b L : Nat} {xs : Nat → Int32} {D : va_G} {Q : State → Prop} {H : Heap} {locs : List Loc} {cells slots : Nat} {ls : Array Slot} {S S2 : Type} (ax am ao i : Nat) (f : Nat → Int64) (Pw wc wt : va_W) (wc' : S → va_W) (wt' : S2 → va_W) (po : S → Prop) (po2 : S2 → Prop) (v : S → Int64) (v2 : S2 → Int64) (code mc ms q0 : Nat) (rm rm2 : Room) (fs fm : List Value) (fm' : S2 → List Value)
    (h0 : kLaw p s m c b L xs D) (hi : i + 7 ≤ L) (hl : lv_has ls 8 [(0, .ref b), (1, .ref ax), (2, .ref am), (3, .ref ao), (4, .int (nI i))]) (he : wc[q0]? = some (ax, .inr (5, fs))) (hrm : rm.cells = mc ∧ rm.slots = ms ∧ rm.frames ≤ 11 ∧ rm.locals ≤ 340) (hm5 : mc ≤ 5 ∧ ms ≤ 34) (hrm2 : rm2.cells = 0 ∧ rm2.slots = 0 ∧ rm2.frames ≤ 11 ∧ rm2.locals ≤ 340) (hcd : code ≤ 1) (hcl : cells + 5 ≤ 603072) (hsl : slots + 34 ≤ 7190634)
    (hM : kX l yX5_behind wsX5_behind3 rm mc ms D [.ref ax, .int (xs (i + 1))] wc (kEx [kNse] code) (fun u => some (.long (v u))) wc' po)
    (hN : kM l yX6_behind wsX6_behind rm2 0 0 D [.ref am, .int (xs (i + 1))] ((am, .inr (6, fm)) :: wt) (fun u => some (.long (v2 u))) (fun u => (am, .inr (6, fm' u)) :: wt' u) po2)
    (hT : ∀ u, kM (S := Unit) l yX6_thrown wsX6_thrown { frames := 7, cells := 0, slots := 0, locals := 100 } 0 0 D [.ref am] [(am, .inr (6, fm' u))] (fun _ => some (.int (nI code))) (fun _ => [(am, .inr (6, fm' u))]) (fun _ => True))
    (hans : ∀ z u, code = 0 → po z → po2 u → v z = v2 u)
    (hP : va_P D kC ((ao, .inl (D.1 23, 1, .inr (.inl f))) :: (Pw ++ (wc ++ ((am, .inr (6, fm)) :: wt)))) H) (hD : va_D (fun q => s.heap.size ≤ q) ((ao, .inl (D.1 23, 1, .inr (.inl f))) :: (Pw ++ (wc ++ ((am, .inr (6, fm)) :: wt))))) (hS : va_S (fun q => s.heap.size ≤ q) s.heap H locs)
    (k0 : code = 0 → ∀ (z : S), po z → ∀ (u : S2) (H1 : Heap) (locs1 : List Loc) (ls1 : Array Slot), po2 u → va_P D kC ((ao, .inl (D.1 23, 1, .inr (.inl (vp_updL f 0 (v z))))) :: (Pw ++ (wc' z ++ ((am, .inr (6, fm' u)) :: wt' u)))) H1 → va_D (fun q => s.heap.size ≤ q) ((ao, .inl (D.1 23, 1, .inr (.inl (vp_updL f 0 (v z))))) :: (Pw ++ (wc' z ++ ((am, .inr (6, fm' u)) :: wt' u)))) → va_S (fun q => s.heap.size ≤ q) s.heap H1 locs1 → lv_has ls1 8 [(0, .ref b), (1, .ref ax), (2, .ref am), (3, .ref ao), (4, .int (nI i))] → W p l e room_1 s m #[Value.ref b] below meth c H1 locs1 (cells + 5) (slots + 34) Q (F0 m 1589 ls1 []))
    (k1 : 0 < code → ∀ (u : S2) (H1 : Heap) (locs1 : List Loc) (ls1 : Array Slot), po2 u → va_P D kC ((ao, .inl (D.1 23, 1, .inr (.inl f))) :: (Pw ++ (wc ++ ((am, .inr (6, fm' u)) :: wt' u)))) H1 → va_D (fun q => s.heap.size ≤ q) ((ao, .inl (D.1 23, 1, .inr (.inl f))) :: (Pw ++ (wc ++ ((am, .inr (6, fm' u)) :: wt' u)))) → va_S (fun q => s.heap.size ≤ q) s.heap H1 locs1 → lv_has ls1 8 [(0, .ref b), (1, .ref ax), (2, .ref am), (3, .ref ao), (4, .int (nI i))] → W p l e room_1 s m #[Value.ref b] below meth c H1 locs1 (cells + 5) (slots + 34) Q (F0 m 1589 ls1 []))
    : W p l e room_1 s m #[Value.ref b] below meth c H locs cells slots Q (F0 m 1379 ls []) := by
  obtain ⟨hx, hb, hml, hown, hts, hX, hbl, hL9, hK, hE⟩ := h0
  have hA : ∀ q : Nat, s.heap.size ≤ q → (fun q => s.heap.size ≤ q) q := fun q h => h
  have hbA : ¬ (fun q => s.heap.size ≤ q) b := Nat.not_le.mpr hbl
  have hc9 := hts (.constantLong RL 100 (4294967295)) lw_c100
  have hW := w_behind3 l D ax ao (xs (i + 1)) f wc wc' po v code mc ms q0 rm fs he hrm hcd hM
  refine lv_aload_n hx hb dL_law_1379 rfl (lv_at hl 1 rfl) ?_
  refine lv_aload_n hx hb dL_law_1380 rfl (lv_at hl 0 rfl) ?_
  refine lv_iload hx hb dL_law_1381 (lv_at hl 4 rfl) ?_
  refine lv_iconst (v := nI 1) hx hb dL_law_1383 (by decide) ?_
  refine kn_iadd hx hb dL_law_1384 ?_
  refine kn_sld (i := i + 1) hx hb hX hbl hbA hS (by omega) (by omega) dL_law_1385 ?_
  refine lv_aload_n hx hb dL_law_1386 rfl (lv_at hl 3 rfl) ?_
  refine kcSWR (As := [.ref ax, .int (xs (i + 1)), .ref ao]) (rest := []) (wr := (Pw ++ ((am, .inr (6, fm)) :: wt))) (ws := ((ao, .inl (D.1 23, 1, .inr (.inl f))) :: wc)) ⟨hx, hb, hml, hown, hts⟩ hW (vx_cwSW 3 hts gL2_L_behind rfl rfl rfl (by decide +kernel) ⟨Nat.le_of_ble_eq_true rfl, Nat.le_of_ble_eq_true rfl⟩) hK hE (kq_1 _ Pw wc _) hP hD hS hA rfl hl.1 rfl (Nat.le_of_ble_eq_true rfl) dL_law_1387 ⟨by show cells + mc ≤ 603072; omega, by show slots + ms ≤ 7190634; omega⟩ (fun u H locs hu hP hD hS => ?_)
  refine W.eq (g2 := F0 m 1390 ls [.int (nI code)]) rfl ?_
  refine W.widen (k := cells + 5) (n := slots + 34) (by omega) (by omega) ?_
  refine lv_istore (lv' := [(5, .int (nI code)), (0, .ref b), (1, .ref ax), (2, .ref am), (3, .ref ao), (4, .int (nI i))]) hx hb dL_law_1390 hl (by decide) rfl (fun ls hl => ?_)
  cases u with
  | none =>
    have hu : 0 < code := hu
    have hP : va_P D kC ((Pw ++ ((am, .inr (6, fm)) :: wt)) ++ ((ao, .inl (D.1 23, 1, .inr (.inl f))) :: wc)) _ := hP
    have hD : va_D (fun q => s.heap.size ≤ q) ((Pw ++ ((am, .inr (6, fm)) :: wt)) ++ ((ao, .inl (D.1 23, 1, .inr (.inl f))) :: wc)) := hD
    refine lv_aload_n hx hb dL_law_1392 rfl (lv_at hl 3 rfl) ?_
    refine lv_aload_n hx hb dL_law_1393 rfl (lv_at hl 1 rfl) ?_
    refine lv_iload hx hb dL_law_1394 (lv_at hl 5 rfl) ?_
    refine lv_iconst (v := nI 1) hx hb dL_law_1396 (by decide) ?_
    refine kn_iadd hx hb dL_law_1397 ?_
    refine kn_sld (i := i + 1) hx hb hX hbl hbA hS (by omega) (by omega) dL_law_1398 ?_
    refine kcVR (C := RX6) (As := [.int (xs (i + 1))]) (rest := []) (wr := (ao, .inl (D.1 23, 1, .inr (.inl f))) :: (Pw ++ wc)) (ws := ((am, .inr (6, fm)) :: wt)) ⟨hx, hb, hml, hown, hts⟩ hN (cwV 1 hts gL2_X6_behind rfl hrm2.1 hrm2.2.1 (by decide +kernel) ⟨Nat.le_trans (Nat.succ_le_succ hrm2.2.2.1) (Nat.le_of_ble_eq_true rfl), Nat.le_trans (Nat.add_le_add_left hrm2.2.2.2 _) (Nat.le_of_ble_eq_true rfl)⟩) hK hE (kq_2 _ Pw wc _) hP hD hS hA 0 6 rfl rfl rfl rfl hl.1 rfl (Nat.le_of_ble_eq_true rfl) dL_law_1399 ⟨hcl, hsl⟩ (fun u2 H locs hp2 hP hD hS => ?_)
    refine W.eq (g2 := F0 m 1402 ls [.long (v2 u2)]) rfl ?_
    refine W.widen (k := cells + 5) (n := slots + 34) (Nat.le_refl _) (Nat.le_refl _) ?_
    refine lv_lstore (lv' := [(6, .long (v2 u2)), (5, .int (nI code)), (0, .ref b), (1, .ref ax), (2, .ref am), (3, .ref ao), (4, .int (nI i))]) hx hb dL_law_1402 hl (by decide) rfl (fun ls hl => ?_)
    refine lv_aload_n hx hb dL_law_1404 rfl (lv_at hl 4 rfl) ?_
    refine kcVR (C := RX6) (As := []) (rest := []) (wr := ((ao, .inl (D.1 23, 1, .inr (.inl f))) :: (Pw ++ wc)) ++ wt' u2) (ws := [(am, .inr (6, fm' u2))]) ⟨hx, hb, hml, hown, hts⟩ (hT u2) (cwV 0 hts gL2_X6_thrown rfl rfl rfl (by decide +kernel) ⟨Nat.le_of_ble_eq_true rfl, Nat.le_of_ble_eq_true rfl⟩) hK hE (kq_3 ((ao, .inl (D.1 23, 1, .inr (.inl f))) :: (Pw ++ wc)) (wt' u2) _) hP hD hS hA 0 6 rfl rfl rfl rfl hl.1 rfl (Nat.le_of_ble_eq_true rfl) dL_law_1405 ⟨hcl, hsl⟩ (fun _ H locs _ hP hD hS => ?_)
    refine W.eq (g2 := F0 m 1408 ls [.int (nI code)]) rfl ?_
    refine W.widen (k := cells + 5) (n := slots + 34) (Nat.le_refl _) (Nat.le_refl _) ?_
    refine lv_iload hx hb dL_law_1408 (lv_at hl 1 rfl) ?_
    refine lv_icmp_eq (tgt := 1415) hx hb dL_law_1410 (by decide) (fun _ => ?_) (fun c_1410 => absurd rfl c_1410)
    refine lv_iload hx hb dL_law_1415 (lv_at hl 1 rfl) ?_
    refine kn_if_ne (tgt := 1431) hx hb (by omega) dL_law_1417 (by decide) (fun _ => ?_) (fun c_1417 => absurd hu (by omega))
    refine lv_goto (tgt := 1589) hx hb dL_law_1431 (by decide) ?_
    exact k1 hu u2 _ _ ls hp2 (kp_P (kq_4 _ _ Pw wc _) hP) (kp_D (kq_4 _ _ Pw wc _) hD) hS (lv_sub hl [2, 3, 4, 5, 6] rfl)
  | some z =>
    obtain ⟨hc0, hpo⟩ := hu
    subst hc0
    have hP : va_P D kC ((Pw ++ ((am, .inr (6, fm)) :: wt)) ++ ((ao, .inl (D.1 23, 1, .inr (.inl (vp_updL f 0 (v z))))) :: (wc' z))) _ := hP
    have hD : va_D (fun q => s.heap.size ≤ q) ((Pw ++ ((am, .inr (6, fm)) :: wt)) ++ ((ao, .inl (D.1 23, 1, .inr (.inl (vp_updL f 0 (v z))))) :: (wc' z))) := hD
    refine lv_aload_n hx hb dL_law_1392 rfl (lv_at hl 3 rfl) ?_
    refine lv_aload_n hx hb dL_law_1393 rfl (lv_at hl 1 rfl) ?_
    refine lv_iload hx hb dL_law_1394 (lv_at hl 5 rfl) ?_
    refine lv_iconst (v := nI 1) hx hb dL_law_1396 (by decide) ?_
    refine kn_iadd hx hb dL_law_1397 ?_
    refine kn_sld (i := i + 1) hx hb hX hbl hbA hS (by omega) (by omega) dL_law_1398 ?_
    refine kcVR (C := RX6) (As := [.int (xs (i + 1))]) (rest := []) (wr := (ao, .inl (D.1 23, 1, .inr (.inl (vp_updL f 0 (v z))))) :: (Pw ++ (wc' z))) (ws := ((am, .inr (6, fm)) :: wt)) ⟨hx, hb, hml, hown, hts⟩ hN (cwV 1 hts gL2_X6_behind rfl hrm2.1 hrm2.2.1 (by decide +kernel) ⟨Nat.le_trans (Nat.succ_le_succ hrm2.2.2.1) (Nat.le_of_ble_eq_true rfl), Nat.le_trans (Nat.add_le_add_left hrm2.2.2.2 _) (Nat.le_of_ble_eq_true rfl)⟩) hK hE (kq_2 _ Pw (wc' z) _) hP hD hS hA 0 6 rfl rfl rfl rfl hl.1 rfl (Nat.le_of_ble_eq_true rfl) dL_law_1399 ⟨hcl, hsl⟩ (fun u2 H locs hp2 hP hD hS => ?_)
    refine W.eq (g2 := F0 m 1402 ls [.long (v2 u2)]) rfl ?_
    refine W.widen (k := cells + 5) (n := slots + 34) (Nat.le_refl _) (Nat.le_refl _) ?_
    refine lv_lstore (lv' := [(6, .long (v2 u2)), (5, .int (nI 0)), (0, .ref b), (1, .ref ax), (2, .ref am), (3, .ref ao), (4, .int (nI i))]) hx hb dL_law_1402 hl (by decide) rfl (fun ls hl => ?_)
    refine lv_aload_n hx hb dL_law_1404 rfl (lv_at hl 4 rfl) ?_
    refine kcVR (C := RX6) (As := []) (rest := []) (wr := ((ao, .inl (D.1 23, 1, .inr (.inl (vp_updL f 0 (v z))))) :: (Pw ++ (wc' z))) ++ wt' u2) (ws := [(am, .inr (6, fm' u2))]) ⟨hx, hb, hml, hown, hts⟩ (hT u2) (cwV 0 hts gL2_X6_thrown rfl rfl rfl (by decide +kernel) ⟨Nat.le_of_ble_eq_true rfl, Nat.le_of_ble_eq_true rfl⟩) hK hE (kq_3 ((ao, .inl (D.1 23, 1, .inr (.inl (vp_updL f 0 (v z))))) :: (Pw ++ (wc' z))) (wt' u2) _) hP hD hS hA 0 6 rfl rfl rfl rfl hl.1 rfl (Nat.le_of_ble_eq_true rfl) dL_law_1405 ⟨hcl, hsl⟩ (fun _ H locs _ hP hD hS => ?_)
    refine W.eq (g2 := F0 m 1408 ls [.int (nI 0)]) rfl ?_
    refine W.widen (k := cells + 5) (n := slots + 34) (Nat.le_refl _) (Nat.le_refl _) ?_
    refine lv_iload hx hb dL_law_1408 (lv_at hl 1 rfl) ?_
    refine lv_icmp_eq (tgt := 1415) hx hb dL_law_1410 (by decide) (fun _ => ?_) (fun c_1410 => absurd rfl c_1410)
    refine lv_iload hx hb dL_law_1415 (lv_at hl 1 rfl) ?_
    refine kn_if_ne (tgt := 1431) hx hb (by omega) dL_law_1417 (by decide) (fun c_1417 => absurd c_1417 (Nat.lt_irrefl _)) (fun _ => ?_)
    refine lv_aload_n hx hb dL_law_1420 rfl (lv_at hl 5 rfl) ?_
    refine lv_iconst (v := nI 0) hx hb dL_law_1421 (by decide) ?_
    refine kn_lald hx hb hK hP 0 3 rfl rfl (i := 0) (by omega) (by decide) dL_law_1422 ?_
    refine lv_lload hx hb dL_law_1423 (lv_at hl 0 rfl) ?_
    refine W.lcmp hx hb dL_law_1425 ?_
    refine lv_if_eq (tgt := 1431) hx hb dL_law_1426 (by decide) (fun _ => ?_) (fun c_1426 => absurd ((lg_cmp_eq _ _).mpr ((k_uL _ _ _).trans (hans z u2 rfl hpo hp2))) c_1426)
    refine lv_goto (tgt := 1589) hx hb dL_law_1431 (by decide) ?_
    exact k0 rfl z hpo u2 _ _ ls hp2 (kp_P (kq_4 _ _ Pw (wc' z) _) hP) (kp_D (kq_4 _ _ Pw (wc' z) _) hD) hS (lv_sub hl [2, 3, 4, 5, 6] rfl)
set_option maxHeartbeats 4000000 in
set_option maxRecDepth 100000 in
theorem o_stamp {p : Program} {l : Launch} {e : Env} {s : State} {m : MethodId} {below : List Frame} {meth : Method} {c : Code} {b L : Nat} {xs : Nat → Int32} {D : va_G} {Q : State → Prop} {H : Heap} {locs : List Loc} {cells slots : Nat} {ls : Array Slot} {S S2 : Type} (ax am ao i : Nat) (f : Nat → Int64) (Pw wc wt : va_W) (wc' : S → va_W) (wt' : S2 → va_W) (po : S → Prop) (po2 : S2 → Prop) (v : S → Int32) (v2 : S2 → Int32) (code mc ms q0 : Nat) (rm rm2 : Room) (fs fm : List Value) (fm' : S2 → List Value)
    (h0 : kLaw p s m c b L xs D) (hi : i + 7 ≤ L) (hl : lv_has ls 8 [(0, .ref b), (1, .ref ax), (2, .ref am), (3, .ref ao), (4, .int (nI i))]) (he : wc[q0]? = some (ax, .inr (5, fs))) (hrm : rm.cells = mc ∧ rm.slots = ms ∧ rm.frames ≤ 11 ∧ rm.locals ≤ 340) (hm5 : mc ≤ 5 ∧ ms ≤ 34) (hrm2 : rm2.cells = 0 ∧ rm2.slots = 0 ∧ rm2.frames ≤ 11 ∧ rm2.locals ≤ 340) (hcd : code ≤ 2) (hcl : cells + 5 ≤ 603072) (hsl : slots + 34 ≤ 7190634)
    (hM : kX l yX5_stamp wsX5_stamp rm mc ms D [.ref ax, .long (kLg (xs (i + 1)) (xs (i + 2)))] wc (kEx [kIae, kUoe] code) (fun u => some (.int (v u))) wc' po)
    (hN : kM l yX6_stamp wsX6_stamp rm2 0 0 D [.ref am, .long (kLg (xs (i + 1)) (xs (i + 2)))] ((am, .inr (6, fm)) :: wt) (fun u => some (.int (v2 u))) (fun u => (am, .inr (6, fm' u)) :: wt' u) po2)
    (hT : ∀ u, kM (S := Unit) l yX6_thrown wsX6_thrown { frames := 7, cells := 0, slots := 0, locals := 100 } 0 0 D [.ref am] [(am, .inr (6, fm' u))] (fun _ => some (.int (nI code))) (fun _ => [(am, .inr (6, fm' u))]) (fun _ => True))
    (hans : ∀ z u, code = 0 → po z → po2 u → (v z).toInt64 = (v2 u).toInt64)
    (hP : va_P D kC ((ao, .inl (D.1 23, 1, .inr (.inl f))) :: (Pw ++ (wc ++ ((am, .inr (6, fm)) :: wt)))) H) (hD : va_D (fun q => s.heap.size ≤ q) ((ao, .inl (D.1 23, 1, .inr (.inl f))) :: (Pw ++ (wc ++ ((am, .inr (6, fm)) :: wt))))) (hS : va_S (fun q => s.heap.size ≤ q) s.heap H locs)
    (k0 : code = 0 → ∀ (z : S), po z → ∀ (u : S2) (H1 : Heap) (locs1 : List Loc) (ls1 : Array Slot), po2 u → va_P D kC ((ao, .inl (D.1 23, 1, .inr (.inl (vp_updL f 0 (v z).toInt64)))) :: (Pw ++ (wc' z ++ ((am, .inr (6, fm' u)) :: wt' u)))) H1 → va_D (fun q => s.heap.size ≤ q) ((ao, .inl (D.1 23, 1, .inr (.inl (vp_updL f 0 (v z).toInt64)))) :: (Pw ++ (wc' z ++ ((am, .inr (6, fm' u)) :: wt' u)))) → va_S (fun q => s.heap.size ≤ q) s.heap H1 locs1 → lv_has ls1 8 [(0, .ref b), (1, .ref ax), (2, .ref am), (3, .ref ao), (4, .int (nI i))] → W p l e room_1 s m #[Value.ref b] below meth c H1 locs1 (cells + 5) (slots + 34) Q (F0 m 1589 ls1 []))
    (k1 : 0 < code → ∀ (u : S2) (H1 : Heap) (locs1 : List Loc) (ls1 : Array Slot), po2 u → va_P D kC ((ao, .inl (D.1 23, 1, .inr (.inl f))) :: (Pw ++ (wc ++ ((am, .inr (6, fm' u)) :: wt' u)))) H1 → va_D (fun q => s.heap.size ≤ q) ((ao, .inl (D.1 23, 1, .inr (.inl f))) :: (Pw ++ (wc ++ ((am, .inr (6, fm' u)) :: wt' u)))) → va_S (fun q => s.heap.size ≤ q) s.heap H1 locs1 → lv_has ls1 8 [(0, .ref b), (1, .ref ax), (2, .ref am), (3, .ref ao), (4, .int (nI i))] → W p l e room_1 s m #[Value.ref b] below meth c H1 locs1 (cells + 5) (slots + 34) Q (F0 m 1589 ls1 []))
    : W p l e room_1 s m #[Value.ref b] below meth c H locs cells slots Q (F0 m 1434 ls []) := by
  obtain ⟨hx, hb, hml, hown, hts, hX, hbl, hL9, hK, hE⟩ := h0
  have hA : ∀ q : Nat, s.heap.size ≤ q → (fun q => s.heap.size ≤ q) q := fun q h => h
  have hbA : ¬ (fun q => s.heap.size ≤ q) b := Nat.not_le.mpr hbl
  have hc9 := hts (.constantLong RL 100 (4294967295)) lw_c100
  have hW := w_stamp l D ax ao (kLg (xs (i + 1)) (xs (i + 2))) f wc wc' po v code mc ms q0 rm fs he hrm hcd hM
  refine lv_aload_n hx hb dL_law_1434 rfl (lv_at hl 1 rfl) ?_
  refine lv_aload_n hx hb dL_law_1435 rfl (lv_at hl 0 rfl) ?_
  refine lv_iload hx hb dL_law_1436 (lv_at hl 4 rfl) ?_
  refine lv_iconst (v := nI 1) hx hb dL_law_1438 (by decide) ?_
  refine kn_iadd hx hb dL_law_1439 ?_
  refine kn_sld (i := i + 1) hx hb hX hbl hbA hS (by omega) (by omega) dL_law_1440 ?_
  refine lv_i2l (v := (xs (i + 1)).toInt64) hx hb dL_law_1441 rfl ?_
  refine lv_bipush (v := nI 32) hx hb dL_law_1442 (by decide) ?_
  refine lv_lshl (v := ((xs (i + 1)).toInt64) <<< ((nI 32).toInt64 &&& 63)) hx hb dL_law_1444 rfl ?_
  refine lv_aload_n hx hb dL_law_1445 rfl (lv_at hl 0 rfl) ?_
  refine lv_iload hx hb dL_law_1446 (lv_at hl 4 rfl) ?_
  refine lv_iconst (v := nI 2) hx hb dL_law_1448 (by decide) ?_
  refine kn_iadd hx hb dL_law_1449 ?_
  refine kn_sld (i := i + 2) hx hb hX hbl hbA hS (by omega) (by omega) dL_law_1450 ?_
  refine lv_i2l (v := (xs (i + 2)).toInt64) hx hb dL_law_1451 rfl ?_
  refine lv_ldc2 (v := 4294967295) hx hb hown hc9 dL_law_1452 ?_
  refine lv_land hx hb dL_law_1455 ?_
  refine lv_lor hx hb dL_law_1456 ?_
  refine kt_l (v' := kLg (xs (i + 1)) (xs (i + 2))) rfl ?_
  refine lv_aload_n hx hb dL_law_1457 rfl (lv_at hl 3 rfl) ?_
  refine kcSWR (As := [.ref ax, .long (kLg (xs (i + 1)) (xs (i + 2))), .ref ao]) (rest := []) (wr := (Pw ++ ((am, .inr (6, fm)) :: wt))) (ws := ((ao, .inl (D.1 23, 1, .inr (.inl f))) :: wc)) ⟨hx, hb, hml, hown, hts⟩ hW (vx_cwSW 3 hts gL2_L_stamp rfl rfl rfl (by decide +kernel) ⟨Nat.le_of_ble_eq_true rfl, Nat.le_of_ble_eq_true rfl⟩) hK hE (kq_1 _ Pw wc _) hP hD hS hA rfl hl.1 rfl (Nat.le_of_ble_eq_true rfl) dL_law_1458 ⟨by show cells + mc ≤ 603072; omega, by show slots + ms ≤ 7190634; omega⟩ (fun u H locs hu hP hD hS => ?_)
  refine W.eq (g2 := F0 m 1461 ls [.int (nI code)]) rfl ?_
  refine W.widen (k := cells + 5) (n := slots + 34) (by omega) (by omega) ?_
  refine lv_istore (lv' := [(5, .int (nI code)), (0, .ref b), (1, .ref ax), (2, .ref am), (3, .ref ao), (4, .int (nI i))]) hx hb dL_law_1461 hl (by decide) rfl (fun ls hl => ?_)
  cases u with
  | none =>
    have hu : 0 < code := hu
    have hP : va_P D kC ((Pw ++ ((am, .inr (6, fm)) :: wt)) ++ ((ao, .inl (D.1 23, 1, .inr (.inl f))) :: wc)) _ := hP
    have hD : va_D (fun q => s.heap.size ≤ q) ((Pw ++ ((am, .inr (6, fm)) :: wt)) ++ ((ao, .inl (D.1 23, 1, .inr (.inl f))) :: wc)) := hD
    refine lv_aload_n hx hb dL_law_1463 rfl (lv_at hl 3 rfl) ?_
    refine lv_aload_n hx hb dL_law_1464 rfl (lv_at hl 1 rfl) ?_
    refine lv_iload hx hb dL_law_1465 (lv_at hl 5 rfl) ?_
    refine lv_iconst (v := nI 1) hx hb dL_law_1467 (by decide) ?_
    refine kn_iadd hx hb dL_law_1468 ?_
    refine kn_sld (i := i + 1) hx hb hX hbl hbA hS (by omega) (by omega) dL_law_1469 ?_
    refine lv_i2l (v := (xs (i + 1)).toInt64) hx hb dL_law_1470 rfl ?_
    refine lv_bipush (v := nI 32) hx hb dL_law_1471 (by decide) ?_
    refine lv_lshl (v := ((xs (i + 1)).toInt64) <<< ((nI 32).toInt64 &&& 63)) hx hb dL_law_1473 rfl ?_
    refine lv_aload_n hx hb dL_law_1474 rfl (lv_at hl 1 rfl) ?_
    refine lv_iload hx hb dL_law_1475 (lv_at hl 5 rfl) ?_
    refine lv_iconst (v := nI 2) hx hb dL_law_1477 (by decide) ?_
    refine kn_iadd hx hb dL_law_1478 ?_
    refine kn_sld (i := i + 2) hx hb hX hbl hbA hS (by omega) (by omega) dL_law_1479 ?_
    refine lv_i2l (v := (xs (i + 2)).toInt64) hx hb dL_law_1480 rfl ?_
    refine lv_ldc2 (v := 4294967295) hx hb hown hc9 dL_law_1481 ?_
    refine lv_land hx hb dL_law_1484 ?_
    refine lv_lor hx hb dL_law_1485 ?_
    refine kt_l (v' := kLg (xs (i + 1)) (xs (i + 2))) rfl ?_
    refine kcVR (C := RX6) (As := [.long (kLg (xs (i + 1)) (xs (i + 2)))]) (rest := []) (wr := (ao, .inl (D.1 23, 1, .inr (.inl f))) :: (Pw ++ wc)) (ws := ((am, .inr (6, fm)) :: wt)) ⟨hx, hb, hml, hown, hts⟩ hN (cwV 1 hts gL2_X6_stamp rfl hrm2.1 hrm2.2.1 (by decide +kernel) ⟨Nat.le_trans (Nat.succ_le_succ hrm2.2.2.1) (Nat.le_of_ble_eq_true rfl), Nat.le_trans (Nat.add_le_add_left hrm2.2.2.2 _) (Nat.le_of_ble_eq_true rfl)⟩) hK hE (kq_2 _ Pw wc _) hP hD hS hA 0 6 rfl rfl rfl rfl hl.1 rfl (Nat.le_of_ble_eq_true rfl) dL_law_1486 ⟨hcl, hsl⟩ (fun u2 H locs hp2 hP hD hS => ?_)
    refine W.eq (g2 := F0 m 1489 ls [.int (v2 u2)]) rfl ?_
    refine W.widen (k := cells + 5) (n := slots + 34) (Nat.le_refl _) (Nat.le_refl _) ?_
    refine lv_istore (lv' := [(6, .int (v2 u2)), (5, .int (nI code)), (0, .ref b), (1, .ref ax), (2, .ref am), (3, .ref ao), (4, .int (nI i))]) hx hb dL_law_1489 hl (by decide) rfl (fun ls hl => ?_)
    refine lv_aload_n hx hb dL_law_1491 rfl (lv_at hl 4 rfl) ?_
    refine kcVR (C := RX6) (As := []) (rest := []) (wr := ((ao, .inl (D.1 23, 1, .inr (.inl f))) :: (Pw ++ wc)) ++ wt' u2) (ws := [(am, .inr (6, fm' u2))]) ⟨hx, hb, hml, hown, hts⟩ (hT u2) (cwV 0 hts gL2_X6_thrown rfl rfl rfl (by decide +kernel) ⟨Nat.le_of_ble_eq_true rfl, Nat.le_of_ble_eq_true rfl⟩) hK hE (kq_3 ((ao, .inl (D.1 23, 1, .inr (.inl f))) :: (Pw ++ wc)) (wt' u2) _) hP hD hS hA 0 6 rfl rfl rfl rfl hl.1 rfl (Nat.le_of_ble_eq_true rfl) dL_law_1492 ⟨hcl, hsl⟩ (fun _ H locs _ hP hD hS => ?_)
    refine W.eq (g2 := F0 m 1495 ls [.int (nI code)]) rfl ?_
    refine W.widen (k := cells + 5) (n := slots + 34) (Nat.le_refl _) (Nat.le_refl _) ?_
    refine lv_iload hx hb dL_law_1495 (lv_at hl 1 rfl) ?_
    refine lv_icmp_eq (tgt := 1502) hx hb dL_law_1497 (by decide) (fun _ => ?_) (fun c_1497 => absurd rfl c_1497)
    refine lv_iload hx hb dL_law_1502 (lv_at hl 1 rfl) ?_
    refine kn_if_ne (tgt := 1519) hx hb (by omega) dL_law_1504 (by decide) (fun _ => ?_) (fun c_1504 => absurd hu (by omega))
    refine lv_goto (tgt := 1589) hx hb dL_law_1519 (by decide) ?_
    exact k1 hu u2 _ _ ls hp2 (kp_P (kq_4 _ _ Pw wc _) hP) (kp_D (kq_4 _ _ Pw wc _) hD) hS (lv_sub hl [2, 3, 4, 5, 6] rfl)
  | some z =>
    obtain ⟨hc0, hpo⟩ := hu
    subst hc0
    have hP : va_P D kC ((Pw ++ ((am, .inr (6, fm)) :: wt)) ++ ((ao, .inl (D.1 23, 1, .inr (.inl (vp_updL f 0 (v z).toInt64)))) :: (wc' z))) _ := hP
    have hD : va_D (fun q => s.heap.size ≤ q) ((Pw ++ ((am, .inr (6, fm)) :: wt)) ++ ((ao, .inl (D.1 23, 1, .inr (.inl (vp_updL f 0 (v z).toInt64)))) :: (wc' z))) := hD
    refine lv_aload_n hx hb dL_law_1463 rfl (lv_at hl 3 rfl) ?_
    refine lv_aload_n hx hb dL_law_1464 rfl (lv_at hl 1 rfl) ?_
    refine lv_iload hx hb dL_law_1465 (lv_at hl 5 rfl) ?_
    refine lv_iconst (v := nI 1) hx hb dL_law_1467 (by decide) ?_
    refine kn_iadd hx hb dL_law_1468 ?_
    refine kn_sld (i := i + 1) hx hb hX hbl hbA hS (by omega) (by omega) dL_law_1469 ?_
    refine lv_i2l (v := (xs (i + 1)).toInt64) hx hb dL_law_1470 rfl ?_
    refine lv_bipush (v := nI 32) hx hb dL_law_1471 (by decide) ?_
    refine lv_lshl (v := ((xs (i + 1)).toInt64) <<< ((nI 32).toInt64 &&& 63)) hx hb dL_law_1473 rfl ?_
    refine lv_aload_n hx hb dL_law_1474 rfl (lv_at hl 1 rfl) ?_
    refine lv_iload hx hb dL_law_1475 (lv_at hl 5 rfl) ?_
    refine lv_iconst (v := nI 2) hx hb dL_law_1477 (by decide) ?_
    refine kn_iadd hx hb dL_law_1478 ?_
    refine kn_sld (i := i + 2) hx hb hX hbl hbA hS (by omega) (by omega) dL_law_1479 ?_
    refine lv_i2l (v := (xs (i + 2)).toInt64) hx hb dL_law_1480 rfl ?_
    refine lv_ldc2 (v := 4294967295) hx hb hown hc9 dL_law_1481 ?_
    refine lv_land hx hb dL_law_1484 ?_
    refine lv_lor hx hb dL_law_1485 ?_
    refine kt_l (v' := kLg (xs (i + 1)) (xs (i + 2))) rfl ?_
    refine kcVR (C := RX6) (As := [.long (kLg (xs (i + 1)) (xs (i + 2)))]) (rest := []) (wr := (ao, .inl (D.1 23, 1, .inr (.inl (vp_updL f 0 (v z).toInt64)))) :: (Pw ++ (wc' z))) (ws := ((am, .inr (6, fm)) :: wt)) ⟨hx, hb, hml, hown, hts⟩ hN (cwV 1 hts gL2_X6_stamp rfl hrm2.1 hrm2.2.1 (by decide +kernel) ⟨Nat.le_trans (Nat.succ_le_succ hrm2.2.2.1) (Nat.le_of_ble_eq_true rfl), Nat.le_trans (Nat.add_le_add_left hrm2.2.2.2 _) (Nat.le_of_ble_eq_true rfl)⟩) hK hE (kq_2 _ Pw (wc' z) _) hP hD hS hA 0 6 rfl rfl rfl rfl hl.1 rfl (Nat.le_of_ble_eq_true rfl) dL_law_1486 ⟨hcl, hsl⟩ (fun u2 H locs hp2 hP hD hS => ?_)
    refine W.eq (g2 := F0 m 1489 ls [.int (v2 u2)]) rfl ?_
    refine W.widen (k := cells + 5) (n := slots + 34) (Nat.le_refl _) (Nat.le_refl _) ?_
    refine lv_istore (lv' := [(6, .int (v2 u2)), (5, .int (nI 0)), (0, .ref b), (1, .ref ax), (2, .ref am), (3, .ref ao), (4, .int (nI i))]) hx hb dL_law_1489 hl (by decide) rfl (fun ls hl => ?_)
    refine lv_aload_n hx hb dL_law_1491 rfl (lv_at hl 4 rfl) ?_
    refine kcVR (C := RX6) (As := []) (rest := []) (wr := ((ao, .inl (D.1 23, 1, .inr (.inl (vp_updL f 0 (v z).toInt64)))) :: (Pw ++ (wc' z))) ++ wt' u2) (ws := [(am, .inr (6, fm' u2))]) ⟨hx, hb, hml, hown, hts⟩ (hT u2) (cwV 0 hts gL2_X6_thrown rfl rfl rfl (by decide +kernel) ⟨Nat.le_of_ble_eq_true rfl, Nat.le_of_ble_eq_true rfl⟩) hK hE (kq_3 ((ao, .inl (D.1 23, 1, .inr (.inl (vp_updL f 0 (v z).toInt64)))) :: (Pw ++ (wc' z))) (wt' u2) _) hP hD hS hA 0 6 rfl rfl rfl rfl hl.1 rfl (Nat.le_of_ble_eq_true rfl) dL_law_1492 ⟨hcl, hsl⟩ (fun _ H locs _ hP hD hS => ?_)
    refine W.eq (g2 := F0 m 1495 ls [.int (nI 0)]) rfl ?_
    refine W.widen (k := cells + 5) (n := slots + 34) (Nat.le_refl _) (Nat.le_refl _) ?_
    refine lv_iload hx hb dL_law_1495 (lv_at hl 1 rfl) ?_
    refine lv_icmp_eq (tgt := 1502) hx hb dL_law_1497 (by decide) (fun _ => ?_) (fun c_1497 => absurd rfl c_1497)
    refine lv_iload hx hb dL_law_1502 (lv_at hl 1 rfl) ?_
    refine kn_if_ne (tgt := 1519) hx hb (by omega) dL_law_1504 (by decide) (fun c_1504 => absurd c_1504 (Nat.lt_irrefl _)) (fun _ => ?_)
    refine lv_aload_n hx hb dL_law_1507 rfl (lv_at hl 5 rfl) ?_
    refine lv_iconst (v := nI 0) hx hb dL_law_1508 (by decide) ?_
    refine kn_lald hx hb hK hP 0 3 rfl rfl (i := 0) (by omega) (by decide) dL_law_1509 ?_
    refine lv_iload hx hb dL_law_1510 (lv_at hl 0 rfl) ?_
    refine lv_i2l (v := (v2 u2).toInt64) hx hb dL_law_1512 rfl ?_
    refine W.lcmp hx hb dL_law_1513 ?_
    refine lv_if_eq (tgt := 1519) hx hb dL_law_1514 (by decide) (fun _ => ?_) (fun c_1514 => absurd ((lg_cmp_eq _ _).mpr ((k_uL _ _ _).trans (hans z u2 rfl hpo hp2))) c_1514)
    refine lv_goto (tgt := 1589) hx hb dL_law_1519 (by decide) ?_
    exact k0 rfl z hpo u2 _ _ ls hp2 (kp_P (kq_4 _ _ Pw (wc' z) _) hP) (kp_D (kq_4 _ _ Pw (wc' z) _) hD) hS (lv_sub hl [2, 3, 4, 5, 6] rfl)
set_option maxHeartbeats 4000000 in
set_option maxRecDepth 100000 in
theorem o_stamped {p : Program} {l : Launch} {e : Env} {s : State} {m : MethodId} {below : List Frame} {meth : Method} {c : Code} {b L : Nat} {xs : Nat → Int32} {D : va_G} {Q : State → Prop} {H : Heap} {locs : List Loc} {cells slots : Nat} {ls : Array Slot} {S S2 : Type} (ax am ao i : Nat) (f : Nat → Int64) (Pw wc wt : va_W) (wc' : S → va_W) (wt' : S2 → va_W) (po : S → Prop) (po2 : S2 → Prop) (v : S → Int64) (v2 : S2 → Int64) (code mc ms q0 : Nat) (rm rm2 : Room) (fs fm : List Value) (fm' : S2 → List Value)
    (h0 : kLaw p s m c b L xs D) (hi : i + 7 ≤ L) (hl : lv_has ls 8 [(0, .ref b), (1, .ref ax), (2, .ref am), (3, .ref ao), (4, .int (nI i))]) (he : wc[q0]? = some (ax, .inr (5, fs))) (hrm : rm.cells = mc ∧ rm.slots = ms ∧ rm.frames ≤ 11 ∧ rm.locals ≤ 340) (hm5 : mc ≤ 5 ∧ ms ≤ 34) (hrm2 : rm2.cells = 0 ∧ rm2.slots = 0 ∧ rm2.frames ≤ 11 ∧ rm2.locals ≤ 340) (hcd : code ≤ 1) (hcl : cells + 5 ≤ 603072) (hsl : slots + 34 ≤ 7190634)
    (hM : kX l yX5_stamped wsX5_stamped rm mc ms D [.ref ax, .int (xs (i + 1)), .int (xs (i + 2))] wc (kEx [kIob] code) (fun u => some (.long (v u))) wc' po)
    (hN : kM l yX6_stamped wsX6_stamped rm2 0 0 D [.ref am, .int (xs (i + 1)), .int (xs (i + 2))] ((am, .inr (6, fm)) :: wt) (fun u => some (.long (v2 u))) (fun u => (am, .inr (6, fm' u)) :: wt' u) po2)
    (hT : ∀ u, kM (S := Unit) l yX6_thrown wsX6_thrown { frames := 7, cells := 0, slots := 0, locals := 100 } 0 0 D [.ref am] [(am, .inr (6, fm' u))] (fun _ => some (.int (nI code))) (fun _ => [(am, .inr (6, fm' u))]) (fun _ => True))
    (hans : ∀ z u, code = 0 → po z → po2 u → v z = v2 u)
    (hP : va_P D kC ((ao, .inl (D.1 23, 1, .inr (.inl f))) :: (Pw ++ (wc ++ ((am, .inr (6, fm)) :: wt)))) H) (hD : va_D (fun q => s.heap.size ≤ q) ((ao, .inl (D.1 23, 1, .inr (.inl f))) :: (Pw ++ (wc ++ ((am, .inr (6, fm)) :: wt))))) (hS : va_S (fun q => s.heap.size ≤ q) s.heap H locs)
    (k0 : code = 0 → ∀ (z : S), po z → ∀ (u : S2) (H1 : Heap) (locs1 : List Loc) (ls1 : Array Slot), po2 u → va_P D kC ((ao, .inl (D.1 23, 1, .inr (.inl (vp_updL f 0 (v z))))) :: (Pw ++ (wc' z ++ ((am, .inr (6, fm' u)) :: wt' u)))) H1 → va_D (fun q => s.heap.size ≤ q) ((ao, .inl (D.1 23, 1, .inr (.inl (vp_updL f 0 (v z))))) :: (Pw ++ (wc' z ++ ((am, .inr (6, fm' u)) :: wt' u)))) → va_S (fun q => s.heap.size ≤ q) s.heap H1 locs1 → lv_has ls1 8 [(0, .ref b), (1, .ref ax), (2, .ref am), (3, .ref ao), (4, .int (nI i))] → W p l e room_1 s m #[Value.ref b] below meth c H1 locs1 (cells + 5) (slots + 34) Q (F0 m 1589 ls1 []))
    (k1 : 0 < code → ∀ (u : S2) (H1 : Heap) (locs1 : List Loc) (ls1 : Array Slot), po2 u → va_P D kC ((ao, .inl (D.1 23, 1, .inr (.inl f))) :: (Pw ++ (wc ++ ((am, .inr (6, fm' u)) :: wt' u)))) H1 → va_D (fun q => s.heap.size ≤ q) ((ao, .inl (D.1 23, 1, .inr (.inl f))) :: (Pw ++ (wc ++ ((am, .inr (6, fm' u)) :: wt' u)))) → va_S (fun q => s.heap.size ≤ q) s.heap H1 locs1 → lv_has ls1 8 [(0, .ref b), (1, .ref ax), (2, .ref am), (3, .ref ao), (4, .int (nI i))] → W p l e room_1 s m #[Value.ref b] below meth c H1 locs1 (cells + 5) (slots + 34) Q (F0 m 1589 ls1 []))
    : W p l e room_1 s m #[Value.ref b] below meth c H locs cells slots Q (F0 m 1522 ls []) := by
  obtain ⟨hx, hb, hml, hown, hts, hX, hbl, hL9, hK, hE⟩ := h0
  have hA : ∀ q : Nat, s.heap.size ≤ q → (fun q => s.heap.size ≤ q) q := fun q h => h
  have hbA : ¬ (fun q => s.heap.size ≤ q) b := Nat.not_le.mpr hbl
  have hc9 := hts (.constantLong RL 100 (4294967295)) lw_c100
  have hW := w_stamped l D ax ao (xs (i + 1)) (xs (i + 2)) f wc wc' po v code mc ms q0 rm fs he hrm hcd hM
  refine lv_aload_n hx hb dL_law_1522 rfl (lv_at hl 1 rfl) ?_
  refine lv_aload_n hx hb dL_law_1523 rfl (lv_at hl 0 rfl) ?_
  refine lv_iload hx hb dL_law_1524 (lv_at hl 4 rfl) ?_
  refine lv_iconst (v := nI 1) hx hb dL_law_1526 (by decide) ?_
  refine kn_iadd hx hb dL_law_1527 ?_
  refine kn_sld (i := i + 1) hx hb hX hbl hbA hS (by omega) (by omega) dL_law_1528 ?_
  refine lv_aload_n hx hb dL_law_1529 rfl (lv_at hl 0 rfl) ?_
  refine lv_iload hx hb dL_law_1530 (lv_at hl 4 rfl) ?_
  refine lv_iconst (v := nI 2) hx hb dL_law_1532 (by decide) ?_
  refine kn_iadd hx hb dL_law_1533 ?_
  refine kn_sld (i := i + 2) hx hb hX hbl hbA hS (by omega) (by omega) dL_law_1534 ?_
  refine lv_aload_n hx hb dL_law_1535 rfl (lv_at hl 3 rfl) ?_
  refine kcSWR (As := [.ref ax, .int (xs (i + 1)), .int (xs (i + 2)), .ref ao]) (rest := []) (wr := (Pw ++ ((am, .inr (6, fm)) :: wt))) (ws := ((ao, .inl (D.1 23, 1, .inr (.inl f))) :: wc)) ⟨hx, hb, hml, hown, hts⟩ hW (vx_cwSW 4 hts gL2_L_stamped rfl rfl rfl (by decide +kernel) ⟨Nat.le_of_ble_eq_true rfl, Nat.le_of_ble_eq_true rfl⟩) hK hE (kq_1 _ Pw wc _) hP hD hS hA rfl hl.1 rfl (Nat.le_of_ble_eq_true rfl) dL_law_1536 ⟨by show cells + mc ≤ 603072; omega, by show slots + ms ≤ 7190634; omega⟩ (fun u H locs hu hP hD hS => ?_)
  refine W.eq (g2 := F0 m 1539 ls [.int (nI code)]) rfl ?_
  refine W.widen (k := cells + 5) (n := slots + 34) (by omega) (by omega) ?_
  refine lv_istore (lv' := [(5, .int (nI code)), (0, .ref b), (1, .ref ax), (2, .ref am), (3, .ref ao), (4, .int (nI i))]) hx hb dL_law_1539 hl (by decide) rfl (fun ls hl => ?_)
  cases u with
  | none =>
    have hu : 0 < code := hu
    have hP : va_P D kC ((Pw ++ ((am, .inr (6, fm)) :: wt)) ++ ((ao, .inl (D.1 23, 1, .inr (.inl f))) :: wc)) _ := hP
    have hD : va_D (fun q => s.heap.size ≤ q) ((Pw ++ ((am, .inr (6, fm)) :: wt)) ++ ((ao, .inl (D.1 23, 1, .inr (.inl f))) :: wc)) := hD
    refine lv_aload_n hx hb dL_law_1541 rfl (lv_at hl 3 rfl) ?_
    refine lv_aload_n hx hb dL_law_1542 rfl (lv_at hl 1 rfl) ?_
    refine lv_iload hx hb dL_law_1543 (lv_at hl 5 rfl) ?_
    refine lv_iconst (v := nI 1) hx hb dL_law_1545 (by decide) ?_
    refine kn_iadd hx hb dL_law_1546 ?_
    refine kn_sld (i := i + 1) hx hb hX hbl hbA hS (by omega) (by omega) dL_law_1547 ?_
    refine lv_aload_n hx hb dL_law_1548 rfl (lv_at hl 1 rfl) ?_
    refine lv_iload hx hb dL_law_1549 (lv_at hl 5 rfl) ?_
    refine lv_iconst (v := nI 2) hx hb dL_law_1551 (by decide) ?_
    refine kn_iadd hx hb dL_law_1552 ?_
    refine kn_sld (i := i + 2) hx hb hX hbl hbA hS (by omega) (by omega) dL_law_1553 ?_
    refine kcVR (C := RX6) (As := [.int (xs (i + 1)), .int (xs (i + 2))]) (rest := []) (wr := (ao, .inl (D.1 23, 1, .inr (.inl f))) :: (Pw ++ wc)) (ws := ((am, .inr (6, fm)) :: wt)) ⟨hx, hb, hml, hown, hts⟩ hN (cwV 2 hts gL2_X6_stamped rfl hrm2.1 hrm2.2.1 (by decide +kernel) ⟨Nat.le_trans (Nat.succ_le_succ hrm2.2.2.1) (Nat.le_of_ble_eq_true rfl), Nat.le_trans (Nat.add_le_add_left hrm2.2.2.2 _) (Nat.le_of_ble_eq_true rfl)⟩) hK hE (kq_2 _ Pw wc _) hP hD hS hA 0 6 rfl rfl rfl rfl hl.1 rfl (Nat.le_of_ble_eq_true rfl) dL_law_1554 ⟨hcl, hsl⟩ (fun u2 H locs hp2 hP hD hS => ?_)
    refine W.eq (g2 := F0 m 1557 ls [.long (v2 u2)]) rfl ?_
    refine W.widen (k := cells + 5) (n := slots + 34) (Nat.le_refl _) (Nat.le_refl _) ?_
    refine lv_lstore (lv' := [(6, .long (v2 u2)), (5, .int (nI code)), (0, .ref b), (1, .ref ax), (2, .ref am), (3, .ref ao), (4, .int (nI i))]) hx hb dL_law_1557 hl (by decide) rfl (fun ls hl => ?_)
    refine lv_aload_n hx hb dL_law_1559 rfl (lv_at hl 4 rfl) ?_
    refine kcVR (C := RX6) (As := []) (rest := []) (wr := ((ao, .inl (D.1 23, 1, .inr (.inl f))) :: (Pw ++ wc)) ++ wt' u2) (ws := [(am, .inr (6, fm' u2))]) ⟨hx, hb, hml, hown, hts⟩ (hT u2) (cwV 0 hts gL2_X6_thrown rfl rfl rfl (by decide +kernel) ⟨Nat.le_of_ble_eq_true rfl, Nat.le_of_ble_eq_true rfl⟩) hK hE (kq_3 ((ao, .inl (D.1 23, 1, .inr (.inl f))) :: (Pw ++ wc)) (wt' u2) _) hP hD hS hA 0 6 rfl rfl rfl rfl hl.1 rfl (Nat.le_of_ble_eq_true rfl) dL_law_1560 ⟨hcl, hsl⟩ (fun _ H locs _ hP hD hS => ?_)
    refine W.eq (g2 := F0 m 1563 ls [.int (nI code)]) rfl ?_
    refine W.widen (k := cells + 5) (n := slots + 34) (Nat.le_refl _) (Nat.le_refl _) ?_
    refine lv_iload hx hb dL_law_1563 (lv_at hl 1 rfl) ?_
    refine lv_icmp_eq (tgt := 1570) hx hb dL_law_1565 (by decide) (fun _ => ?_) (fun c_1565 => absurd rfl c_1565)
    refine lv_iload hx hb dL_law_1570 (lv_at hl 1 rfl) ?_
    refine kn_if_ne (tgt := 1586) hx hb (by omega) dL_law_1572 (by decide) (fun _ => ?_) (fun c_1572 => absurd hu (by omega))
    refine lv_goto (tgt := 1589) hx hb dL_law_1586 (by decide) ?_
    exact k1 hu u2 _ _ ls hp2 (kp_P (kq_4 _ _ Pw wc _) hP) (kp_D (kq_4 _ _ Pw wc _) hD) hS (lv_sub hl [2, 3, 4, 5, 6] rfl)
  | some z =>
    obtain ⟨hc0, hpo⟩ := hu
    subst hc0
    have hP : va_P D kC ((Pw ++ ((am, .inr (6, fm)) :: wt)) ++ ((ao, .inl (D.1 23, 1, .inr (.inl (vp_updL f 0 (v z))))) :: (wc' z))) _ := hP
    have hD : va_D (fun q => s.heap.size ≤ q) ((Pw ++ ((am, .inr (6, fm)) :: wt)) ++ ((ao, .inl (D.1 23, 1, .inr (.inl (vp_updL f 0 (v z))))) :: (wc' z))) := hD
    refine lv_aload_n hx hb dL_law_1541 rfl (lv_at hl 3 rfl) ?_
    refine lv_aload_n hx hb dL_law_1542 rfl (lv_at hl 1 rfl) ?_
    refine lv_iload hx hb dL_law_1543 (lv_at hl 5 rfl) ?_
    refine lv_iconst (v := nI 1) hx hb dL_law_1545 (by decide) ?_
    refine kn_iadd hx hb dL_law_1546 ?_
    refine kn_sld (i := i + 1) hx hb hX hbl hbA hS (by omega) (by omega) dL_law_1547 ?_
    refine lv_aload_n hx hb dL_law_1548 rfl (lv_at hl 1 rfl) ?_
    refine lv_iload hx hb dL_law_1549 (lv_at hl 5 rfl) ?_
    refine lv_iconst (v := nI 2) hx hb dL_law_1551 (by decide) ?_
    refine kn_iadd hx hb dL_law_1552 ?_
    refine kn_sld (i := i + 2) hx hb hX hbl hbA hS (by omega) (by omega) dL_law_1553 ?_
    refine kcVR (C := RX6) (As := [.int (xs (i + 1)), .int (xs (i + 2))]) (rest := []) (wr := (ao, .inl (D.1 23, 1, .inr (.inl (vp_updL f 0 (v z))))) :: (Pw ++ (wc' z))) (ws := ((am, .inr (6, fm)) :: wt)) ⟨hx, hb, hml, hown, hts⟩ hN (cwV 2 hts gL2_X6_stamped rfl hrm2.1 hrm2.2.1 (by decide +kernel) ⟨Nat.le_trans (Nat.succ_le_succ hrm2.2.2.1) (Nat.le_of_ble_eq_true rfl), Nat.le_trans (Nat.add_le_add_left hrm2.2.2.2 _) (Nat.le_of_ble_eq_true rfl)⟩) hK hE (kq_2 _ Pw (wc' z) _) hP hD hS hA 0 6 rfl rfl rfl rfl hl.1 rfl (Nat.le_of_ble_eq_true rfl) dL_law_1554 ⟨hcl, hsl⟩ (fun u2 H locs hp2 hP hD hS => ?_)
    refine W.eq (g2 := F0 m 1557 ls [.long (v2 u2)]) rfl ?_
    refine W.widen (k := cells + 5) (n := slots + 34) (Nat.le_refl _) (Nat.le_refl _) ?_
    refine lv_lstore (lv' := [(6, .long (v2 u2)), (5, .int (nI 0)), (0, .ref b), (1, .ref ax), (2, .ref am), (3, .ref ao), (4, .int (nI i))]) hx hb dL_law_1557 hl (by decide) rfl (fun ls hl => ?_)
    refine lv_aload_n hx hb dL_law_1559 rfl (lv_at hl 4 rfl) ?_
    refine kcVR (C := RX6) (As := []) (rest := []) (wr := ((ao, .inl (D.1 23, 1, .inr (.inl (vp_updL f 0 (v z))))) :: (Pw ++ (wc' z))) ++ wt' u2) (ws := [(am, .inr (6, fm' u2))]) ⟨hx, hb, hml, hown, hts⟩ (hT u2) (cwV 0 hts gL2_X6_thrown rfl rfl rfl (by decide +kernel) ⟨Nat.le_of_ble_eq_true rfl, Nat.le_of_ble_eq_true rfl⟩) hK hE (kq_3 ((ao, .inl (D.1 23, 1, .inr (.inl (vp_updL f 0 (v z))))) :: (Pw ++ (wc' z))) (wt' u2) _) hP hD hS hA 0 6 rfl rfl rfl rfl hl.1 rfl (Nat.le_of_ble_eq_true rfl) dL_law_1560 ⟨hcl, hsl⟩ (fun _ H locs _ hP hD hS => ?_)
    refine W.eq (g2 := F0 m 1563 ls [.int (nI 0)]) rfl ?_
    refine W.widen (k := cells + 5) (n := slots + 34) (Nat.le_refl _) (Nat.le_refl _) ?_
    refine lv_iload hx hb dL_law_1563 (lv_at hl 1 rfl) ?_
    refine lv_icmp_eq (tgt := 1570) hx hb dL_law_1565 (by decide) (fun _ => ?_) (fun c_1565 => absurd rfl c_1565)
    refine lv_iload hx hb dL_law_1570 (lv_at hl 1 rfl) ?_
    refine kn_if_ne (tgt := 1586) hx hb (by omega) dL_law_1572 (by decide) (fun c_1572 => absurd c_1572 (Nat.lt_irrefl _)) (fun _ => ?_)
    refine lv_aload_n hx hb dL_law_1575 rfl (lv_at hl 5 rfl) ?_
    refine lv_iconst (v := nI 0) hx hb dL_law_1576 (by decide) ?_
    refine kn_lald hx hb hK hP 0 3 rfl rfl (i := 0) (by omega) (by decide) dL_law_1577 ?_
    refine lv_lload hx hb dL_law_1578 (lv_at hl 0 rfl) ?_
    refine W.lcmp hx hb dL_law_1580 ?_
    refine lv_if_eq (tgt := 1586) hx hb dL_law_1581 (by decide) (fun _ => ?_) (fun c_1581 => absurd ((lg_cmp_eq _ _).mpr ((k_uL _ _ _).trans (hans z u2 rfl hpo hp2))) c_1581)
    refine lv_goto (tgt := 1589) hx hb dL_law_1586 (by decide) ?_
    exact k0 rfl z hpo u2 _ _ ls hp2 (kp_P (kq_4 _ _ Pw (wc' z) _) hP) (kp_D (kq_4 _ _ Pw (wc' z) _) hD) hS (lv_sub hl [2, 3, 4, 5, 6] rfl)
