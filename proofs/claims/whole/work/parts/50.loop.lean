/-! ===== the law's loop ===== -/
theorem k_gt7 {i L : Nat} (hL : L ≤ 3584) (hi : i ≤ 4000) : (nI L - nI 7 < nI i ↔ L < i + 7) := by
  rcases Nat.lt_or_ge L 7 with h | h
  · have h2 : nI L - nI 7 < 0 := by
      rcases (show L = 0 ∨ L = 1 ∨ L = 2 ∨ L = 3 ∨ L = 4 ∨ L = 5 ∨ L = 6 by omega) with rfl | rfl | rfl | rfl | rfl | rfl | rfl <;> decide
    refine ⟨fun _ => by omega, fun _ => ?_⟩
    rw [Int32.lt_iff_toInt_lt] at h2 ⊢
    rw [nI_toInt (by omega)]
    have e0 : (0 : Int32).toInt = 0 := rfl
    rw [e0] at h2
    omega
  · rw [pk_sub h, nI_ltI (by omega) (by omega)]
    omega
set_option maxHeartbeats 4000000 in
set_option maxRecDepth 100000 in
theorem law_loop {p : Program} {l : Launch} {e : Env} {s : State} {m : MethodId} {below : List Frame} {meth : Method} {c : Code} {b L : Nat} {xs : Nat → Int32} {D : va_G} (ax am ao : Nat) (hl0 : l.stackTraces = false) (h0 : kLaw p s m c b L xs D) (hr : meth.sig.returnType = ret) (hlocks : meth.locks = false) :
    ∀ (n i cells slots : Nat) (H : Heap) (locs : List Loc) (ls : Array Slot), L < i + 7 * n → i ≤ L + 7 → cells + 5 * n ≤ 603072 → slots + 34 * n ≤ 7190634 → kHold D (fun q => s.heap.size ≤ q) ax am ao H → va_S (fun q => s.heap.size ≤ q) s.heap H locs → lv_has ls 8 [(0, .ref b), (1, .ref ax), (2, .ref am), (3, .ref ao), (4, .int (nI i))] →
      W p l e room_1 s m #[Value.ref b] below meth c H locs cells slots (lw_Z below #[Value.ref b] s) (F0 m 23 ls []) := by
  obtain ⟨hx, hb, hml, hown, hts, hX, hbl, hL9, hK, hE⟩ := id h0
  have hbA : ¬ (fun q : Nat => s.heap.size ≤ q) b := Nat.not_le.mpr hbl
  have hend : ∀ (cells slots : Nat) (H : Heap) (locs : List Loc) (ls : Array Slot), cells ≤ 603072 → slots ≤ 7190634 → va_S (fun q => s.heap.size ≤ q) s.heap H locs → W p l e room_1 s m #[Value.ref b] below meth c H locs cells slots (lw_Z below #[Value.ref b] s) (F0 m 1595 ls []) := by
    intro cells slots H locs ls hc hs hS
    refine lv_iconst (v := 1) hx hb dL_law_1595 (by decide) ?_
    refine va_forget (fun q hq => hS.2.2 q hq) ?_
    refine W.widen (k := 603072) (n := 7190634) hc hs ?_
    exact lw_ret hx hb hr hlocks dL_law_1596
  have hhd : ∀ (i cells slots : Nat) (H : Heap) (locs : List Loc) (ls : Array Slot), i ≤ L + 7 → cells ≤ 603072 → slots ≤ 7190634 → va_S (fun q => s.heap.size ≤ q) s.heap H locs → lv_has ls 8 [(0, .ref b), (1, .ref ax), (2, .ref am), (3, .ref ao), (4, .int (nI i))] →
      (i + 7 ≤ L → W p l e room_1 s m #[Value.ref b] below meth c H locs cells slots (lw_Z below #[Value.ref b] s) (F0 m 33 ls [])) → W p l e room_1 s m #[Value.ref b] below meth c H locs cells slots (lw_Z below #[Value.ref b] s) (F0 m 23 ls []) := by
    intro i cells slots H locs ls hi hc hs hS hl kk
    refine lv_iload hx hb dL_law_23 (lv_at hl 4 rfl) ?_
    refine lv_aload_n hx hb dL_law_25 rfl (lv_at hl 0 rfl) ?_
    refine va_slen hx hb hX hbl hbA hS dL_law_26 ?_
    refine lv_bipush (v := nI 7) hx hb dL_law_27 (by decide) ?_
    refine lv_isub hx hb dL_law_29 ?_
    refine lv_icmp_gt (tgt := 1595) hx hb dL_law_30 (by decide) (fun _ => hend cells slots H locs ls hc hs hS) (fun h => kk ?_)
    have h2 : ¬ nI L - nI 7 < nI i := h
    rw [k_gt7 hL9 (by omega)] at h2
    omega
  intro n
  induction n with
  | zero =>
    intro i cells slots H locs ls h1 h2 h3 h4 hH hS hl
    exact hhd i cells slots H locs ls h2 (by omega) (by omega) hS hl (fun h => absurd h (by omega))
  | succ n ih =>
    intro i cells slots H locs ls h1 h2 h3 h4 hH hS hl
    refine hhd i cells slots H locs ls h2 (by omega) (by omega) hS hl (fun hi => ?_)
    have hnx : ∀ (cells2 slots2 : Nat) (H1 : Heap) (locs1 : List Loc) (ls1 : Array Slot), cells2 + 5 * n ≤ 603072 → slots2 + 34 * n ≤ 7190634 → kHold D (fun q => s.heap.size ≤ q) ax am ao H1 → va_S (fun q => s.heap.size ≤ q) s.heap H1 locs1 → lv_has ls1 8 [(0, .ref b), (1, .ref ax), (2, .ref am), (3, .ref ao), (4, .int (nI i))] → W p l e room_1 s m #[Value.ref b] below meth c H1 locs1 cells2 slots2 (lw_Z below #[Value.ref b] s) (F0 m 1589 ls1 []) := by
      intro cells2 slots2 H1 locs1 ls1 hc hs hH1 hS1 hl1
      refine lv_iinc (k := 4) (v := nI (i + 7)) (lv' := [(4, .int (nI (i + 7))), (0, .ref b), (1, .ref ax), (2, .ref am), (3, .ref ao)]) hx hb dL_law_1589 hl1 rfl (nI_add i 7) (by decide) rfl (fun ls2 hl2 => ?_)
      refine lv_goto (tgt := 23) hx hb dL_law_1592 (by decide) ?_
      exact ih (i + 7) cells2 slots2 H1 locs1 ls2 (by omega) (by omega) hc hs hH1 hS1 (lv_sub hl2 [1, 2, 3, 4, 0] rfl)
    have hnk : ∀ (H1 : Heap) (locs1 : List Loc) (ls1 : Array Slot), kHold D (fun q => s.heap.size ≤ q) ax am ao H1 → va_S (fun q => s.heap.size ≤ q) s.heap H1 locs1 → lv_has ls1 8 [(0, .ref b), (1, .ref ax), (2, .ref am), (3, .ref ao), (4, .int (nI i))] → W p l e room_1 s m #[Value.ref b] below meth c H1 locs1 (cells + 5) (slots + 34) (lw_Z below #[Value.ref b] s) (F0 m 1589 ls1 []) := fun H1 locs1 ls1 a1 a2 a3 => hnx (cells + 5) (slots + 34) H1 locs1 ls1 (by omega) (by omega) a1 a2 a3
    refine lv_aload_n hx hb dL_law_33 rfl (lv_at hl 0 rfl) ?_
    refine lv_iload hx hb dL_law_34 (lv_at hl 4 rfl) ?_
    refine kn_sld (i := i) hx hb hX hbl hbA hS (by omega) (by omega) dL_law_36 ?_
    refine lv_bipush (v := nI 31) hx hb dL_law_37 (by decide) ?_
    refine lv_iand hx hb dL_law_39 ?_
    obtain ⟨j, hj, ej⟩ := pk_andE (xs i) (m := nI 31) 5 (by decide)
    refine kt_i ej ?_
    rcases (show j = 0 ∨ j = 1 ∨ j = 2 ∨ j = 3 ∨ j = 4 ∨ j = 5 ∨ j = 6 ∨ j = 7 ∨ j = 8 ∨ j = 9 ∨ j = 10 ∨ j = 11 ∨ j = 12 ∨ j = 13 ∨ j = 14 ∨ j = 15 ∨ j = 16 ∨ (17 ≤ j ∧ j < 32) by omega) with rfl | rfl | rfl | rfl | rfl | rfl | rfl | rfl | rfl | rfl | rfl | rfl | rfl | rfl | rfl | rfl | rfl | ⟨hj17, hj32⟩
    · exact lv_tableIn (off := 84) (tgt := 124) hx hb dL_law_40 (by decide) (by decide) (by decide) (by decide) (s_add ax am ao i hl0 h0 hi hl (by omega) (by omega) hH hS hnk)
    · exact lv_tableIn (off := 142) (tgt := 182) hx hb dL_law_40 (by decide) (by decide) (by decide) (by decide) (s_poke ax am ao i hl0 h0 hi hl (by omega) (by omega) hH hS hnk)
    · exact lv_tableIn (off := 242) (tgt := 282) hx hb dL_law_40 (by decide) (by decide) (by decide) (by decide) (s_place ax am ao i hl0 h0 hi hl (by omega) (by omega) hH hS hnk)
    · exact lv_tableIn (off := 374) (tgt := 414) hx hb dL_law_40 (by decide) (by decide) (by decide) (by decide) (s_sign ax am ao i hl0 h0 hi hl (by omega) (by omega) hH hS hnk)
    · exact lv_tableIn (off := 502) (tgt := 542) hx hb dL_law_40 (by decide) (by decide) (by decide) (by decide) (s_holds ax am ao i hl0 h0 hi hl (by omega) (by omega) hH hS hnk)
    · exact lv_tableIn (off := 558) (tgt := 598) hx hb dL_law_40 (by decide) (by decide) (by decide) (by decide) (s_span ax am ao i hl0 h0 hi hl (by omega) (by omega) hH hS hnk)
    · exact lv_tableIn (off := 637) (tgt := 677) hx hb dL_law_40 (by decide) (by decide) (by decide) (by decide) (s_tell ax am ao i hl0 h0 hi hl (by omega) (by omega) hH hS hnk)
    · exact lv_tableIn (off := 775) (tgt := 815) hx hb dL_law_40 (by decide) (by decide) (by decide) (by decide) (s_chain ax am ao i hl0 h0 hi hl (by omega) (by omega) hH hS hnk)
    · exact lv_tableIn (off := 919) (tgt := 959) hx hb dL_law_40 (by decide) (by decide) (by decide) (by decide) (s_change ax am ao i hl0 h0 hi hl (by omega) (by omega) hH hS hnk)
    · exact lv_tableIn (off := 987) (tgt := 1027) hx hb dL_law_40 (by decide) (by decide) (by decide) (by decide) (s_allow ax am ao i hl0 h0 hi hl (by omega) (by omega) hH hS hnk)
    · exact lv_tableIn (off := 1055) (tgt := 1095) hx hb dL_law_40 (by decide) (by decide) (by decide) (by decide) (s_lock ax am ao i hl0 h0 hi hl (by omega) (by omega) hH hS hnk)
    · exact lv_tableIn (off := 1123) (tgt := 1163) hx hb dL_law_40 (by decide) (by decide) (by decide) (by decide) (s_certify ax am ao i hl0 h0 hi hl (by omega) (by omega) hH hS hnk)
    · exact lv_tableIn (off := 1191) (tgt := 1231) hx hb dL_law_40 (by decide) (by decide) (by decide) (by decide) (s_since ax am ao i hl0 h0 hi hl (by omega) (by omega) hH hS hnk)
    · exact lv_tableIn (off := 1271) (tgt := 1311) hx hb dL_law_40 (by decide) (by decide) (by decide) (by decide) (s_digest ax am ao i hl0 h0 hi hl (by omega) (by omega) hH hS hnk)
    · exact lv_tableIn (off := 1339) (tgt := 1379) hx hb dL_law_40 (by decide) (by decide) (by decide) (by decide) (s_behind ax am ao i hl0 h0 hi hl (by omega) (by omega) hH hS hnk)
    · exact lv_tableIn (off := 1394) (tgt := 1434) hx hb dL_law_40 (by decide) (by decide) (by decide) (by decide) (s_stamp ax am ao i hl0 h0 hi hl (by omega) (by omega) hH hS hnk)
    · exact lv_tableIn (off := 1482) (tgt := 1522) hx hb dL_law_40 (by decide) (by decide) (by decide) (by decide) (s_stamped ax am ao i hl0 h0 hi hl (by omega) (by omega) hH hS hnk)
    · refine lv_tableOut (tgt := 1589) hx hb dL_law_40 (Or.inr ?_) (by decide) ?_
      · rw [nI_toInt (by omega)]
        omega
      · exact hnx cells slots H locs ls (by omega) (by omega) hH hS hl
