/-! ===== the cases of the law ===== -/
set_option maxHeartbeats 4000000 in
set_option maxRecDepth 100000 in
theorem o_tell {p : Program} {l : Launch} {e : Env} {s : State} {m : MethodId} {below : List Frame} {meth : Method} {c : Code} {b L : Nat} {xs : Nat → Int32} {D : va_G} {Q : State → Prop} {H : Heap} {locs : List Loc} {cells slots : Nat} {ls : Array Slot} {S S2 : Type} (ax am ao i : Nat) (f : Nat → Int64) (Pw wc wt : va_W) (wc' : S → va_W) (wt' : S2 → va_W) (po : S → Prop) (po2 : S2 → Prop) (code mc ms q0 : Nat) (rm rm2 : Room) (fs fm : List Value) (fm' : S2 → List Value)
    (h0 : kLaw p s m c b L xs D) (hi : i + 7 ≤ L) (hl : lv_has ls 8 [(0, .ref b), (1, .ref ax), (2, .ref am), (3, .ref ao), (4, .int (nI i))]) (he : wc[q0]? = some (ax, .inr (5, fs))) (hrm : rm.cells = mc ∧ rm.slots = ms ∧ rm.frames ≤ 11 ∧ rm.locals ≤ 340) (hm5 : mc ≤ 5 ∧ ms ≤ 34) (hrm2 : rm2.cells = 0 ∧ rm2.slots = 0 ∧ rm2.frames ≤ 11 ∧ rm2.locals ≤ 340) (hcd : code ≤ 2) (hcl : cells + 5 ≤ 603072) (hsl : slots + 34 ≤ 7190634)
    (hM : kX l yX5_tell wsX5_tell3 rm mc ms D [.ref ax, .int (xs (i + 1)), .int (xs (i + 2)), .long (kLg (xs (i + 3)) (xs (i + 4))), .long (kLg (xs (i + 5)) (xs (i + 6)))] wc (kEx [kNse, kIob] code) (fun _ => none) wc' po)
    (hN : kM l yX6_tell wsX6_tell rm2 0 0 D [.ref am, .int (xs (i + 1)), .int (xs (i + 2)), .long (kLg (xs (i + 3)) (xs (i + 4))), .long (kLg (xs (i + 5)) (xs (i + 6)))] ((am, .inr (6, fm)) :: wt) (fun _ => none) (fun u => (am, .inr (6, fm' u)) :: wt' u) po2)
    (hT : ∀ u, kM (S := Unit) l yX6_thrown wsX6_thrown { frames := 7, cells := 0, slots := 0, locals := 100 } 0 0 D [.ref am] [(am, .inr (6, fm' u))] (fun _ => some (.int (nI code))) (fun _ => [(am, .inr (6, fm' u))]) (fun _ => True))
    (hP : va_P D kC ((ao, .inl (D.1 23, 1, .inr (.inl f))) :: (Pw ++ (wc ++ ((am, .inr (6, fm)) :: wt)))) H) (hD : va_D (fun q => s.heap.size ≤ q) ((ao, .inl (D.1 23, 1, .inr (.inl f))) :: (Pw ++ (wc ++ ((am, .inr (6, fm)) :: wt))))) (hS : va_S (fun q => s.heap.size ≤ q) s.heap H locs)
    (k0 : code = 0 → ∀ (z : S), po z → ∀ (u : S2) (H1 : Heap) (locs1 : List Loc) (ls1 : Array Slot), po2 u → va_P D kC ((ao, .inl (D.1 23, 1, .inr (.inl f))) :: (Pw ++ (wc' z ++ ((am, .inr (6, fm' u)) :: wt' u)))) H1 → va_D (fun q => s.heap.size ≤ q) ((ao, .inl (D.1 23, 1, .inr (.inl f))) :: (Pw ++ (wc' z ++ ((am, .inr (6, fm' u)) :: wt' u)))) → va_S (fun q => s.heap.size ≤ q) s.heap H1 locs1 → lv_has ls1 8 [(0, .ref b), (1, .ref ax), (2, .ref am), (3, .ref ao), (4, .int (nI i))] → W p l e room_1 s m #[Value.ref b] below meth c H1 locs1 (cells + 5) (slots + 34) Q (F0 m 1589 ls1 []))
    (k1 : 0 < code → ∀ (u : S2) (H1 : Heap) (locs1 : List Loc) (ls1 : Array Slot), po2 u → va_P D kC ((ao, .inl (D.1 23, 1, .inr (.inl f))) :: (Pw ++ (wc ++ ((am, .inr (6, fm' u)) :: wt' u)))) H1 → va_D (fun q => s.heap.size ≤ q) ((ao, .inl (D.1 23, 1, .inr (.inl f))) :: (Pw ++ (wc ++ ((am, .inr (6, fm' u)) :: wt' u)))) → va_S (fun q => s.heap.size ≤ q) s.heap H1 locs1 → lv_has ls1 8 [(0, .ref b), (1, .ref ax), (2, .ref am), (3, .ref ao), (4, .int (nI i))] → W p l e room_1 s m #[Value.ref b] below meth c H1 locs1 (cells + 5) (slots + 34) Q (F0 m 1589 ls1 []))
    : W p l e room_1 s m #[Value.ref b] below meth c H locs cells slots Q (F0 m 677 ls []) := by
  obtain ⟨hx, hb, hml, hown, hts, hX, hbl, hL9, hK, hE⟩ := h0
  have hA : ∀ q : Nat, s.heap.size ≤ q → (fun q => s.heap.size ≤ q) q := fun q h => h
  have hbA : ¬ (fun q => s.heap.size ≤ q) b := Nat.not_le.mpr hbl
  have hc9 := hts (.constantLong RL 100 (4294967295)) lw_c100
  have hW := w_tell3 l D ax (xs (i + 1)) (xs (i + 2)) (kLg (xs (i + 3)) (xs (i + 4))) (kLg (xs (i + 5)) (xs (i + 6))) wc wc' po code mc ms q0 rm fs he hrm hcd hM
  refine lv_aload_n hx hb dL_law_677 rfl (lv_at hl 1 rfl) ?_
  refine lv_aload_n hx hb dL_law_678 rfl (lv_at hl 0 rfl) ?_
  refine lv_iload hx hb dL_law_679 (lv_at hl 4 rfl) ?_
  refine lv_iconst (v := nI 1) hx hb dL_law_681 (by decide) ?_
  refine kn_iadd hx hb dL_law_682 ?_
  refine kn_sld (i := i + 1) hx hb hX hbl hbA hS (by omega) (by omega) dL_law_683 ?_
  refine lv_aload_n hx hb dL_law_684 rfl (lv_at hl 0 rfl) ?_
  refine lv_iload hx hb dL_law_685 (lv_at hl 4 rfl) ?_
  refine lv_iconst (v := nI 2) hx hb dL_law_687 (by decide) ?_
  refine kn_iadd hx hb dL_law_688 ?_
  refine kn_sld (i := i + 2) hx hb hX hbl hbA hS (by omega) (by omega) dL_law_689 ?_
  refine lv_aload_n hx hb dL_law_690 rfl (lv_at hl 0 rfl) ?_
  refine lv_iload hx hb dL_law_691 (lv_at hl 4 rfl) ?_
  refine lv_iconst (v := nI 3) hx hb dL_law_693 (by decide) ?_
  refine kn_iadd hx hb dL_law_694 ?_
  refine kn_sld (i := i + 3) hx hb hX hbl hbA hS (by omega) (by omega) dL_law_695 ?_
  refine lv_i2l (v := (xs (i + 3)).toInt64) hx hb dL_law_696 rfl ?_
  refine lv_bipush (v := nI 32) hx hb dL_law_697 (by decide) ?_
  refine lv_lshl (v := ((xs (i + 3)).toInt64) <<< ((nI 32).toInt64 &&& 63)) hx hb dL_law_699 rfl ?_
  refine lv_aload_n hx hb dL_law_700 rfl (lv_at hl 0 rfl) ?_
  refine lv_iload hx hb dL_law_701 (lv_at hl 4 rfl) ?_
  refine lv_iconst (v := nI 4) hx hb dL_law_703 (by decide) ?_
  refine kn_iadd hx hb dL_law_704 ?_
  refine kn_sld (i := i + 4) hx hb hX hbl hbA hS (by omega) (by omega) dL_law_705 ?_
  refine lv_i2l (v := (xs (i + 4)).toInt64) hx hb dL_law_706 rfl ?_
  refine lv_ldc2 (v := 4294967295) hx hb hown hc9 dL_law_707 ?_
  refine lv_land hx hb dL_law_710 ?_
  refine lv_lor hx hb dL_law_711 ?_
  refine kt_l (v' := kLg (xs (i + 3)) (xs (i + 4))) rfl ?_
  refine lv_aload_n hx hb dL_law_712 rfl (lv_at hl 0 rfl) ?_
  refine lv_iload hx hb dL_law_713 (lv_at hl 4 rfl) ?_
  refine lv_iconst (v := nI 5) hx hb dL_law_715 (by decide) ?_
  refine kn_iadd hx hb dL_law_716 ?_
  refine kn_sld (i := i + 5) hx hb hX hbl hbA hS (by omega) (by omega) dL_law_717 ?_
  refine lv_i2l (v := (xs (i + 5)).toInt64) hx hb dL_law_718 rfl ?_
  refine lv_bipush (v := nI 32) hx hb dL_law_719 (by decide) ?_
  refine lv_lshl (v := ((xs (i + 5)).toInt64) <<< ((nI 32).toInt64 &&& 63)) hx hb dL_law_721 rfl ?_
  refine lv_aload_n hx hb dL_law_722 rfl (lv_at hl 0 rfl) ?_
  refine lv_iload hx hb dL_law_723 (lv_at hl 4 rfl) ?_
  refine lv_bipush (v := nI 6) hx hb dL_law_725 (by decide) ?_
  refine kn_iadd hx hb dL_law_727 ?_
  refine kn_sld (i := i + 6) hx hb hX hbl hbA hS (by omega) (by omega) dL_law_728 ?_
  refine lv_i2l (v := (xs (i + 6)).toInt64) hx hb dL_law_729 rfl ?_
  refine lv_ldc2 (v := 4294967295) hx hb hown hc9 dL_law_730 ?_
  refine lv_land hx hb dL_law_733 ?_
  refine lv_lor hx hb dL_law_734 ?_
  refine kt_l (v' := kLg (xs (i + 5)) (xs (i + 6))) rfl ?_
  refine kcSWR (As := [.ref ax, .int (xs (i + 1)), .int (xs (i + 2)), .long (kLg (xs (i + 3)) (xs (i + 4))), .long (kLg (xs (i + 5)) (xs (i + 6)))]) (rest := []) (wr := ((ao, .inl (D.1 23, 1, .inr (.inl f))) :: (Pw ++ ((am, .inr (6, fm)) :: wt)))) (ws := wc) ⟨hx, hb, hml, hown, hts⟩ hW (vx_cwSW 5 hts gL2_L_tell rfl rfl rfl (by decide +kernel) ⟨Nat.le_of_ble_eq_true rfl, Nat.le_of_ble_eq_true rfl⟩) hK hE (kq_1t _ Pw wc _) hP hD hS hA rfl hl.1 rfl (Nat.le_of_ble_eq_true rfl) dL_law_735 ⟨by show cells + mc ≤ 603072; omega, by show slots + ms ≤ 7190634; omega⟩ (fun u H locs hu hP hD hS => ?_)
  refine W.eq (g2 := F0 m 738 ls [.int (nI code)]) rfl ?_
  refine W.widen (k := cells + 5) (n := slots + 34) (by omega) (by omega) ?_
  refine lv_istore (lv' := [(5, .int (nI code)), (0, .ref b), (1, .ref ax), (2, .ref am), (3, .ref ao), (4, .int (nI i))]) hx hb dL_law_738 hl (by decide) rfl (fun ls hl => ?_)
  cases u with
  | none =>
    have hu : 0 < code := hu
    have hP : va_P D kC (((ao, .inl (D.1 23, 1, .inr (.inl f))) :: (Pw ++ ((am, .inr (6, fm)) :: wt))) ++ wc) _ := hP
    have hD : va_D (fun q => s.heap.size ≤ q) (((ao, .inl (D.1 23, 1, .inr (.inl f))) :: (Pw ++ ((am, .inr (6, fm)) :: wt))) ++ wc) := hD
    refine lv_aload_n hx hb dL_law_740 rfl (lv_at hl 3 rfl) ?_
    refine lv_aload_n hx hb dL_law_741 rfl (lv_at hl 1 rfl) ?_
    refine lv_iload hx hb dL_law_742 (lv_at hl 5 rfl) ?_
    refine lv_iconst (v := nI 1) hx hb dL_law_744 (by decide) ?_
    refine kn_iadd hx hb dL_law_745 ?_
    refine kn_sld (i := i + 1) hx hb hX hbl hbA hS (by omega) (by omega) dL_law_746 ?_
    refine lv_aload_n hx hb dL_law_747 rfl (lv_at hl 1 rfl) ?_
    refine lv_iload hx hb dL_law_748 (lv_at hl 5 rfl) ?_
    refine lv_iconst (v := nI 2) hx hb dL_law_750 (by decide) ?_
    refine kn_iadd hx hb dL_law_751 ?_
    refine kn_sld (i := i + 2) hx hb hX hbl hbA hS (by omega) (by omega) dL_law_752 ?_
    refine lv_aload_n hx hb dL_law_753 rfl (lv_at hl 1 rfl) ?_
    refine lv_iload hx hb dL_law_754 (lv_at hl 5 rfl) ?_
    refine lv_iconst (v := nI 3) hx hb dL_law_756 (by decide) ?_
    refine kn_iadd hx hb dL_law_757 ?_
    refine kn_sld (i := i + 3) hx hb hX hbl hbA hS (by omega) (by omega) dL_law_758 ?_
    refine lv_i2l (v := (xs (i + 3)).toInt64) hx hb dL_law_759 rfl ?_
    refine lv_bipush (v := nI 32) hx hb dL_law_760 (by decide) ?_
    refine lv_lshl (v := ((xs (i + 3)).toInt64) <<< ((nI 32).toInt64 &&& 63)) hx hb dL_law_762 rfl ?_
    refine lv_aload_n hx hb dL_law_763 rfl (lv_at hl 1 rfl) ?_
    refine lv_iload hx hb dL_law_764 (lv_at hl 5 rfl) ?_
    refine lv_iconst (v := nI 4) hx hb dL_law_766 (by decide) ?_
    refine kn_iadd hx hb dL_law_767 ?_
    refine kn_sld (i := i + 4) hx hb hX hbl hbA hS (by omega) (by omega) dL_law_768 ?_
    refine lv_i2l (v := (xs (i + 4)).toInt64) hx hb dL_law_769 rfl ?_
    refine lv_ldc2 (v := 4294967295) hx hb hown hc9 dL_law_770 ?_
    refine lv_land hx hb dL_law_773 ?_
    refine lv_lor hx hb dL_law_774 ?_
    refine kt_l (v' := kLg (xs (i + 3)) (xs (i + 4))) rfl ?_
    refine lv_aload_n hx hb dL_law_775 rfl (lv_at hl 1 rfl) ?_
    refine lv_iload hx hb dL_law_776 (lv_at hl 5 rfl) ?_
    refine lv_iconst (v := nI 5) hx hb dL_law_778 (by decide) ?_
    refine kn_iadd hx hb dL_law_779 ?_
    refine kn_sld (i := i + 5) hx hb hX hbl hbA hS (by omega) (by omega) dL_law_780 ?_
    refine lv_i2l (v := (xs (i + 5)).toInt64) hx hb dL_law_781 rfl ?_
    refine lv_bipush (v := nI 32) hx hb dL_law_782 (by decide) ?_
    refine lv_lshl (v := ((xs (i + 5)).toInt64) <<< ((nI 32).toInt64 &&& 63)) hx hb dL_law_784 rfl ?_
    refine lv_aload_n hx hb dL_law_785 rfl (lv_at hl 1 rfl) ?_
    refine lv_iload hx hb dL_law_786 (lv_at hl 5 rfl) ?_
    refine lv_bipush (v := nI 6) hx hb dL_law_788 (by decide) ?_
    refine kn_iadd hx hb dL_law_790 ?_
    refine kn_sld (i := i + 6) hx hb hX hbl hbA hS (by omega) (by omega) dL_law_791 ?_
    refine lv_i2l (v := (xs (i + 6)).toInt64) hx hb dL_law_792 rfl ?_
    refine lv_ldc2 (v := 4294967295) hx hb hown hc9 dL_law_793 ?_
    refine lv_land hx hb dL_law_796 ?_
    refine lv_lor hx hb dL_law_797 ?_
    refine kt_l (v' := kLg (xs (i + 5)) (xs (i + 6))) rfl ?_
    refine kcVR (C := RX6) (As := [.int (xs (i + 1)), .int (xs (i + 2)), .long (kLg (xs (i + 3)) (xs (i + 4))), .long (kLg (xs (i + 5)) (xs (i + 6)))]) (rest := []) (wr := (ao, .inl (D.1 23, 1, .inr (.inl f))) :: (Pw ++ wc)) (ws := ((am, .inr (6, fm)) :: wt)) ⟨hx, hb, hml, hown, hts⟩ hN (cwV 4 hts gL2_X6_tell rfl hrm2.1 hrm2.2.1 (by decide +kernel) ⟨Nat.le_trans (Nat.succ_le_succ hrm2.2.2.1) (Nat.le_of_ble_eq_true rfl), Nat.le_trans (Nat.add_le_add_left hrm2.2.2.2 _) (Nat.le_of_ble_eq_true rfl)⟩) hK hE (kq_2t _ Pw wc _) hP hD hS hA 0 6 rfl rfl rfl rfl hl.1 rfl (Nat.le_of_ble_eq_true rfl) dL_law_798 ⟨hcl, hsl⟩ (fun u2 H locs hp2 hP hD hS => ?_)
    refine W.eq (g2 := F0 m 801 ls []) rfl ?_
    refine W.widen (k := cells + 5) (n := slots + 34) (Nat.le_refl _) (Nat.le_refl _) ?_
    refine lv_aload_n hx hb dL_law_801 rfl (lv_at hl 3 rfl) ?_
    refine kcVR (C := RX6) (As := []) (rest := []) (wr := ((ao, .inl (D.1 23, 1, .inr (.inl f))) :: (Pw ++ wc)) ++ wt' u2) (ws := [(am, .inr (6, fm' u2))]) ⟨hx, hb, hml, hown, hts⟩ (hT u2) (cwV 0 hts gL2_X6_thrown rfl rfl rfl (by decide +kernel) ⟨Nat.le_of_ble_eq_true rfl, Nat.le_of_ble_eq_true rfl⟩) hK hE (kq_3 ((ao, .inl (D.1 23, 1, .inr (.inl f))) :: (Pw ++ wc)) (wt' u2) _) hP hD hS hA 0 6 rfl rfl rfl rfl hl.1 rfl (Nat.le_of_ble_eq_true rfl) dL_law_802 ⟨hcl, hsl⟩ (fun _ H locs _ hP hD hS => ?_)
    refine W.eq (g2 := F0 m 805 ls [.int (nI code)]) rfl ?_
    refine W.widen (k := cells + 5) (n := slots + 34) (Nat.le_refl _) (Nat.le_refl _) ?_
    refine lv_iload hx hb dL_law_805 (lv_at hl 0 rfl) ?_
    refine lv_icmp_eq (tgt := 812) hx hb dL_law_807 (by decide) (fun _ => ?_) (fun c_807 => absurd rfl c_807)
    refine lv_goto (tgt := 1589) hx hb dL_law_812 (by decide) ?_
    exact k1 hu u2 _ _ ls hp2 (kp_P (kq_4 _ _ Pw wc _) hP) (kp_D (kq_4 _ _ Pw wc _) hD) hS (lv_sub hl [1, 2, 3, 4, 5] rfl)
  | some z =>
    obtain ⟨hc0, hpo⟩ := hu
    subst hc0
    have hP : va_P D kC (((ao, .inl (D.1 23, 1, .inr (.inl f))) :: (Pw ++ ((am, .inr (6, fm)) :: wt))) ++ (wc' z)) _ := hP
    have hD : va_D (fun q => s.heap.size ≤ q) (((ao, .inl (D.1 23, 1, .inr (.inl f))) :: (Pw ++ ((am, .inr (6, fm)) :: wt))) ++ (wc' z)) := hD
    refine lv_aload_n hx hb dL_law_740 rfl (lv_at hl 3 rfl) ?_
    refine lv_aload_n hx hb dL_law_741 rfl (lv_at hl 1 rfl) ?_
    refine lv_iload hx hb dL_law_742 (lv_at hl 5 rfl) ?_
    refine lv_iconst (v := nI 1) hx hb dL_law_744 (by decide) ?_
    refine kn_iadd hx hb dL_law_745 ?_
    refine kn_sld (i := i + 1) hx hb hX hbl hbA hS (by omega) (by omega) dL_law_746 ?_
    refine lv_aload_n hx hb dL_law_747 rfl (lv_at hl 1 rfl) ?_
    refine lv_iload hx hb dL_law_748 (lv_at hl 5 rfl) ?_
    refine lv_iconst (v := nI 2) hx hb dL_law_750 (by decide) ?_
    refine kn_iadd hx hb dL_law_751 ?_
    refine kn_sld (i := i + 2) hx hb hX hbl hbA hS (by omega) (by omega) dL_law_752 ?_
    refine lv_aload_n hx hb dL_law_753 rfl (lv_at hl 1 rfl) ?_
    refine lv_iload hx hb dL_law_754 (lv_at hl 5 rfl) ?_
    refine lv_iconst (v := nI 3) hx hb dL_law_756 (by decide) ?_
    refine kn_iadd hx hb dL_law_757 ?_
    refine kn_sld (i := i + 3) hx hb hX hbl hbA hS (by omega) (by omega) dL_law_758 ?_
    refine lv_i2l (v := (xs (i + 3)).toInt64) hx hb dL_law_759 rfl ?_
    refine lv_bipush (v := nI 32) hx hb dL_law_760 (by decide) ?_
    refine lv_lshl (v := ((xs (i + 3)).toInt64) <<< ((nI 32).toInt64 &&& 63)) hx hb dL_law_762 rfl ?_
    refine lv_aload_n hx hb dL_law_763 rfl (lv_at hl 1 rfl) ?_
    refine lv_iload hx hb dL_law_764 (lv_at hl 5 rfl) ?_
    refine lv_iconst (v := nI 4) hx hb dL_law_766 (by decide) ?_
    refine kn_iadd hx hb dL_law_767 ?_
    refine kn_sld (i := i + 4) hx hb hX hbl hbA hS (by omega) (by omega) dL_law_768 ?_
    refine lv_i2l (v := (xs (i + 4)).toInt64) hx hb dL_law_769 rfl ?_
    refine lv_ldc2 (v := 4294967295) hx hb hown hc9 dL_law_770 ?_
    refine lv_land hx hb dL_law_773 ?_
    refine lv_lor hx hb dL_law_774 ?_
    refine kt_l (v' := kLg (xs (i + 3)) (xs (i + 4))) rfl ?_
    refine lv_aload_n hx hb dL_law_775 rfl (lv_at hl 1 rfl) ?_
    refine lv_iload hx hb dL_law_776 (lv_at hl 5 rfl) ?_
    refine lv_iconst (v := nI 5) hx hb dL_law_778 (by decide) ?_
    refine kn_iadd hx hb dL_law_779 ?_
    refine kn_sld (i := i + 5) hx hb hX hbl hbA hS (by omega) (by omega) dL_law_780 ?_
    refine lv_i2l (v := (xs (i + 5)).toInt64) hx hb dL_law_781 rfl ?_
    refine lv_bipush (v := nI 32) hx hb dL_law_782 (by decide) ?_
    refine lv_lshl (v := ((xs (i + 5)).toInt64) <<< ((nI 32).toInt64 &&& 63)) hx hb dL_law_784 rfl ?_
    refine lv_aload_n hx hb dL_law_785 rfl (lv_at hl 1 rfl) ?_
    refine lv_iload hx hb dL_law_786 (lv_at hl 5 rfl) ?_
    refine lv_bipush (v := nI 6) hx hb dL_law_788 (by decide) ?_
    refine kn_iadd hx hb dL_law_790 ?_
    refine kn_sld (i := i + 6) hx hb hX hbl hbA hS (by omega) (by omega) dL_law_791 ?_
    refine lv_i2l (v := (xs (i + 6)).toInt64) hx hb dL_law_792 rfl ?_
    refine lv_ldc2 (v := 4294967295) hx hb hown hc9 dL_law_793 ?_
    refine lv_land hx hb dL_law_796 ?_
    refine lv_lor hx hb dL_law_797 ?_
    refine kt_l (v' := kLg (xs (i + 5)) (xs (i + 6))) rfl ?_
    refine kcVR (C := RX6) (As := [.int (xs (i + 1)), .int (xs (i + 2)), .long (kLg (xs (i + 3)) (xs (i + 4))), .long (kLg (xs (i + 5)) (xs (i + 6)))]) (rest := []) (wr := (ao, .inl (D.1 23, 1, .inr (.inl f))) :: (Pw ++ (wc' z))) (ws := ((am, .inr (6, fm)) :: wt)) ⟨hx, hb, hml, hown, hts⟩ hN (cwV 4 hts gL2_X6_tell rfl hrm2.1 hrm2.2.1 (by decide +kernel) ⟨Nat.le_trans (Nat.succ_le_succ hrm2.2.2.1) (Nat.le_of_ble_eq_true rfl), Nat.le_trans (Nat.add_le_add_left hrm2.2.2.2 _) (Nat.le_of_ble_eq_true rfl)⟩) hK hE (kq_2t _ Pw (wc' z) _) hP hD hS hA 0 6 rfl rfl rfl rfl hl.1 rfl (Nat.le_of_ble_eq_true rfl) dL_law_798 ⟨hcl, hsl⟩ (fun u2 H locs hp2 hP hD hS => ?_)
    refine W.eq (g2 := F0 m 801 ls []) rfl ?_
    refine W.widen (k := cells + 5) (n := slots + 34) (Nat.le_refl _) (Nat.le_refl _) ?_
    refine lv_aload_n hx hb dL_law_801 rfl (lv_at hl 3 rfl) ?_
    refine kcVR (C := RX6) (As := []) (rest := []) (wr := ((ao, .inl (D.1 23, 1, .inr (.inl f))) :: (Pw ++ (wc' z))) ++ wt' u2) (ws := [(am, .inr (6, fm' u2))]) ⟨hx, hb, hml, hown, hts⟩ (hT u2) (cwV 0 hts gL2_X6_thrown rfl rfl rfl (by decide +kernel) ⟨Nat.le_of_ble_eq_true rfl, Nat.le_of_ble_eq_true rfl⟩) hK hE (kq_3 ((ao, .inl (D.1 23, 1, .inr (.inl f))) :: (Pw ++ (wc' z))) (wt' u2) _) hP hD hS hA 0 6 rfl rfl rfl rfl hl.1 rfl (Nat.le_of_ble_eq_true rfl) dL_law_802 ⟨hcl, hsl⟩ (fun _ H locs _ hP hD hS => ?_)
    refine W.eq (g2 := F0 m 805 ls [.int (nI 0)]) rfl ?_
    refine W.widen (k := cells + 5) (n := slots + 34) (Nat.le_refl _) (Nat.le_refl _) ?_
    refine lv_iload hx hb dL_law_805 (lv_at hl 0 rfl) ?_
    refine lv_icmp_eq (tgt := 812) hx hb dL_law_807 (by decide) (fun _ => ?_) (fun c_807 => absurd rfl c_807)
    refine lv_goto (tgt := 1589) hx hb dL_law_812 (by decide) ?_
    exact k0 rfl z hpo u2 _ _ ls hp2 (kp_P (kq_4 _ _ Pw (wc' z) _) hP) (kp_D (kq_4 _ _ Pw (wc' z) _) hD) hS (lv_sub hl [1, 2, 3, 4, 5] rfl)
set_option maxHeartbeats 4000000 in
set_option maxRecDepth 100000 in
theorem o_chain {p : Program} {l : Launch} {e : Env} {s : State} {m : MethodId} {below : List Frame} {meth : Method} {c : Code} {b L : Nat} {xs : Nat → Int32} {D : va_G} {Q : State → Prop} {H : Heap} {locs : List Loc} {cells slots : Nat} {ls : Array Slot} {S S2 : Type} (ax am ao i : Nat) (f : Nat → Int64) (Pw wc wt : va_W) (wc' : S → va_W) (wt' : S2 → va_W) (po : S → Prop) (po2 : S2 → Prop) (v : S → Int32) (v2 : S2 → Int32) (code mc ms q0 : Nat) (rm rm2 : Room) (fs fm : List Value) (fm' : S2 → List Value)
    (h0 : kLaw p s m c b L xs D) (hi : i + 7 ≤ L) (hl : lv_has ls 8 [(0, .ref b), (1, .ref ax), (2, .ref am), (3, .ref ao), (4, .int (nI i))]) (he : wc[q0]? = some (ax, .inr (5, fs))) (hrm : rm.cells = mc ∧ rm.slots = ms ∧ rm.frames ≤ 11 ∧ rm.locals ≤ 340) (hm5 : mc ≤ 5 ∧ ms ≤ 34) (hrm2 : rm2.cells = 0 ∧ rm2.slots = 0 ∧ rm2.frames ≤ 11 ∧ rm2.locals ≤ 340) (hcd : code ≤ 3) (hcl : cells + 5 ≤ 603072) (hsl : slots + 34 ≤ 7190634)
    (hM : kX l yX5_chain wsX5_chain3 rm mc ms D [.ref ax, .int (xs (i + 1)), .long (kLg (xs (i + 2)) (xs (i + 3))), .long (kLg (xs (i + 4)) (xs (i + 5)))] wc (kEx [kNse, kIae, kUoe] code) (fun u => some (.int (v u))) wc' po)
    (hN : kM l yX6_chain wsX6_chain rm2 0 0 D [.ref am, .int (xs (i + 1)), .long (kLg (xs (i + 2)) (xs (i + 3))), .long (kLg (xs (i + 4)) (xs (i + 5)))] ((am, .inr (6, fm)) :: wt) (fun u => some (.int (v2 u))) (fun u => (am, .inr (6, fm' u)) :: wt' u) po2)
    (hT : ∀ u, kM (S := Unit) l yX6_thrown wsX6_thrown { frames := 7, cells := 0, slots := 0, locals := 100 } 0 0 D [.ref am] [(am, .inr (6, fm' u))] (fun _ => some (.int (nI code))) (fun _ => [(am, .inr (6, fm' u))]) (fun _ => True))
    (hans : ∀ z u, code = 0 → po z → po2 u → (v z).toInt64 = (v2 u).toInt64)
    (hP : va_P D kC ((ao, .inl (D.1 23, 1, .inr (.inl f))) :: (Pw ++ (wc ++ ((am, .inr (6, fm)) :: wt)))) H) (hD : va_D (fun q => s.heap.size ≤ q) ((ao, .inl (D.1 23, 1, .inr (.inl f))) :: (Pw ++ (wc ++ ((am, .inr (6, fm)) :: wt))))) (hS : va_S (fun q => s.heap.size ≤ q) s.heap H locs)
    (k0 : code = 0 → ∀ (z : S), po z → ∀ (u : S2) (H1 : Heap) (locs1 : List Loc) (ls1 : Array Slot), po2 u → va_P D kC ((ao, .inl (D.1 23, 1, .inr (.inl (vp_updL f 0 (v z).toInt64)))) :: (Pw ++ (wc' z ++ ((am, .inr (6, fm' u)) :: wt' u)))) H1 → va_D (fun q => s.heap.size ≤ q) ((ao, .inl (D.1 23, 1, .inr (.inl (vp_updL f 0 (v z).toInt64)))) :: (Pw ++ (wc' z ++ ((am, .inr (6, fm' u)) :: wt' u)))) → va_S (fun q => s.heap.size ≤ q) s.heap H1 locs1 → lv_has ls1 8 [(0, .ref b), (1, .ref ax), (2, .ref am), (3, .ref ao), (4, .int (nI i))] → W p l e room_1 s m #[Value.ref b] below meth c H1 locs1 (cells + 5) (slots + 34) Q (F0 m 1589 ls1 []))
    (k1 : 0 < code → ∀ (u : S2) (H1 : Heap) (locs1 : List Loc) (ls1 : Array Slot), po2 u → va_P D kC ((ao, .inl (D.1 23, 1, .inr (.inl f))) :: (Pw ++ (wc ++ ((am, .inr (6, fm' u)) :: wt' u)))) H1 → va_D (fun q => s.heap.size ≤ q) ((ao, .inl (D.1 23, 1, .inr (.inl f))) :: (Pw ++ (wc ++ ((am, .inr (6, fm' u)) :: wt' u)))) → va_S (fun q => s.heap.size ≤ q) s.heap H1 locs1 → lv_has ls1 8 [(0, .ref b), (1, .ref ax), (2, .ref am), (3, .ref ao), (4, .int (nI i))] → W p l e room_1 s m #[Value.ref b] below meth c H1 locs1 (cells + 5) (slots + 34) Q (F0 m 1589 ls1 []))
    : W p l e room_1 s m #[Value.ref b] below meth c H locs cells slots Q (F0 m 815 ls []) := by
  obtain ⟨hx, hb, hml, hown, hts, hX, hbl, hL9, hK, hE⟩ := h0
  have hA : ∀ q : Nat, s.heap.size ≤ q → (fun q => s.heap.size ≤ q) q := fun q h => h
  have hbA : ¬ (fun q => s.heap.size ≤ q) b := Nat.not_le.mpr hbl
  have hc9 := hts (.constantLong RL 100 (4294967295)) lw_c100
  have hW := w_chain3 l D ax ao (xs (i + 1)) (kLg (xs (i + 2)) (xs (i + 3))) (kLg (xs (i + 4)) (xs (i + 5))) f wc wc' po v code mc ms q0 rm fs he hrm hcd hM
  refine lv_aload_n hx hb dL_law_815 rfl (lv_at hl 1 rfl) ?_
  refine lv_aload_n hx hb dL_law_816 rfl (lv_at hl 0 rfl) ?_
  refine lv_iload hx hb dL_law_817 (lv_at hl 4 rfl) ?_
  refine lv_iconst (v := nI 1) hx hb dL_law_819 (by decide) ?_
  refine kn_iadd hx hb dL_law_820 ?_
  refine kn_sld (i := i + 1) hx hb hX hbl hbA hS (by omega) (by omega) dL_law_821 ?_
  refine lv_aload_n hx hb dL_law_822 rfl (lv_at hl 0 rfl) ?_
  refine lv_iload hx hb dL_law_823 (lv_at hl 4 rfl) ?_
  refine lv_iconst (v := nI 2) hx hb dL_law_825 (by decide) ?_
  refine kn_iadd hx hb dL_law_826 ?_
  refine kn_sld (i := i + 2) hx hb hX hbl hbA hS (by omega) (by omega) dL_law_827 ?_
  refine lv_i2l (v := (xs (i + 2)).toInt64) hx hb dL_law_828 rfl ?_
  refine lv_bipush (v := nI 32) hx hb dL_law_829 (by decide) ?_
  refine lv_lshl (v := ((xs (i + 2)).toInt64) <<< ((nI 32).toInt64 &&& 63)) hx hb dL_law_831 rfl ?_
  refine lv_aload_n hx hb dL_law_832 rfl (lv_at hl 0 rfl) ?_
  refine lv_iload hx hb dL_law_833 (lv_at hl 4 rfl) ?_
  refine lv_iconst (v := nI 3) hx hb dL_law_835 (by decide) ?_
  refine kn_iadd hx hb dL_law_836 ?_
  refine kn_sld (i := i + 3) hx hb hX hbl hbA hS (by omega) (by omega) dL_law_837 ?_
  refine lv_i2l (v := (xs (i + 3)).toInt64) hx hb dL_law_838 rfl ?_
  refine lv_ldc2 (v := 4294967295) hx hb hown hc9 dL_law_839 ?_
  refine lv_land hx hb dL_law_842 ?_
  refine lv_lor hx hb dL_law_843 ?_
  refine kt_l (v' := kLg (xs (i + 2)) (xs (i + 3))) rfl ?_
  refine lv_aload_n hx hb dL_law_844 rfl (lv_at hl 0 rfl) ?_
  refine lv_iload hx hb dL_law_845 (lv_at hl 4 rfl) ?_
  refine lv_iconst (v := nI 4) hx hb dL_law_847 (by decide) ?_
  refine kn_iadd hx hb dL_law_848 ?_
  refine kn_sld (i := i + 4) hx hb hX hbl hbA hS (by omega) (by omega) dL_law_849 ?_
  refine lv_i2l (v := (xs (i + 4)).toInt64) hx hb dL_law_850 rfl ?_
  refine lv_bipush (v := nI 32) hx hb dL_law_851 (by decide) ?_
  refine lv_lshl (v := ((xs (i + 4)).toInt64) <<< ((nI 32).toInt64 &&& 63)) hx hb dL_law_853 rfl ?_
  refine lv_aload_n hx hb dL_law_854 rfl (lv_at hl 0 rfl) ?_
  refine lv_iload hx hb dL_law_855 (lv_at hl 4 rfl) ?_
  refine lv_iconst (v := nI 5) hx hb dL_law_857 (by decide) ?_
  refine kn_iadd hx hb dL_law_858 ?_
  refine kn_sld (i := i + 5) hx hb hX hbl hbA hS (by omega) (by omega) dL_law_859 ?_
  refine lv_i2l (v := (xs (i + 5)).toInt64) hx hb dL_law_860 rfl ?_
  refine lv_ldc2 (v := 4294967295) hx hb hown hc9 dL_law_861 ?_
  refine lv_land hx hb dL_law_864 ?_
  refine lv_lor hx hb dL_law_865 ?_
  refine kt_l (v' := kLg (xs (i + 4)) (xs (i + 5))) rfl ?_
  refine lv_aload_n hx hb dL_law_866 rfl (lv_at hl 3 rfl) ?_
  refine kcSWR (As := [.ref ax, .int (xs (i + 1)), .long (kLg (xs (i + 2)) (xs (i + 3))), .long (kLg (xs (i + 4)) (xs (i + 5))), .ref ao]) (rest := []) (wr := (Pw ++ ((am, .inr (6, fm)) :: wt))) (ws := ((ao, .inl (D.1 23, 1, .inr (.inl f))) :: wc)) ⟨hx, hb, hml, hown, hts⟩ hW (vx_cwSW 5 hts gL2_L_chain rfl rfl rfl (by decide +kernel) ⟨Nat.le_of_ble_eq_true rfl, Nat.le_of_ble_eq_true rfl⟩) hK hE (kq_1 _ Pw wc _) hP hD hS hA rfl hl.1 rfl (Nat.le_of_ble_eq_true rfl) dL_law_867 ⟨by show cells + mc ≤ 603072; omega, by show slots + ms ≤ 7190634; omega⟩ (fun u H locs hu hP hD hS => ?_)
  refine W.eq (g2 := F0 m 870 ls [.int (nI code)]) rfl ?_
  refine W.widen (k := cells + 5) (n := slots + 34) (by omega) (by omega) ?_
  refine lv_istore (lv' := [(5, .int (nI code)), (0, .ref b), (1, .ref ax), (2, .ref am), (3, .ref ao), (4, .int (nI i))]) hx hb dL_law_870 hl (by decide) rfl (fun ls hl => ?_)
  cases u with
  | none =>
    have hu : 0 < code := hu
    have hP : va_P D kC ((Pw ++ ((am, .inr (6, fm)) :: wt)) ++ ((ao, .inl (D.1 23, 1, .inr (.inl f))) :: wc)) _ := hP
    have hD : va_D (fun q => s.heap.size ≤ q) ((Pw ++ ((am, .inr (6, fm)) :: wt)) ++ ((ao, .inl (D.1 23, 1, .inr (.inl f))) :: wc)) := hD
    refine lv_aload_n hx hb dL_law_872 rfl (lv_at hl 3 rfl) ?_
    refine lv_aload_n hx hb dL_law_873 rfl (lv_at hl 1 rfl) ?_
    refine lv_iload hx hb dL_law_874 (lv_at hl 5 rfl) ?_
    refine lv_iconst (v := nI 1) hx hb dL_law_876 (by decide) ?_
    refine kn_iadd hx hb dL_law_877 ?_
    refine kn_sld (i := i + 1) hx hb hX hbl hbA hS (by omega) (by omega) dL_law_878 ?_
    refine lv_aload_n hx hb dL_law_879 rfl (lv_at hl 1 rfl) ?_
    refine lv_iload hx hb dL_law_880 (lv_at hl 5 rfl) ?_
    refine lv_iconst (v := nI 2) hx hb dL_law_882 (by decide) ?_
    refine kn_iadd hx hb dL_law_883 ?_
    refine kn_sld (i := i + 2) hx hb hX hbl hbA hS (by omega) (by omega) dL_law_884 ?_
    refine lv_i2l (v := (xs (i + 2)).toInt64) hx hb dL_law_885 rfl ?_
    refine lv_bipush (v := nI 32) hx hb dL_law_886 (by decide) ?_
    refine lv_lshl (v := ((xs (i + 2)).toInt64) <<< ((nI 32).toInt64 &&& 63)) hx hb dL_law_888 rfl ?_
    refine lv_aload_n hx hb dL_law_889 rfl (lv_at hl 1 rfl) ?_
    refine lv_iload hx hb dL_law_890 (lv_at hl 5 rfl) ?_
    refine lv_iconst (v := nI 3) hx hb dL_law_892 (by decide) ?_
    refine kn_iadd hx hb dL_law_893 ?_
    refine kn_sld (i := i + 3) hx hb hX hbl hbA hS (by omega) (by omega) dL_law_894 ?_
    refine lv_i2l (v := (xs (i + 3)).toInt64) hx hb dL_law_895 rfl ?_
    refine lv_ldc2 (v := 4294967295) hx hb hown hc9 dL_law_896 ?_
    refine lv_land hx hb dL_law_899 ?_
    refine lv_lor hx hb dL_law_900 ?_
    refine kt_l (v' := kLg (xs (i + 2)) (xs (i + 3))) rfl ?_
    refine lv_aload_n hx hb dL_law_901 rfl (lv_at hl 1 rfl) ?_
    refine lv_iload hx hb dL_law_902 (lv_at hl 5 rfl) ?_
    refine lv_iconst (v := nI 4) hx hb dL_law_904 (by decide) ?_
    refine kn_iadd hx hb dL_law_905 ?_
    refine kn_sld (i := i + 4) hx hb hX hbl hbA hS (by omega) (by omega) dL_law_906 ?_
    refine lv_i2l (v := (xs (i + 4)).toInt64) hx hb dL_law_907 rfl ?_
    refine lv_bipush (v := nI 32) hx hb dL_law_908 (by decide) ?_
    refine lv_lshl (v := ((xs (i + 4)).toInt64) <<< ((nI 32).toInt64 &&& 63)) hx hb dL_law_910 rfl ?_
    refine lv_aload_n hx hb dL_law_911 rfl (lv_at hl 1 rfl) ?_
    refine lv_iload hx hb dL_law_912 (lv_at hl 5 rfl) ?_
    refine lv_iconst (v := nI 5) hx hb dL_law_914 (by decide) ?_
    refine kn_iadd hx hb dL_law_915 ?_
    refine kn_sld (i := i + 5) hx hb hX hbl hbA hS (by omega) (by omega) dL_law_916 ?_
    refine lv_i2l (v := (xs (i + 5)).toInt64) hx hb dL_law_917 rfl ?_
    refine lv_ldc2 (v := 4294967295) hx hb hown hc9 dL_law_918 ?_
    refine lv_land hx hb dL_law_921 ?_
    refine lv_lor hx hb dL_law_922 ?_
    refine kt_l (v' := kLg (xs (i + 4)) (xs (i + 5))) rfl ?_
    refine kcVR (C := RX6) (As := [.int (xs (i + 1)), .long (kLg (xs (i + 2)) (xs (i + 3))), .long (kLg (xs (i + 4)) (xs (i + 5)))]) (rest := []) (wr := (ao, .inl (D.1 23, 1, .inr (.inl f))) :: (Pw ++ wc)) (ws := ((am, .inr (6, fm)) :: wt)) ⟨hx, hb, hml, hown, hts⟩ hN (cwV 3 hts gL2_X6_chain rfl hrm2.1 hrm2.2.1 (by decide +kernel) ⟨Nat.le_trans (Nat.succ_le_succ hrm2.2.2.1) (Nat.le_of_ble_eq_true rfl), Nat.le_trans (Nat.add_le_add_left hrm2.2.2.2 _) (Nat.le_of_ble_eq_true rfl)⟩) hK hE (kq_2 _ Pw wc _) hP hD hS hA 0 6 rfl rfl rfl rfl hl.1 rfl (Nat.le_of_ble_eq_true rfl) dL_law_923 ⟨hcl, hsl⟩ (fun u2 H locs hp2 hP hD hS => ?_)
    refine W.eq (g2 := F0 m 926 ls [.int (v2 u2)]) rfl ?_
    refine W.widen (k := cells + 5) (n := slots + 34) (Nat.le_refl _) (Nat.le_refl _) ?_
    refine lv_istore (lv' := [(6, .int (v2 u2)), (5, .int (nI code)), (0, .ref b), (1, .ref ax), (2, .ref am), (3, .ref ao), (4, .int (nI i))]) hx hb dL_law_926 hl (by decide) rfl (fun ls hl => ?_)
    refine lv_aload_n hx hb dL_law_928 rfl (lv_at hl 4 rfl) ?_
    refine kcVR (C := RX6) (As := []) (rest := []) (wr := ((ao, .inl (D.1 23, 1, .inr (.inl f))) :: (Pw ++ wc)) ++ wt' u2) (ws := [(am, .inr (6, fm' u2))]) ⟨hx, hb, hml, hown, hts⟩ (hT u2) (cwV 0 hts gL2_X6_thrown rfl rfl rfl (by decide +kernel) ⟨Nat.le_of_ble_eq_true rfl, Nat.le_of_ble_eq_true rfl⟩) hK hE (kq_3 ((ao, .inl (D.1 23, 1, .inr (.inl f))) :: (Pw ++ wc)) (wt' u2) _) hP hD hS hA 0 6 rfl rfl rfl rfl hl.1 rfl (Nat.le_of_ble_eq_true rfl) dL_law_929 ⟨hcl, hsl⟩ (fun _ H locs _ hP hD hS => ?_)
    refine W.eq (g2 := F0 m 932 ls [.int (nI code)]) rfl ?_
    refine W.widen (k := cells + 5) (n := slots + 34) (Nat.le_refl _) (Nat.le_refl _) ?_
    refine lv_iload hx hb dL_law_932 (lv_at hl 1 rfl) ?_
    refine lv_icmp_eq (tgt := 939) hx hb dL_law_934 (by decide) (fun _ => ?_) (fun c_934 => absurd rfl c_934)
    refine lv_iload hx hb dL_law_939 (lv_at hl 1 rfl) ?_
    refine kn_if_ne (tgt := 956) hx hb (by omega) dL_law_941 (by decide) (fun _ => ?_) (fun c_941 => absurd hu (by omega))
    refine lv_goto (tgt := 1589) hx hb dL_law_956 (by decide) ?_
    exact k1 hu u2 _ _ ls hp2 (kp_P (kq_4 _ _ Pw wc _) hP) (kp_D (kq_4 _ _ Pw wc _) hD) hS (lv_sub hl [2, 3, 4, 5, 6] rfl)
  | some z =>
    obtain ⟨hc0, hpo⟩ := hu
    subst hc0
    have hP : va_P D kC ((Pw ++ ((am, .inr (6, fm)) :: wt)) ++ ((ao, .inl (D.1 23, 1, .inr (.inl (vp_updL f 0 (v z).toInt64)))) :: (wc' z))) _ := hP
    have hD : va_D (fun q => s.heap.size ≤ q) ((Pw ++ ((am, .inr (6, fm)) :: wt)) ++ ((ao, .inl (D.1 23, 1, .inr (.inl (vp_updL f 0 (v z).toInt64)))) :: (wc' z))) := hD
    refine lv_aload_n hx hb dL_law_872 rfl (lv_at hl 3 rfl) ?_
    refine lv_aload_n hx hb dL_law_873 rfl (lv_at hl 1 rfl) ?_
    refine lv_iload hx hb dL_law_874 (lv_at hl 5 rfl) ?_
    refine lv_iconst (v := nI 1) hx hb dL_law_876 (by decide) ?_
    refine kn_iadd hx hb dL_law_877 ?_
    refine kn_sld (i := i + 1) hx hb hX hbl hbA hS (by omega) (by omega) dL_law_878 ?_
    refine lv_aload_n hx hb dL_law_879 rfl (lv_at hl 1 rfl) ?_
    refine lv_iload hx hb dL_law_880 (lv_at hl 5 rfl) ?_
    refine lv_iconst (v := nI 2) hx hb dL_law_882 (by decide) ?_
    refine kn_iadd hx hb dL_law_883 ?_
    refine kn_sld (i := i + 2) hx hb hX hbl hbA hS (by omega) (by omega) dL_law_884 ?_
    refine lv_i2l (v := (xs (i + 2)).toInt64) hx hb dL_law_885 rfl ?_
    refine lv_bipush (v := nI 32) hx hb dL_law_886 (by decide) ?_
    refine lv_lshl (v := ((xs (i + 2)).toInt64) <<< ((nI 32).toInt64 &&& 63)) hx hb dL_law_888 rfl ?_
    refine lv_aload_n hx hb dL_law_889 rfl (lv_at hl 1 rfl) ?_
    refine lv_iload hx hb dL_law_890 (lv_at hl 5 rfl) ?_
    refine lv_iconst (v := nI 3) hx hb dL_law_892 (by decide) ?_
    refine kn_iadd hx hb dL_law_893 ?_
    refine kn_sld (i := i + 3) hx hb hX hbl hbA hS (by omega) (by omega) dL_law_894 ?_
    refine lv_i2l (v := (xs (i + 3)).toInt64) hx hb dL_law_895 rfl ?_
    refine lv_ldc2 (v := 4294967295) hx hb hown hc9 dL_law_896 ?_
    refine lv_land hx hb dL_law_899 ?_
    refine lv_lor hx hb dL_law_900 ?_
    refine kt_l (v' := kLg (xs (i + 2)) (xs (i + 3))) rfl ?_
    refine lv_aload_n hx hb dL_law_901 rfl (lv_at hl 1 rfl) ?_
    refine lv_iload hx hb dL_law_902 (lv_at hl 5 rfl) ?_
    refine lv_iconst (v := nI 4) hx hb dL_law_904 (by decide) ?_
    refine kn_iadd hx hb dL_law_905 ?_
    refine kn_sld (i := i + 4) hx hb hX hbl hbA hS (by omega) (by omega) dL_law_906 ?_
    refine lv_i2l (v := (xs (i + 4)).toInt64) hx hb dL_law_907 rfl ?_
    refine lv_bipush (v := nI 32) hx hb dL_law_908 (by decide) ?_
    refine lv_lshl (v := ((xs (i + 4)).toInt64) <<< ((nI 32).toInt64 &&& 63)) hx hb dL_law_910 rfl ?_
    refine lv_aload_n hx hb dL_law_911 rfl (lv_at hl 1 rfl) ?_
    refine lv_iload hx hb dL_law_912 (lv_at hl 5 rfl) ?_
    refine lv_iconst (v := nI 5) hx hb dL_law_914 (by decide) ?_
    refine kn_iadd hx hb dL_law_915 ?_
    refine kn_sld (i := i + 5) hx hb hX hbl hbA hS (by omega) (by omega) dL_law_916 ?_
    refine lv_i2l (v := (xs (i + 5)).toInt64) hx hb dL_law_917 rfl ?_
    refine lv_ldc2 (v := 4294967295) hx hb hown hc9 dL_law_918 ?_
    refine lv_land hx hb dL_law_921 ?_
    refine lv_lor hx hb dL_law_922 ?_
    refine kt_l (v' := kLg (xs (i + 4)) (xs (i + 5))) rfl ?_
    refine kcVR (C := RX6) (As := [.int (xs (i + 1)), .long (kLg (xs (i + 2)) (xs (i + 3))), .long (kLg (xs (i + 4)) (xs (i + 5)))]) (rest := []) (wr := (ao, .inl (D.1 23, 1, .inr (.inl (vp_updL f 0 (v z).toInt64)))) :: (Pw ++ (wc' z))) (ws := ((am, .inr (6, fm)) :: wt)) ⟨hx, hb, hml, hown, hts⟩ hN (cwV 3 hts gL2_X6_chain rfl hrm2.1 hrm2.2.1 (by decide +kernel) ⟨Nat.le_trans (Nat.succ_le_succ hrm2.2.2.1) (Nat.le_of_ble_eq_true rfl), Nat.le_trans (Nat.add_le_add_left hrm2.2.2.2 _) (Nat.le_of_ble_eq_true rfl)⟩) hK hE (kq_2 _ Pw (wc' z) _) hP hD hS hA 0 6 rfl rfl rfl rfl hl.1 rfl (Nat.le_of_ble_eq_true rfl) dL_law_923 ⟨hcl, hsl⟩ (fun u2 H locs hp2 hP hD hS => ?_)
    refine W.eq (g2 := F0 m 926 ls [.int (v2 u2)]) rfl ?_
    refine W.widen (k := cells + 5) (n := slots + 34) (Nat.le_refl _) (Nat.le_refl _) ?_
    refine lv_istore (lv' := [(6, .int (v2 u2)), (5, .int (nI 0)), (0, .ref b), (1, .ref ax), (2, .ref am), (3, .ref ao), (4, .int (nI i))]) hx hb dL_law_926 hl (by decide) rfl (fun ls hl => ?_)
    refine lv_aload_n hx hb dL_law_928 rfl (lv_at hl 4 rfl) ?_
    refine kcVR (C := RX6) (As := []) (rest := []) (wr := ((ao, .inl (D.1 23, 1, .inr (.inl (vp_updL f 0 (v z).toInt64)))) :: (Pw ++ (wc' z))) ++ wt' u2) (ws := [(am, .inr (6, fm' u2))]) ⟨hx, hb, hml, hown, hts⟩ (hT u2) (cwV 0 hts gL2_X6_thrown rfl rfl rfl (by decide +kernel) ⟨Nat.le_of_ble_eq_true rfl, Nat.le_of_ble_eq_true rfl⟩) hK hE (kq_3 ((ao, .inl (D.1 23, 1, .inr (.inl (vp_updL f 0 (v z).toInt64)))) :: (Pw ++ (wc' z))) (wt' u2) _) hP hD hS hA 0 6 rfl rfl rfl rfl hl.1 rfl (Nat.le_of_ble_eq_true rfl) dL_law_929 ⟨hcl, hsl⟩ (fun _ H locs _ hP hD hS => ?_)
    refine W.eq (g2 := F0 m 932 ls [.int (nI 0)]) rfl ?_
    refine W.widen (k := cells + 5) (n := slots + 34) (Nat.le_refl _) (Nat.le_refl _) ?_
    refine lv_iload hx hb dL_law_932 (lv_at hl 1 rfl) ?_
    refine lv_icmp_eq (tgt := 939) hx hb dL_law_934 (by decide) (fun _ => ?_) (fun c_934 => absurd rfl c_934)
    refine lv_iload hx hb dL_law_939 (lv_at hl 1 rfl) ?_
    refine kn_if_ne (tgt := 956) hx hb (by omega) dL_law_941 (by decide) (fun c_941 => absurd c_941 (Nat.lt_irrefl _)) (fun _ => ?_)
    refine lv_aload_n hx hb dL_law_944 rfl (lv_at hl 5 rfl) ?_
    refine lv_iconst (v := nI 0) hx hb dL_law_945 (by decide) ?_
    refine kn_lald hx hb hK hP 0 3 rfl rfl (i := 0) (by omega) (by decide) dL_law_946 ?_
    refine lv_iload hx hb dL_law_947 (lv_at hl 0 rfl) ?_
    refine lv_i2l (v := (v2 u2).toInt64) hx hb dL_law_949 rfl ?_
    refine W.lcmp hx hb dL_law_950 ?_
    refine lv_if_eq (tgt := 956) hx hb dL_law_951 (by decide) (fun _ => ?_) (fun c_951 => absurd ((lg_cmp_eq _ _).mpr ((k_uL _ _ _).trans (hans z u2 rfl hpo hp2))) c_951)
    refine lv_goto (tgt := 1589) hx hb dL_law_956 (by decide) ?_
    exact k0 rfl z hpo u2 _ _ ls hp2 (kp_P (kq_4 _ _ Pw (wc' z) _) hP) (kp_D (kq_4 _ _ Pw (wc' z) _) hD) hS (lv_sub hl [2, 3, 4, 5, 6] rfl)
set_option maxHeartbeats 4000000 in
set_option maxRecDepth 100000 in
theorem o_change {p : Program} {l : Launch} {e : Env} {s : State} {m : MethodId} {below : List Frame} {meth : Method} {c : Code} {b L : Nat} {xs : Nat → Int32} {D : va_G} {Q : State → Prop} {H : Heap} {locs : List Loc} {cells slots : Nat} {ls : Array Slot} {S S2 : Type} (ax am ao i : Nat) (f : Nat → Int64) (Pw wc wt : va_W) (wc' : S → va_W) (wt' : S2 → va_W) (po : S → Prop) (po2 : S2 → Prop) (v : S → Int32) (v2 : S2 → Int32) (code mc ms q0 : Nat) (rm rm2 : Room) (fs fm : List Value) (fm' : S2 → List Value)
    (h0 : kLaw p s m c b L xs D) (hi : i + 7 ≤ L) (hl : lv_has ls 8 [(0, .ref b), (1, .ref ax), (2, .ref am), (3, .ref ao), (4, .int (nI i))]) (he : wc[q0]? = some (ax, .inr (5, fs))) (hrm : rm.cells = mc ∧ rm.slots = ms ∧ rm.frames ≤ 11 ∧ rm.locals ≤ 340) (hm5 : mc ≤ 5 ∧ ms ≤ 34) (hrm2 : rm2.cells = 0 ∧ rm2.slots = 0 ∧ rm2.frames ≤ 11 ∧ rm2.locals ≤ 340) (hcd : code ≤ 2) (hcl : cells + 5 ≤ 603072) (hsl : slots + 34 ≤ 7190634)
    (hM : kX l yX5_change wsX5_change rm mc ms D [.ref ax, .int (xs (i + 1)), .int (xs (i + 2))] wc (kEx [kIae, kUoe] code) (fun u => some (.int (v u))) wc' po)
    (hN : kM l yX6_change wsX6_change rm2 0 0 D [.ref am, .int (xs (i + 1)), .int (xs (i + 2))] ((am, .inr (6, fm)) :: wt) (fun u => some (.int (v2 u))) (fun u => (am, .inr (6, fm' u)) :: wt' u) po2)
    (hT : ∀ u, kM (S := Unit) l yX6_thrown wsX6_thrown { frames := 7, cells := 0, slots := 0, locals := 100 } 0 0 D [.ref am] [(am, .inr (6, fm' u))] (fun _ => some (.int (nI code))) (fun _ => [(am, .inr (6, fm' u))]) (fun _ => True))
    (hans : ∀ z u, code = 0 → po z → po2 u → (v z).toInt64 = (v2 u).toInt64)
    (hP : va_P D kC ((ao, .inl (D.1 23, 1, .inr (.inl f))) :: (Pw ++ (wc ++ ((am, .inr (6, fm)) :: wt)))) H) (hD : va_D (fun q => s.heap.size ≤ q) ((ao, .inl (D.1 23, 1, .inr (.inl f))) :: (Pw ++ (wc ++ ((am, .inr (6, fm)) :: wt))))) (hS : va_S (fun q => s.heap.size ≤ q) s.heap H locs)
    (k0 : code = 0 → ∀ (z : S), po z → ∀ (u : S2) (H1 : Heap) (locs1 : List Loc) (ls1 : Array Slot), po2 u → va_P D kC ((ao, .inl (D.1 23, 1, .inr (.inl (vp_updL f 0 (v z).toInt64)))) :: (Pw ++ (wc' z ++ ((am, .inr (6, fm' u)) :: wt' u)))) H1 → va_D (fun q => s.heap.size ≤ q) ((ao, .inl (D.1 23, 1, .inr (.inl (vp_updL f 0 (v z).toInt64)))) :: (Pw ++ (wc' z ++ ((am, .inr (6, fm' u)) :: wt' u)))) → va_S (fun q => s.heap.size ≤ q) s.heap H1 locs1 → lv_has ls1 8 [(0, .ref b), (1, .ref ax), (2, .ref am), (3, .ref ao), (4, .int (nI i))] → W p l e room_1 s m #[Value.ref b] below meth c H1 locs1 (cells + 5) (slots + 34) Q (F0 m 1589 ls1 []))
    (k1 : 0 < code → ∀ (u : S2) (H1 : Heap) (locs1 : List Loc) (ls1 : Array Slot), po2 u → va_P D kC ((ao, .inl (D.1 23, 1, .inr (.inl f))) :: (Pw ++ (wc ++ ((am, .inr (6, fm' u)) :: wt' u)))) H1 → va_D (fun q => s.heap.size ≤ q) ((ao, .inl (D.1 23, 1, .inr (.inl f))) :: (Pw ++ (wc ++ ((am, .inr (6, fm' u)) :: wt' u)))) → va_S (fun q => s.heap.size ≤ q) s.heap H1 locs1 → lv_has ls1 8 [(0, .ref b), (1, .ref ax), (2, .ref am), (3, .ref ao), (4, .int (nI i))] → W p l e room_1 s m #[Value.ref b] below meth c H1 locs1 (cells + 5) (slots + 34) Q (F0 m 1589 ls1 []))
    : W p l e room_1 s m #[Value.ref b] below meth c H locs cells slots Q (F0 m 959 ls []) := by
  obtain ⟨hx, hb, hml, hown, hts, hX, hbl, hL9, hK, hE⟩ := h0
  have hA : ∀ q : Nat, s.heap.size ≤ q → (fun q => s.heap.size ≤ q) q := fun q h => h
  have hbA : ¬ (fun q => s.heap.size ≤ q) b := Nat.not_le.mpr hbl
  have hc9 := hts (.constantLong RL 100 (4294967295)) lw_c100
  have hW := w_change l D ax ao (xs (i + 1)) (xs (i + 2)) f wc wc' po v code mc ms q0 rm fs he hrm hcd hM
  refine lv_aload_n hx hb dL_law_959 rfl (lv_at hl 1 rfl) ?_
  refine lv_aload_n hx hb dL_law_960 rfl (lv_at hl 0 rfl) ?_
  refine lv_iload hx hb dL_law_961 (lv_at hl 4 rfl) ?_
  refine lv_iconst (v := nI 1) hx hb dL_law_963 (by decide) ?_
  refine kn_iadd hx hb dL_law_964 ?_
  refine kn_sld (i := i + 1) hx hb hX hbl hbA hS (by omega) (by omega) dL_law_965 ?_
  refine lv_aload_n hx hb dL_law_966 rfl (lv_at hl 0 rfl) ?_
  refine lv_iload hx hb dL_law_967 (lv_at hl 4 rfl) ?_
  refine lv_iconst (v := nI 2) hx hb dL_law_969 (by decide) ?_
  refine kn_iadd hx hb dL_law_970 ?_
  refine kn_sld (i := i + 2) hx hb hX hbl hbA hS (by omega) (by omega) dL_law_971 ?_
  refine lv_aload_n hx hb dL_law_972 rfl (lv_at hl 3 rfl) ?_
  refine kcSWR (As := [.ref ax, .int (xs (i + 1)), .int (xs (i + 2)), .ref ao]) (rest := []) (wr := (Pw ++ ((am, .inr (6, fm)) :: wt))) (ws := ((ao, .inl (D.1 23, 1, .inr (.inl f))) :: wc)) ⟨hx, hb, hml, hown, hts⟩ hW (vx_cwSW 4 hts gL2_L_change rfl rfl rfl (by decide +kernel) ⟨Nat.le_of_ble_eq_true rfl, Nat.le_of_ble_eq_true rfl⟩) hK hE (kq_1 _ Pw wc _) hP hD hS hA rfl hl.1 rfl (Nat.le_of_ble_eq_true rfl) dL_law_973 ⟨by show cells + mc ≤ 603072; omega, by show slots + ms ≤ 7190634; omega⟩ (fun u H locs hu hP hD hS => ?_)
  refine W.eq (g2 := F0 m 976 ls [.int (nI code)]) rfl ?_
  refine W.widen (k := cells + 5) (n := slots + 34) (by omega) (by omega) ?_
  refine lv_istore (lv' := [(5, .int (nI code)), (0, .ref b), (1, .ref ax), (2, .ref am), (3, .ref ao), (4, .int (nI i))]) hx hb dL_law_976 hl (by decide) rfl (fun ls hl => ?_)
  cases u with
  | none =>
    have hu : 0 < code := hu
    have hP : va_P D kC ((Pw ++ ((am, .inr (6, fm)) :: wt)) ++ ((ao, .inl (D.1 23, 1, .inr (.inl f))) :: wc)) _ := hP
    have hD : va_D (fun q => s.heap.size ≤ q) ((Pw ++ ((am, .inr (6, fm)) :: wt)) ++ ((ao, .inl (D.1 23, 1, .inr (.inl f))) :: wc)) := hD
    refine lv_aload_n hx hb dL_law_978 rfl (lv_at hl 3 rfl) ?_
    refine lv_aload_n hx hb dL_law_979 rfl (lv_at hl 1 rfl) ?_
    refine lv_iload hx hb dL_law_980 (lv_at hl 5 rfl) ?_
    refine lv_iconst (v := nI 1) hx hb dL_law_982 (by decide) ?_
    refine kn_iadd hx hb dL_law_983 ?_
    refine kn_sld (i := i + 1) hx hb hX hbl hbA hS (by omega) (by omega) dL_law_984 ?_
    refine lv_aload_n hx hb dL_law_985 rfl (lv_at hl 1 rfl) ?_
    refine lv_iload hx hb dL_law_986 (lv_at hl 5 rfl) ?_
    refine lv_iconst (v := nI 2) hx hb dL_law_988 (by decide) ?_
    refine kn_iadd hx hb dL_law_989 ?_
    refine kn_sld (i := i + 2) hx hb hX hbl hbA hS (by omega) (by omega) dL_law_990 ?_
    refine kcVR (C := RX6) (As := [.int (xs (i + 1)), .int (xs (i + 2))]) (rest := []) (wr := (ao, .inl (D.1 23, 1, .inr (.inl f))) :: (Pw ++ wc)) (ws := ((am, .inr (6, fm)) :: wt)) ⟨hx, hb, hml, hown, hts⟩ hN (cwV 2 hts gL2_X6_change rfl hrm2.1 hrm2.2.1 (by decide +kernel) ⟨Nat.le_trans (Nat.succ_le_succ hrm2.2.2.1) (Nat.le_of_ble_eq_true rfl), Nat.le_trans (Nat.add_le_add_left hrm2.2.2.2 _) (Nat.le_of_ble_eq_true rfl)⟩) hK hE (kq_2 _ Pw wc _) hP hD hS hA 0 6 rfl rfl rfl rfl hl.1 rfl (Nat.le_of_ble_eq_true rfl) dL_law_991 ⟨hcl, hsl⟩ (fun u2 H locs hp2 hP hD hS => ?_)
    refine W.eq (g2 := F0 m 994 ls [.int (v2 u2)]) rfl ?_
    refine W.widen (k := cells + 5) (n := slots + 34) (Nat.le_refl _) (Nat.le_refl _) ?_
    refine lv_istore (lv' := [(6, .int (v2 u2)), (5, .int (nI code)), (0, .ref b), (1, .ref ax), (2, .ref am), (3, .ref ao), (4, .int (nI i))]) hx hb dL_law_994 hl (by decide) rfl (fun ls hl => ?_)
    refine lv_aload_n hx hb dL_law_996 rfl (lv_at hl 4 rfl) ?_
    refine kcVR (C := RX6) (As := []) (rest := []) (wr := ((ao, .inl (D.1 23, 1, .inr (.inl f))) :: (Pw ++ wc)) ++ wt' u2) (ws := [(am, .inr (6, fm' u2))]) ⟨hx, hb, hml, hown, hts⟩ (hT u2) (cwV 0 hts gL2_X6_thrown rfl rfl rfl (by decide +kernel) ⟨Nat.le_of_ble_eq_true rfl, Nat.le_of_ble_eq_true rfl⟩) hK hE (kq_3 ((ao, .inl (D.1 23, 1, .inr (.inl f))) :: (Pw ++ wc)) (wt' u2) _) hP hD hS hA 0 6 rfl rfl rfl rfl hl.1 rfl (Nat.le_of_ble_eq_true rfl) dL_law_997 ⟨hcl, hsl⟩ (fun _ H locs _ hP hD hS => ?_)
    refine W.eq (g2 := F0 m 1000 ls [.int (nI code)]) rfl ?_
    refine W.widen (k := cells + 5) (n := slots + 34) (Nat.le_refl _) (Nat.le_refl _) ?_
    refine lv_iload hx hb dL_law_1000 (lv_at hl 1 rfl) ?_
    refine lv_icmp_eq (tgt := 1007) hx hb dL_law_1002 (by decide) (fun _ => ?_) (fun c_1002 => absurd rfl c_1002)
    refine lv_iload hx hb dL_law_1007 (lv_at hl 1 rfl) ?_
    refine kn_if_ne (tgt := 1024) hx hb (by omega) dL_law_1009 (by decide) (fun _ => ?_) (fun c_1009 => absurd hu (by omega))
    refine lv_goto (tgt := 1589) hx hb dL_law_1024 (by decide) ?_
    exact k1 hu u2 _ _ ls hp2 (kp_P (kq_4 _ _ Pw wc _) hP) (kp_D (kq_4 _ _ Pw wc _) hD) hS (lv_sub hl [2, 3, 4, 5, 6] rfl)
  | some z =>
    obtain ⟨hc0, hpo⟩ := hu
    subst hc0
    have hP : va_P D kC ((Pw ++ ((am, .inr (6, fm)) :: wt)) ++ ((ao, .inl (D.1 23, 1, .inr (.inl (vp_updL f 0 (v z).toInt64)))) :: (wc' z))) _ := hP
    have hD : va_D (fun q => s.heap.size ≤ q) ((Pw ++ ((am, .inr (6, fm)) :: wt)) ++ ((ao, .inl (D.1 23, 1, .inr (.inl (vp_updL f 0 (v z).toInt64)))) :: (wc' z))) := hD
    refine lv_aload_n hx hb dL_law_978 rfl (lv_at hl 3 rfl) ?_
    refine lv_aload_n hx hb dL_law_979 rfl (lv_at hl 1 rfl) ?_
    refine lv_iload hx hb dL_law_980 (lv_at hl 5 rfl) ?_
    refine lv_iconst (v := nI 1) hx hb dL_law_982 (by decide) ?_
    refine kn_iadd hx hb dL_law_983 ?_
    refine kn_sld (i := i + 1) hx hb hX hbl hbA hS (by omega) (by omega) dL_law_984 ?_
    refine lv_aload_n hx hb dL_law_985 rfl (lv_at hl 1 rfl) ?_
    refine lv_iload hx hb dL_law_986 (lv_at hl 5 rfl) ?_
    refine lv_iconst (v := nI 2) hx hb dL_law_988 (by decide) ?_
    refine kn_iadd hx hb dL_law_989 ?_
    refine kn_sld (i := i + 2) hx hb hX hbl hbA hS (by omega) (by omega) dL_law_990 ?_
    refine kcVR (C := RX6) (As := [.int (xs (i + 1)), .int (xs (i + 2))]) (rest := []) (wr := (ao, .inl (D.1 23, 1, .inr (.inl (vp_updL f 0 (v z).toInt64)))) :: (Pw ++ (wc' z))) (ws := ((am, .inr (6, fm)) :: wt)) ⟨hx, hb, hml, hown, hts⟩ hN (cwV 2 hts gL2_X6_change rfl hrm2.1 hrm2.2.1 (by decide +kernel) ⟨Nat.le_trans (Nat.succ_le_succ hrm2.2.2.1) (Nat.le_of_ble_eq_true rfl), Nat.le_trans (Nat.add_le_add_left hrm2.2.2.2 _) (Nat.le_of_ble_eq_true rfl)⟩) hK hE (kq_2 _ Pw (wc' z) _) hP hD hS hA 0 6 rfl rfl rfl rfl hl.1 rfl (Nat.le_of_ble_eq_true rfl) dL_law_991 ⟨hcl, hsl⟩ (fun u2 H locs hp2 hP hD hS => ?_)
    refine W.eq (g2 := F0 m 994 ls [.int (v2 u2)]) rfl ?_
    refine W.widen (k := cells + 5) (n := slots + 34) (Nat.le_refl _) (Nat.le_refl _) ?_
    refine lv_istore (lv' := [(6, .int (v2 u2)), (5, .int (nI 0)), (0, .ref b), (1, .ref ax), (2, .ref am), (3, .ref ao), (4, .int (nI i))]) hx hb dL_law_994 hl (by decide) rfl (fun ls hl => ?_)
    refine lv_aload_n hx hb dL_law_996 rfl (lv_at hl 4 rfl) ?_
    refine kcVR (C := RX6) (As := []) (rest := []) (wr := ((ao, .inl (D.1 23, 1, .inr (.inl (vp_updL f 0 (v z).toInt64)))) :: (Pw ++ (wc' z))) ++ wt' u2) (ws := [(am, .inr (6, fm' u2))]) ⟨hx, hb, hml, hown, hts⟩ (hT u2) (cwV 0 hts gL2_X6_thrown rfl rfl rfl (by decide +kernel) ⟨Nat.le_of_ble_eq_true rfl, Nat.le_of_ble_eq_true rfl⟩) hK hE (kq_3 ((ao, .inl (D.1 23, 1, .inr (.inl (vp_updL f 0 (v z).toInt64)))) :: (Pw ++ (wc' z))) (wt' u2) _) hP hD hS hA 0 6 rfl rfl rfl rfl hl.1 rfl (Nat.le_of_ble_eq_true rfl) dL_law_997 ⟨hcl, hsl⟩ (fun _ H locs _ hP hD hS => ?_)
    refine W.eq (g2 := F0 m 1000 ls [.int (nI 0)]) rfl ?_
    refine W.widen (k := cells + 5) (n := slots + 34) (Nat.le_refl _) (Nat.le_refl _) ?_
    refine lv_iload hx hb dL_law_1000 (lv_at hl 1 rfl) ?_
    refine lv_icmp_eq (tgt := 1007) hx hb dL_law_1002 (by decide) (fun _ => ?_) (fun c_1002 => absurd rfl c_1002)
    refine lv_iload hx hb dL_law_1007 (lv_at hl 1 rfl) ?_
    refine kn_if_ne (tgt := 1024) hx hb (by omega) dL_law_1009 (by decide) (fun c_1009 => absurd c_1009 (Nat.lt_irrefl _)) (fun _ => ?_)
    refine lv_aload_n hx hb dL_law_1012 rfl (lv_at hl 5 rfl) ?_
    refine lv_iconst (v := nI 0) hx hb dL_law_1013 (by decide) ?_
    refine kn_lald hx hb hK hP 0 3 rfl rfl (i := 0) (by omega) (by decide) dL_law_1014 ?_
    refine lv_iload hx hb dL_law_1015 (lv_at hl 0 rfl) ?_
    refine lv_i2l (v := (v2 u2).toInt64) hx hb dL_law_1017 rfl ?_
    refine W.lcmp hx hb dL_law_1018 ?_
    refine lv_if_eq (tgt := 1024) hx hb dL_law_1019 (by decide) (fun _ => ?_) (fun c_1019 => absurd ((lg_cmp_eq _ _).mpr ((k_uL _ _ _).trans (hans z u2 rfl hpo hp2))) c_1019)
    refine lv_goto (tgt := 1589) hx hb dL_law_1024 (by decide) ?_
    exact k0 rfl z hpo u2 _ _ ls hp2 (kp_P (kq_4 _ _ Pw (wc' z) _) hP) (kp_D (kq_4 _ _ Pw (wc' z) _) hD) hS (lv_sub hl [2, 3, 4, 5, 6] rfl)
set_option maxHeartbeats 4000000 in
set_option maxRecDepth 100000 in
theorem o_allow {p : Program} {l : Launch} {e : Env} {s : State} {m : MethodId} {below : List Frame} {meth : Method} {c : Code} {b L : Nat} {xs : Nat → Int32} {D : va_G} {Q : State → Prop} {H : Heap} {locs : List Loc} {cells slots : Nat} {ls : Array Slot} {S S2 : Type} (ax am ao i : Nat) (f : Nat → Int64) (Pw wc wt : va_W) (wc' : S → va_W) (wt' : S2 → va_W) (po : S → Prop) (po2 : S2 → Prop) (v : S → Int32) (v2 : S2 → Int32) (code mc ms q0 : Nat) (rm rm2 : Room) (fs fm : List Value) (fm' : S2 → List Value)
    (h0 : kLaw p s m c b L xs D) (hi : i + 7 ≤ L) (hl : lv_has ls 8 [(0, .ref b), (1, .ref ax), (2, .ref am), (3, .ref ao), (4, .int (nI i))]) (he : wc[q0]? = some (ax, .inr (5, fs))) (hrm : rm.cells = mc ∧ rm.slots = ms ∧ rm.frames ≤ 11 ∧ rm.locals ≤ 340) (hm5 : mc ≤ 5 ∧ ms ≤ 34) (hrm2 : rm2.cells = 0 ∧ rm2.slots = 0 ∧ rm2.frames ≤ 11 ∧ rm2.locals ≤ 340) (hcd : code ≤ 1) (hcl : cells + 5 ≤ 603072) (hsl : slots + 34 ≤ 7190634)
    (hM : kX l yX5_allow wsX5_allow3 rm mc ms D [.ref ax, .int (xs (i + 1)), .int (xs (i + 2))] wc (kEx [kNse] code) (fun u => some (.int (v u))) wc' po)
    (hN : kM l yX6_allow wsX6_allow rm2 0 0 D [.ref am, .int (xs (i + 1)), .int (xs (i + 2))] ((am, .inr (6, fm)) :: wt) (fun u => some (.int (v2 u))) (fun u => (am, .inr (6, fm' u)) :: wt' u) po2)
    (hT : ∀ u, kM (S := Unit) l yX6_thrown wsX6_thrown { frames := 7, cells := 0, slots := 0, locals := 100 } 0 0 D [.ref am] [(am, .inr (6, fm' u))] (fun _ => some (.int (nI code))) (fun _ => [(am, .inr (6, fm' u))]) (fun _ => True))
    (hans : ∀ z u, code = 0 → po z → po2 u → (v z).toInt64 = (v2 u).toInt64)
    (hP : va_P D kC ((ao, .inl (D.1 23, 1, .inr (.inl f))) :: (Pw ++ (wc ++ ((am, .inr (6, fm)) :: wt)))) H) (hD : va_D (fun q => s.heap.size ≤ q) ((ao, .inl (D.1 23, 1, .inr (.inl f))) :: (Pw ++ (wc ++ ((am, .inr (6, fm)) :: wt))))) (hS : va_S (fun q => s.heap.size ≤ q) s.heap H locs)
    (k0 : code = 0 → ∀ (z : S), po z → ∀ (u : S2) (H1 : Heap) (locs1 : List Loc) (ls1 : Array Slot), po2 u → va_P D kC ((ao, .inl (D.1 23, 1, .inr (.inl (vp_updL f 0 (v z).toInt64)))) :: (Pw ++ (wc' z ++ ((am, .inr (6, fm' u)) :: wt' u)))) H1 → va_D (fun q => s.heap.size ≤ q) ((ao, .inl (D.1 23, 1, .inr (.inl (vp_updL f 0 (v z).toInt64)))) :: (Pw ++ (wc' z ++ ((am, .inr (6, fm' u)) :: wt' u)))) → va_S (fun q => s.heap.size ≤ q) s.heap H1 locs1 → lv_has ls1 8 [(0, .ref b), (1, .ref ax), (2, .ref am), (3, .ref ao), (4, .int (nI i))] → W p l e room_1 s m #[Value.ref b] below meth c H1 locs1 (cells + 5) (slots + 34) Q (F0 m 1589 ls1 []))
    (k1 : 0 < code → ∀ (u : S2) (H1 : Heap) (locs1 : List Loc) (ls1 : Array Slot), po2 u → va_P D kC ((ao, .inl (D.1 23, 1, .inr (.inl f))) :: (Pw ++ (wc ++ ((am, .inr (6, fm' u)) :: wt' u)))) H1 → va_D (fun q => s.heap.size ≤ q) ((ao, .inl (D.1 23, 1, .inr (.inl f))) :: (Pw ++ (wc ++ ((am, .inr (6, fm' u)) :: wt' u)))) → va_S (fun q => s.heap.size ≤ q) s.heap H1 locs1 → lv_has ls1 8 [(0, .ref b), (1, .ref ax), (2, .ref am), (3, .ref ao), (4, .int (nI i))] → W p l e room_1 s m #[Value.ref b] below meth c H1 locs1 (cells + 5) (slots + 34) Q (F0 m 1589 ls1 []))
    : W p l e room_1 s m #[Value.ref b] below meth c H locs cells slots Q (F0 m 1027 ls []) := by
  obtain ⟨hx, hb, hml, hown, hts, hX, hbl, hL9, hK, hE⟩ := h0
  have hA : ∀ q : Nat, s.heap.size ≤ q → (fun q => s.heap.size ≤ q) q := fun q h => h
  have hbA : ¬ (fun q => s.heap.size ≤ q) b := Nat.not_le.mpr hbl
  have hc9 := hts (.constantLong RL 100 (4294967295)) lw_c100
  have hW := w_allow3 l D ax ao (xs (i + 1)) (xs (i + 2)) f wc wc' po v code mc ms q0 rm fs he hrm hcd hM
  refine lv_aload_n hx hb dL_law_1027 rfl (lv_at hl 1 rfl) ?_
  refine lv_aload_n hx hb dL_law_1028 rfl (lv_at hl 0 rfl) ?_
  refine lv_iload hx hb dL_law_1029 (lv_at hl 4 rfl) ?_
  refine lv_iconst (v := nI 1) hx hb dL_law_1031 (by decide) ?_
  refine kn_iadd hx hb dL_law_1032 ?_
  refine kn_sld (i := i + 1) hx hb hX hbl hbA hS (by omega) (by omega) dL_law_1033 ?_
  refine lv_aload_n hx hb dL_law_1034 rfl (lv_at hl 0 rfl) ?_
  refine lv_iload hx hb dL_law_1035 (lv_at hl 4 rfl) ?_
  refine lv_iconst (v := nI 2) hx hb dL_law_1037 (by decide) ?_
  refine kn_iadd hx hb dL_law_1038 ?_
  refine kn_sld (i := i + 2) hx hb hX hbl hbA hS (by omega) (by omega) dL_law_1039 ?_
  refine lv_aload_n hx hb dL_law_1040 rfl (lv_at hl 3 rfl) ?_
  refine kcSWR (As := [.ref ax, .int (xs (i + 1)), .int (xs (i + 2)), .ref ao]) (rest := []) (wr := (Pw ++ ((am, .inr (6, fm)) :: wt))) (ws := ((ao, .inl (D.1 23, 1, .inr (.inl f))) :: wc)) ⟨hx, hb, hml, hown, hts⟩ hW (vx_cwSW 4 hts gL2_L_allow rfl rfl rfl (by decide +kernel) ⟨Nat.le_of_ble_eq_true rfl, Nat.le_of_ble_eq_true rfl⟩) hK hE (kq_1 _ Pw wc _) hP hD hS hA rfl hl.1 rfl (Nat.le_of_ble_eq_true rfl) dL_law_1041 ⟨by show cells + mc ≤ 603072; omega, by show slots + ms ≤ 7190634; omega⟩ (fun u H locs hu hP hD hS => ?_)
  refine W.eq (g2 := F0 m 1044 ls [.int (nI code)]) rfl ?_
  refine W.widen (k := cells + 5) (n := slots + 34) (by omega) (by omega) ?_
  refine lv_istore (lv' := [(5, .int (nI code)), (0, .ref b), (1, .ref ax), (2, .ref am), (3, .ref ao), (4, .int (nI i))]) hx hb dL_law_1044 hl (by decide) rfl (fun ls hl => ?_)
  cases u with
  | none =>
    have hu : 0 < code := hu
    have hP : va_P D kC ((Pw ++ ((am, .inr (6, fm)) :: wt)) ++ ((ao, .inl (D.1 23, 1, .inr (.inl f))) :: wc)) _ := hP
    have hD : va_D (fun q => s.heap.size ≤ q) ((Pw ++ ((am, .inr (6, fm)) :: wt)) ++ ((ao, .inl (D.1 23, 1, .inr (.inl f))) :: wc)) := hD
    refine lv_aload_n hx hb dL_law_1046 rfl (lv_at hl 3 rfl) ?_
    refine lv_aload_n hx hb dL_law_1047 rfl (lv_at hl 1 rfl) ?_
    refine lv_iload hx hb dL_law_1048 (lv_at hl 5 rfl) ?_
    refine lv_iconst (v := nI 1) hx hb dL_law_1050 (by decide) ?_
    refine kn_iadd hx hb dL_law_1051 ?_
    refine kn_sld (i := i + 1) hx hb hX hbl hbA hS (by omega) (by omega) dL_law_1052 ?_
    refine lv_aload_n hx hb dL_law_1053 rfl (lv_at hl 1 rfl) ?_
    refine lv_iload hx hb dL_law_1054 (lv_at hl 5 rfl) ?_
    refine lv_iconst (v := nI 2) hx hb dL_law_1056 (by decide) ?_
    refine kn_iadd hx hb dL_law_1057 ?_
    refine kn_sld (i := i + 2) hx hb hX hbl hbA hS (by omega) (by omega) dL_law_1058 ?_
    refine kcVR (C := RX6) (As := [.int (xs (i + 1)), .int (xs (i + 2))]) (rest := []) (wr := (ao, .inl (D.1 23, 1, .inr (.inl f))) :: (Pw ++ wc)) (ws := ((am, .inr (6, fm)) :: wt)) ⟨hx, hb, hml, hown, hts⟩ hN (cwV 2 hts gL2_X6_allow rfl hrm2.1 hrm2.2.1 (by decide +kernel) ⟨Nat.le_trans (Nat.succ_le_succ hrm2.2.2.1) (Nat.le_of_ble_eq_true rfl), Nat.le_trans (Nat.add_le_add_left hrm2.2.2.2 _) (Nat.le_of_ble_eq_true rfl)⟩) hK hE (kq_2 _ Pw wc _) hP hD hS hA 0 6 rfl rfl rfl rfl hl.1 rfl (Nat.le_of_ble_eq_true rfl) dL_law_1059 ⟨hcl, hsl⟩ (fun u2 H locs hp2 hP hD hS => ?_)
    refine W.eq (g2 := F0 m 1062 ls [.int (v2 u2)]) rfl ?_
    refine W.widen (k := cells + 5) (n := slots + 34) (Nat.le_refl _) (Nat.le_refl _) ?_
    refine lv_istore (lv' := [(6, .int (v2 u2)), (5, .int (nI code)), (0, .ref b), (1, .ref ax), (2, .ref am), (3, .ref ao), (4, .int (nI i))]) hx hb dL_law_1062 hl (by decide) rfl (fun ls hl => ?_)
    refine lv_aload_n hx hb dL_law_1064 rfl (lv_at hl 4 rfl) ?_
    refine kcVR (C := RX6) (As := []) (rest := []) (wr := ((ao, .inl (D.1 23, 1, .inr (.inl f))) :: (Pw ++ wc)) ++ wt' u2) (ws := [(am, .inr (6, fm' u2))]) ⟨hx, hb, hml, hown, hts⟩ (hT u2) (cwV 0 hts gL2_X6_thrown rfl rfl rfl (by decide +kernel) ⟨Nat.le_of_ble_eq_true rfl, Nat.le_of_ble_eq_true rfl⟩) hK hE (kq_3 ((ao, .inl (D.1 23, 1, .inr (.inl f))) :: (Pw ++ wc)) (wt' u2) _) hP hD hS hA 0 6 rfl rfl rfl rfl hl.1 rfl (Nat.le_of_ble_eq_true rfl) dL_law_1065 ⟨hcl, hsl⟩ (fun _ H locs _ hP hD hS => ?_)
    refine W.eq (g2 := F0 m 1068 ls [.int (nI code)]) rfl ?_
    refine W.widen (k := cells + 5) (n := slots + 34) (Nat.le_refl _) (Nat.le_refl _) ?_
    refine lv_iload hx hb dL_law_1068 (lv_at hl 1 rfl) ?_
    refine lv_icmp_eq (tgt := 1075) hx hb dL_law_1070 (by decide) (fun _ => ?_) (fun c_1070 => absurd rfl c_1070)
    refine lv_iload hx hb dL_law_1075 (lv_at hl 1 rfl) ?_
    refine kn_if_ne (tgt := 1092) hx hb (by omega) dL_law_1077 (by decide) (fun _ => ?_) (fun c_1077 => absurd hu (by omega))
    refine lv_goto (tgt := 1589) hx hb dL_law_1092 (by decide) ?_
    exact k1 hu u2 _ _ ls hp2 (kp_P (kq_4 _ _ Pw wc _) hP) (kp_D (kq_4 _ _ Pw wc _) hD) hS (lv_sub hl [2, 3, 4, 5, 6] rfl)
  | some z =>
    obtain ⟨hc0, hpo⟩ := hu
    subst hc0
    have hP : va_P D kC ((Pw ++ ((am, .inr (6, fm)) :: wt)) ++ ((ao, .inl (D.1 23, 1, .inr (.inl (vp_updL f 0 (v z).toInt64)))) :: (wc' z))) _ := hP
    have hD : va_D (fun q => s.heap.size ≤ q) ((Pw ++ ((am, .inr (6, fm)) :: wt)) ++ ((ao, .inl (D.1 23, 1, .inr (.inl (vp_updL f 0 (v z).toInt64)))) :: (wc' z))) := hD
    refine lv_aload_n hx hb dL_law_1046 rfl (lv_at hl 3 rfl) ?_
    refine lv_aload_n hx hb dL_law_1047 rfl (lv_at hl 1 rfl) ?_
    refine lv_iload hx hb dL_law_1048 (lv_at hl 5 rfl) ?_
    refine lv_iconst (v := nI 1) hx hb dL_law_1050 (by decide) ?_
    refine kn_iadd hx hb dL_law_1051 ?_
    refine kn_sld (i := i + 1) hx hb hX hbl hbA hS (by omega) (by omega) dL_law_1052 ?_
    refine lv_aload_n hx hb dL_law_1053 rfl (lv_at hl 1 rfl) ?_
    refine lv_iload hx hb dL_law_1054 (lv_at hl 5 rfl) ?_
    refine lv_iconst (v := nI 2) hx hb dL_law_1056 (by decide) ?_
    refine kn_iadd hx hb dL_law_1057 ?_
    refine kn_sld (i := i + 2) hx hb hX hbl hbA hS (by omega) (by omega) dL_law_1058 ?_
    refine kcVR (C := RX6) (As := [.int (xs (i + 1)), .int (xs (i + 2))]) (rest := []) (wr := (ao, .inl (D.1 23, 1, .inr (.inl (vp_updL f 0 (v z).toInt64)))) :: (Pw ++ (wc' z))) (ws := ((am, .inr (6, fm)) :: wt)) ⟨hx, hb, hml, hown, hts⟩ hN (cwV 2 hts gL2_X6_allow rfl hrm2.1 hrm2.2.1 (by decide +kernel) ⟨Nat.le_trans (Nat.succ_le_succ hrm2.2.2.1) (Nat.le_of_ble_eq_true rfl), Nat.le_trans (Nat.add_le_add_left hrm2.2.2.2 _) (Nat.le_of_ble_eq_true rfl)⟩) hK hE (kq_2 _ Pw (wc' z) _) hP hD hS hA 0 6 rfl rfl rfl rfl hl.1 rfl (Nat.le_of_ble_eq_true rfl) dL_law_1059 ⟨hcl, hsl⟩ (fun u2 H locs hp2 hP hD hS => ?_)
    refine W.eq (g2 := F0 m 1062 ls [.int (v2 u2)]) rfl ?_
    refine W.widen (k := cells + 5) (n := slots + 34) (Nat.le_refl _) (Nat.le_refl _) ?_
    refine lv_istore (lv' := [(6, .int (v2 u2)), (5, .int (nI 0)), (0, .ref b), (1, .ref ax), (2, .ref am), (3, .ref ao), (4, .int (nI i))]) hx hb dL_law_1062 hl (by decide) rfl (fun ls hl => ?_)
    refine lv_aload_n hx hb dL_law_1064 rfl (lv_at hl 4 rfl) ?_
    refine kcVR (C := RX6) (As := []) (rest := []) (wr := ((ao, .inl (D.1 23, 1, .inr (.inl (vp_updL f 0 (v z).toInt64)))) :: (Pw ++ (wc' z))) ++ wt' u2) (ws := [(am, .inr (6, fm' u2))]) ⟨hx, hb, hml, hown, hts⟩ (hT u2) (cwV 0 hts gL2_X6_thrown rfl rfl rfl (by decide +kernel) ⟨Nat.le_of_ble_eq_true rfl, Nat.le_of_ble_eq_true rfl⟩) hK hE (kq_3 ((ao, .inl (D.1 23, 1, .inr (.inl (vp_updL f 0 (v z).toInt64)))) :: (Pw ++ (wc' z))) (wt' u2) _) hP hD hS hA 0 6 rfl rfl rfl rfl hl.1 rfl (Nat.le_of_ble_eq_true rfl) dL_law_1065 ⟨hcl, hsl⟩ (fun _ H locs _ hP hD hS => ?_)
    refine W.eq (g2 := F0 m 1068 ls [.int (nI 0)]) rfl ?_
    refine W.widen (k := cells + 5) (n := slots + 34) (Nat.le_refl _) (Nat.le_refl _) ?_
    refine lv_iload hx hb dL_law_1068 (lv_at hl 1 rfl) ?_
    refine lv_icmp_eq (tgt := 1075) hx hb dL_law_1070 (by decide) (fun _ => ?_) (fun c_1070 => absurd rfl c_1070)
    refine lv_iload hx hb dL_law_1075 (lv_at hl 1 rfl) ?_
    refine kn_if_ne (tgt := 1092) hx hb (by omega) dL_law_1077 (by decide) (fun c_1077 => absurd c_1077 (Nat.lt_irrefl _)) (fun _ => ?_)
    refine lv_aload_n hx hb dL_law_1080 rfl (lv_at hl 5 rfl) ?_
    refine lv_iconst (v := nI 0) hx hb dL_law_1081 (by decide) ?_
    refine kn_lald hx hb hK hP 0 3 rfl rfl (i := 0) (by omega) (by decide) dL_law_1082 ?_
    refine lv_iload hx hb dL_law_1083 (lv_at hl 0 rfl) ?_
    refine lv_i2l (v := (v2 u2).toInt64) hx hb dL_law_1085 rfl ?_
    refine W.lcmp hx hb dL_law_1086 ?_
    refine lv_if_eq (tgt := 1092) hx hb dL_law_1087 (by decide) (fun _ => ?_) (fun c_1087 => absurd ((lg_cmp_eq _ _).mpr ((k_uL _ _ _).trans (hans z u2 rfl hpo hp2))) c_1087)
    refine lv_goto (tgt := 1589) hx hb dL_law_1092 (by decide) ?_
    exact k0 rfl z hpo u2 _ _ ls hp2 (kp_P (kq_4 _ _ Pw (wc' z) _) hP) (kp_D (kq_4 _ _ Pw (wc' z) _) hD) hS (lv_sub hl [2, 3, 4, 5, 6] rfl)
set_option maxHeartbeats 4000000 in
set_option maxRecDepth 100000 in
theorem o_lock {p : Program} {l : Launch} {e : Env} {s : State} {m : MethodId} {below : List Frame} {meth : Method} {c : Code} {b L : Nat} {xs : Nat → Int32} {D : va_G} {Q : State → Prop} {H : Heap} {locs : List Loc} {cells slots : Nat} {ls : Array Slot} {S S2 : Type} (ax am ao i : Nat) (f : Nat → Int64) (Pw wc wt : va_W) (wc' : S → va_W) (wt' : S2 → va_W) (po : S → Prop) (po2 : S2 → Prop) (v : S → Int32) (v2 : S2 → Int32) (code mc ms q0 : Nat) (rm rm2 : Room) (fs fm : List Value) (fm' : S2 → List Value)
    (h0 : kLaw p s m c b L xs D) (hi : i + 7 ≤ L) (hl : lv_has ls 8 [(0, .ref b), (1, .ref ax), (2, .ref am), (3, .ref ao), (4, .int (nI i))]) (he : wc[q0]? = some (ax, .inr (5, fs))) (hrm : rm.cells = mc ∧ rm.slots = ms ∧ rm.frames ≤ 11 ∧ rm.locals ≤ 340) (hm5 : mc ≤ 5 ∧ ms ≤ 34) (hrm2 : rm2.cells = 0 ∧ rm2.slots = 0 ∧ rm2.frames ≤ 11 ∧ rm2.locals ≤ 340) (hcd : code ≤ 2) (hcl : cells + 5 ≤ 603072) (hsl : slots + 34 ≤ 7190634)
    (hM : kX l yX5_lock wsX5_lock3 rm mc ms D [.ref ax, .int (xs (i + 1)), .int (xs (i + 2))] wc (kEx [kNse, kIae] code) (fun u => some (.int (v u))) wc' po)
    (hN : kM l yX6_lock wsX6_lock rm2 0 0 D [.ref am, .int (xs (i + 1)), .int (xs (i + 2))] ((am, .inr (6, fm)) :: wt) (fun u => some (.int (v2 u))) (fun u => (am, .inr (6, fm' u)) :: wt' u) po2)
    (hT : ∀ u, kM (S := Unit) l yX6_thrown wsX6_thrown { frames := 7, cells := 0, slots := 0, locals := 100 } 0 0 D [.ref am] [(am, .inr (6, fm' u))] (fun _ => some (.int (nI code))) (fun _ => [(am, .inr (6, fm' u))]) (fun _ => True))
    (hans : ∀ z u, code = 0 → po z → po2 u → (v z).toInt64 = (v2 u).toInt64)
    (hP : va_P D kC ((ao, .inl (D.1 23, 1, .inr (.inl f))) :: (Pw ++ (wc ++ ((am, .inr (6, fm)) :: wt)))) H) (hD : va_D (fun q => s.heap.size ≤ q) ((ao, .inl (D.1 23, 1, .inr (.inl f))) :: (Pw ++ (wc ++ ((am, .inr (6, fm)) :: wt))))) (hS : va_S (fun q => s.heap.size ≤ q) s.heap H locs)
    (k0 : code = 0 → ∀ (z : S), po z → ∀ (u : S2) (H1 : Heap) (locs1 : List Loc) (ls1 : Array Slot), po2 u → va_P D kC ((ao, .inl (D.1 23, 1, .inr (.inl (vp_updL f 0 (v z).toInt64)))) :: (Pw ++ (wc' z ++ ((am, .inr (6, fm' u)) :: wt' u)))) H1 → va_D (fun q => s.heap.size ≤ q) ((ao, .inl (D.1 23, 1, .inr (.inl (vp_updL f 0 (v z).toInt64)))) :: (Pw ++ (wc' z ++ ((am, .inr (6, fm' u)) :: wt' u)))) → va_S (fun q => s.heap.size ≤ q) s.heap H1 locs1 → lv_has ls1 8 [(0, .ref b), (1, .ref ax), (2, .ref am), (3, .ref ao), (4, .int (nI i))] → W p l e room_1 s m #[Value.ref b] below meth c H1 locs1 (cells + 5) (slots + 34) Q (F0 m 1589 ls1 []))
    (k1 : 0 < code → ∀ (u : S2) (H1 : Heap) (locs1 : List Loc) (ls1 : Array Slot), po2 u → va_P D kC ((ao, .inl (D.1 23, 1, .inr (.inl f))) :: (Pw ++ (wc ++ ((am, .inr (6, fm' u)) :: wt' u)))) H1 → va_D (fun q => s.heap.size ≤ q) ((ao, .inl (D.1 23, 1, .inr (.inl f))) :: (Pw ++ (wc ++ ((am, .inr (6, fm' u)) :: wt' u)))) → va_S (fun q => s.heap.size ≤ q) s.heap H1 locs1 → lv_has ls1 8 [(0, .ref b), (1, .ref ax), (2, .ref am), (3, .ref ao), (4, .int (nI i))] → W p l e room_1 s m #[Value.ref b] below meth c H1 locs1 (cells + 5) (slots + 34) Q (F0 m 1589 ls1 []))
    : W p l e room_1 s m #[Value.ref b] below meth c H locs cells slots Q (F0 m 1095 ls []) := by
  obtain ⟨hx, hb, hml, hown, hts, hX, hbl, hL9, hK, hE⟩ := h0
  have hA : ∀ q : Nat, s.heap.size ≤ q → (fun q => s.heap.size ≤ q) q := fun q h => h
  have hbA : ¬ (fun q => s.heap.size ≤ q) b := Nat.not_le.mpr hbl
  have hc9 := hts (.constantLong RL 100 (4294967295)) lw_c100
  have hW := w_lock3 l D ax ao (xs (i + 1)) (xs (i + 2)) f wc wc' po v code mc ms q0 rm fs he hrm hcd hM
  refine lv_aload_n hx hb dL_law_1095 rfl (lv_at hl 1 rfl) ?_
  refine lv_aload_n hx hb dL_law_1096 rfl (lv_at hl 0 rfl) ?_
  refine lv_iload hx hb dL_law_1097 (lv_at hl 4 rfl) ?_
  refine lv_iconst (v := nI 1) hx hb dL_law_1099 (by decide) ?_
  refine kn_iadd hx hb dL_law_1100 ?_
  refine kn_sld (i := i + 1) hx hb hX hbl hbA hS (by omega) (by omega) dL_law_1101 ?_
  refine lv_aload_n hx hb dL_law_1102 rfl (lv_at hl 0 rfl) ?_
  refine lv_iload hx hb dL_law_1103 (lv_at hl 4 rfl) ?_
  refine lv_iconst (v := nI 2) hx hb dL_law_1105 (by decide) ?_
  refine kn_iadd hx hb dL_law_1106 ?_
  refine kn_sld (i := i + 2) hx hb hX hbl hbA hS (by omega) (by omega) dL_law_1107 ?_
  refine lv_aload_n hx hb dL_law_1108 rfl (lv_at hl 3 rfl) ?_
  refine kcSWR (As := [.ref ax, .int (xs (i + 1)), .int (xs (i + 2)), .ref ao]) (rest := []) (wr := (Pw ++ ((am, .inr (6, fm)) :: wt))) (ws := ((ao, .inl (D.1 23, 1, .inr (.inl f))) :: wc)) ⟨hx, hb, hml, hown, hts⟩ hW (vx_cwSW 4 hts gL2_L_lock rfl rfl rfl (by decide +kernel) ⟨Nat.le_of_ble_eq_true rfl, Nat.le_of_ble_eq_true rfl⟩) hK hE (kq_1 _ Pw wc _) hP hD hS hA rfl hl.1 rfl (Nat.le_of_ble_eq_true rfl) dL_law_1109 ⟨by show cells + mc ≤ 603072; omega, by show slots + ms ≤ 7190634; omega⟩ (fun u H locs hu hP hD hS => ?_)
  refine W.eq (g2 := F0 m 1112 ls [.int (nI code)]) rfl ?_
  refine W.widen (k := cells + 5) (n := slots + 34) (by omega) (by omega) ?_
  refine lv_istore (lv' := [(5, .int (nI code)), (0, .ref b), (1, .ref ax), (2, .ref am), (3, .ref ao), (4, .int (nI i))]) hx hb dL_law_1112 hl (by decide) rfl (fun ls hl => ?_)
  cases u with
  | none =>
    have hu : 0 < code := hu
    have hP : va_P D kC ((Pw ++ ((am, .inr (6, fm)) :: wt)) ++ ((ao, .inl (D.1 23, 1, .inr (.inl f))) :: wc)) _ := hP
    have hD : va_D (fun q => s.heap.size ≤ q) ((Pw ++ ((am, .inr (6, fm)) :: wt)) ++ ((ao, .inl (D.1 23, 1, .inr (.inl f))) :: wc)) := hD
    refine lv_aload_n hx hb dL_law_1114 rfl (lv_at hl 3 rfl) ?_
    refine lv_aload_n hx hb dL_law_1115 rfl (lv_at hl 1 rfl) ?_
    refine lv_iload hx hb dL_law_1116 (lv_at hl 5 rfl) ?_
    refine lv_iconst (v := nI 1) hx hb dL_law_1118 (by decide) ?_
    refine kn_iadd hx hb dL_law_1119 ?_
    refine kn_sld (i := i + 1) hx hb hX hbl hbA hS (by omega) (by omega) dL_law_1120 ?_
    refine lv_aload_n hx hb dL_law_1121 rfl (lv_at hl 1 rfl) ?_
    refine lv_iload hx hb dL_law_1122 (lv_at hl 5 rfl) ?_
    refine lv_iconst (v := nI 2) hx hb dL_law_1124 (by decide) ?_
    refine kn_iadd hx hb dL_law_1125 ?_
    refine kn_sld (i := i + 2) hx hb hX hbl hbA hS (by omega) (by omega) dL_law_1126 ?_
    refine kcVR (C := RX6) (As := [.int (xs (i + 1)), .int (xs (i + 2))]) (rest := []) (wr := (ao, .inl (D.1 23, 1, .inr (.inl f))) :: (Pw ++ wc)) (ws := ((am, .inr (6, fm)) :: wt)) ⟨hx, hb, hml, hown, hts⟩ hN (cwV 2 hts gL2_X6_lock rfl hrm2.1 hrm2.2.1 (by decide +kernel) ⟨Nat.le_trans (Nat.succ_le_succ hrm2.2.2.1) (Nat.le_of_ble_eq_true rfl), Nat.le_trans (Nat.add_le_add_left hrm2.2.2.2 _) (Nat.le_of_ble_eq_true rfl)⟩) hK hE (kq_2 _ Pw wc _) hP hD hS hA 0 6 rfl rfl rfl rfl hl.1 rfl (Nat.le_of_ble_eq_true rfl) dL_law_1127 ⟨hcl, hsl⟩ (fun u2 H locs hp2 hP hD hS => ?_)
    refine W.eq (g2 := F0 m 1130 ls [.int (v2 u2)]) rfl ?_
    refine W.widen (k := cells + 5) (n := slots + 34) (Nat.le_refl _) (Nat.le_refl _) ?_
    refine lv_istore (lv' := [(6, .int (v2 u2)), (5, .int (nI code)), (0, .ref b), (1, .ref ax), (2, .ref am), (3, .ref ao), (4, .int (nI i))]) hx hb dL_law_1130 hl (by decide) rfl (fun ls hl => ?_)
    refine lv_aload_n hx hb dL_law_1132 rfl (lv_at hl 4 rfl) ?_
    refine kcVR (C := RX6) (As := []) (rest := []) (wr := ((ao, .inl (D.1 23, 1, .inr (.inl f))) :: (Pw ++ wc)) ++ wt' u2) (ws := [(am, .inr (6, fm' u2))]) ⟨hx, hb, hml, hown, hts⟩ (hT u2) (cwV 0 hts gL2_X6_thrown rfl rfl rfl (by decide +kernel) ⟨Nat.le_of_ble_eq_true rfl, Nat.le_of_ble_eq_true rfl⟩) hK hE (kq_3 ((ao, .inl (D.1 23, 1, .inr (.inl f))) :: (Pw ++ wc)) (wt' u2) _) hP hD hS hA 0 6 rfl rfl rfl rfl hl.1 rfl (Nat.le_of_ble_eq_true rfl) dL_law_1133 ⟨hcl, hsl⟩ (fun _ H locs _ hP hD hS => ?_)
    refine W.eq (g2 := F0 m 1136 ls [.int (nI code)]) rfl ?_
    refine W.widen (k := cells + 5) (n := slots + 34) (Nat.le_refl _) (Nat.le_refl _) ?_
    refine lv_iload hx hb dL_law_1136 (lv_at hl 1 rfl) ?_
    refine lv_icmp_eq (tgt := 1143) hx hb dL_law_1138 (by decide) (fun _ => ?_) (fun c_1138 => absurd rfl c_1138)
    refine lv_iload hx hb dL_law_1143 (lv_at hl 1 rfl) ?_
    refine kn_if_ne (tgt := 1160) hx hb (by omega) dL_law_1145 (by decide) (fun _ => ?_) (fun c_1145 => absurd hu (by omega))
    refine lv_goto (tgt := 1589) hx hb dL_law_1160 (by decide) ?_
    exact k1 hu u2 _ _ ls hp2 (kp_P (kq_4 _ _ Pw wc _) hP) (kp_D (kq_4 _ _ Pw wc _) hD) hS (lv_sub hl [2, 3, 4, 5, 6] rfl)
  | some z =>
    obtain ⟨hc0, hpo⟩ := hu
    subst hc0
    have hP : va_P D kC ((Pw ++ ((am, .inr (6, fm)) :: wt)) ++ ((ao, .inl (D.1 23, 1, .inr (.inl (vp_updL f 0 (v z).toInt64)))) :: (wc' z))) _ := hP
    have hD : va_D (fun q => s.heap.size ≤ q) ((Pw ++ ((am, .inr (6, fm)) :: wt)) ++ ((ao, .inl (D.1 23, 1, .inr (.inl (vp_updL f 0 (v z).toInt64)))) :: (wc' z))) := hD
    refine lv_aload_n hx hb dL_law_1114 rfl (lv_at hl 3 rfl) ?_
    refine lv_aload_n hx hb dL_law_1115 rfl (lv_at hl 1 rfl) ?_
    refine lv_iload hx hb dL_law_1116 (lv_at hl 5 rfl) ?_
    refine lv_iconst (v := nI 1) hx hb dL_law_1118 (by decide) ?_
    refine kn_iadd hx hb dL_law_1119 ?_
    refine kn_sld (i := i + 1) hx hb hX hbl hbA hS (by omega) (by omega) dL_law_1120 ?_
    refine lv_aload_n hx hb dL_law_1121 rfl (lv_at hl 1 rfl) ?_
    refine lv_iload hx hb dL_law_1122 (lv_at hl 5 rfl) ?_
    refine lv_iconst (v := nI 2) hx hb dL_law_1124 (by decide) ?_
    refine kn_iadd hx hb dL_law_1125 ?_
    refine kn_sld (i := i + 2) hx hb hX hbl hbA hS (by omega) (by omega) dL_law_1126 ?_
    refine kcVR (C := RX6) (As := [.int (xs (i + 1)), .int (xs (i + 2))]) (rest := []) (wr := (ao, .inl (D.1 23, 1, .inr (.inl (vp_updL f 0 (v z).toInt64)))) :: (Pw ++ (wc' z))) (ws := ((am, .inr (6, fm)) :: wt)) ⟨hx, hb, hml, hown, hts⟩ hN (cwV 2 hts gL2_X6_lock rfl hrm2.1 hrm2.2.1 (by decide +kernel) ⟨Nat.le_trans (Nat.succ_le_succ hrm2.2.2.1) (Nat.le_of_ble_eq_true rfl), Nat.le_trans (Nat.add_le_add_left hrm2.2.2.2 _) (Nat.le_of_ble_eq_true rfl)⟩) hK hE (kq_2 _ Pw (wc' z) _) hP hD hS hA 0 6 rfl rfl rfl rfl hl.1 rfl (Nat.le_of_ble_eq_true rfl) dL_law_1127 ⟨hcl, hsl⟩ (fun u2 H locs hp2 hP hD hS => ?_)
    refine W.eq (g2 := F0 m 1130 ls [.int (v2 u2)]) rfl ?_
    refine W.widen (k := cells + 5) (n := slots + 34) (Nat.le_refl _) (Nat.le_refl _) ?_
    refine lv_istore (lv' := [(6, .int (v2 u2)), (5, .int (nI 0)), (0, .ref b), (1, .ref ax), (2, .ref am), (3, .ref ao), (4, .int (nI i))]) hx hb dL_law_1130 hl (by decide) rfl (fun ls hl => ?_)
    refine lv_aload_n hx hb dL_law_1132 rfl (lv_at hl 4 rfl) ?_
    refine kcVR (C := RX6) (As := []) (rest := []) (wr := ((ao, .inl (D.1 23, 1, .inr (.inl (vp_updL f 0 (v z).toInt64)))) :: (Pw ++ (wc' z))) ++ wt' u2) (ws := [(am, .inr (6, fm' u2))]) ⟨hx, hb, hml, hown, hts⟩ (hT u2) (cwV 0 hts gL2_X6_thrown rfl rfl rfl (by decide +kernel) ⟨Nat.le_of_ble_eq_true rfl, Nat.le_of_ble_eq_true rfl⟩) hK hE (kq_3 ((ao, .inl (D.1 23, 1, .inr (.inl (vp_updL f 0 (v z).toInt64)))) :: (Pw ++ (wc' z))) (wt' u2) _) hP hD hS hA 0 6 rfl rfl rfl rfl hl.1 rfl (Nat.le_of_ble_eq_true rfl) dL_law_1133 ⟨hcl, hsl⟩ (fun _ H locs _ hP hD hS => ?_)
    refine W.eq (g2 := F0 m 1136 ls [.int (nI 0)]) rfl ?_
    refine W.widen (k := cells + 5) (n := slots + 34) (Nat.le_refl _) (Nat.le_refl _) ?_
    refine lv_iload hx hb dL_law_1136 (lv_at hl 1 rfl) ?_
    refine lv_icmp_eq (tgt := 1143) hx hb dL_law_1138 (by decide) (fun _ => ?_) (fun c_1138 => absurd rfl c_1138)
    refine lv_iload hx hb dL_law_1143 (lv_at hl 1 rfl) ?_
    refine kn_if_ne (tgt := 1160) hx hb (by omega) dL_law_1145 (by decide) (fun c_1145 => absurd c_1145 (Nat.lt_irrefl _)) (fun _ => ?_)
    refine lv_aload_n hx hb dL_law_1148 rfl (lv_at hl 5 rfl) ?_
    refine lv_iconst (v := nI 0) hx hb dL_law_1149 (by decide) ?_
    refine kn_lald hx hb hK hP 0 3 rfl rfl (i := 0) (by omega) (by decide) dL_law_1150 ?_
    refine lv_iload hx hb dL_law_1151 (lv_at hl 0 rfl) ?_
    refine lv_i2l (v := (v2 u2).toInt64) hx hb dL_law_1153 rfl ?_
    refine W.lcmp hx hb dL_law_1154 ?_
    refine lv_if_eq (tgt := 1160) hx hb dL_law_1155 (by decide) (fun _ => ?_) (fun c_1155 => absurd ((lg_cmp_eq _ _).mpr ((k_uL _ _ _).trans (hans z u2 rfl hpo hp2))) c_1155)
    refine lv_goto (tgt := 1589) hx hb dL_law_1160 (by decide) ?_
    exact k0 rfl z hpo u2 _ _ ls hp2 (kp_P (kq_4 _ _ Pw (wc' z) _) hP) (kp_D (kq_4 _ _ Pw (wc' z) _) hD) hS (lv_sub hl [2, 3, 4, 5, 6] rfl)
set_option maxHeartbeats 4000000 in
set_option maxRecDepth 100000 in
theorem o_certify {p : Program} {l : Launch} {e : Env} {s : State} {m : MethodId} {below : List Frame} {meth : Method} {c : Code} {b L : Nat} {xs : Nat → Int32} {D : va_G} {Q : State → Prop} {H : Heap} {locs : List Loc} {cells slots : Nat} {ls : Array Slot} {S S2 : Type} (ax am ao i : Nat) (f : Nat → Int64) (Pw wc wt : va_W) (wc' : S → va_W) (wt' : S2 → va_W) (po : S → Prop) (po2 : S2 → Prop) (v : S → Int32) (v2 : S2 → Int32) (code mc ms q0 : Nat) (rm rm2 : Room) (fs fm : List Value) (fm' : S2 → List Value)
    (h0 : kLaw p s m c b L xs D) (hi : i + 7 ≤ L) (hl : lv_has ls 8 [(0, .ref b), (1, .ref ax), (2, .ref am), (3, .ref ao), (4, .int (nI i))]) (he : wc[q0]? = some (ax, .inr (5, fs))) (hrm : rm.cells = mc ∧ rm.slots = ms ∧ rm.frames ≤ 11 ∧ rm.locals ≤ 340) (hm5 : mc ≤ 5 ∧ ms ≤ 34) (hrm2 : rm2.cells = 0 ∧ rm2.slots = 0 ∧ rm2.frames ≤ 11 ∧ rm2.locals ≤ 340) (hcd : code ≤ 2) (hcl : cells + 5 ≤ 603072) (hsl : slots + 34 ≤ 7190634)
    (hM : kX l yX5_certify wsX5_certify3 rm mc ms D [.ref ax, .int (xs (i + 1)), .int (xs (i + 2))] wc (kEx [kNse, kIae] code) (fun u => some (.int (v u))) wc' po)
    (hN : kM l yX6_certify wsX6_certify rm2 0 0 D [.ref am, .int (xs (i + 1)), .int (xs (i + 2))] ((am, .inr (6, fm)) :: wt) (fun u => some (.int (v2 u))) (fun u => (am, .inr (6, fm' u)) :: wt' u) po2)
    (hT : ∀ u, kM (S := Unit) l yX6_thrown wsX6_thrown { frames := 7, cells := 0, slots := 0, locals := 100 } 0 0 D [.ref am] [(am, .inr (6, fm' u))] (fun _ => some (.int (nI code))) (fun _ => [(am, .inr (6, fm' u))]) (fun _ => True))
    (hans : ∀ z u, code = 0 → po z → po2 u → (v z).toInt64 = (v2 u).toInt64)
    (hP : va_P D kC ((ao, .inl (D.1 23, 1, .inr (.inl f))) :: (Pw ++ (wc ++ ((am, .inr (6, fm)) :: wt)))) H) (hD : va_D (fun q => s.heap.size ≤ q) ((ao, .inl (D.1 23, 1, .inr (.inl f))) :: (Pw ++ (wc ++ ((am, .inr (6, fm)) :: wt))))) (hS : va_S (fun q => s.heap.size ≤ q) s.heap H locs)
    (k0 : code = 0 → ∀ (z : S), po z → ∀ (u : S2) (H1 : Heap) (locs1 : List Loc) (ls1 : Array Slot), po2 u → va_P D kC ((ao, .inl (D.1 23, 1, .inr (.inl (vp_updL f 0 (v z).toInt64)))) :: (Pw ++ (wc' z ++ ((am, .inr (6, fm' u)) :: wt' u)))) H1 → va_D (fun q => s.heap.size ≤ q) ((ao, .inl (D.1 23, 1, .inr (.inl (vp_updL f 0 (v z).toInt64)))) :: (Pw ++ (wc' z ++ ((am, .inr (6, fm' u)) :: wt' u)))) → va_S (fun q => s.heap.size ≤ q) s.heap H1 locs1 → lv_has ls1 8 [(0, .ref b), (1, .ref ax), (2, .ref am), (3, .ref ao), (4, .int (nI i))] → W p l e room_1 s m #[Value.ref b] below meth c H1 locs1 (cells + 5) (slots + 34) Q (F0 m 1589 ls1 []))
    (k1 : 0 < code → ∀ (u : S2) (H1 : Heap) (locs1 : List Loc) (ls1 : Array Slot), po2 u → va_P D kC ((ao, .inl (D.1 23, 1, .inr (.inl f))) :: (Pw ++ (wc ++ ((am, .inr (6, fm' u)) :: wt' u)))) H1 → va_D (fun q => s.heap.size ≤ q) ((ao, .inl (D.1 23, 1, .inr (.inl f))) :: (Pw ++ (wc ++ ((am, .inr (6, fm' u)) :: wt' u)))) → va_S (fun q => s.heap.size ≤ q) s.heap H1 locs1 → lv_has ls1 8 [(0, .ref b), (1, .ref ax), (2, .ref am), (3, .ref ao), (4, .int (nI i))] → W p l e room_1 s m #[Value.ref b] below meth c H1 locs1 (cells + 5) (slots + 34) Q (F0 m 1589 ls1 []))
    : W p l e room_1 s m #[Value.ref b] below meth c H locs cells slots Q (F0 m 1163 ls []) := by
  obtain ⟨hx, hb, hml, hown, hts, hX, hbl, hL9, hK, hE⟩ := h0
  have hA : ∀ q : Nat, s.heap.size ≤ q → (fun q => s.heap.size ≤ q) q := fun q h => h
  have hbA : ¬ (fun q => s.heap.size ≤ q) b := Nat.not_le.mpr hbl
  have hc9 := hts (.constantLong RL 100 (4294967295)) lw_c100
  have hW := w_certify3 l D ax ao (xs (i + 1)) (xs (i + 2)) f wc wc' po v code mc ms q0 rm fs he hrm hcd hM
  refine lv_aload_n hx hb dL_law_1163 rfl (lv_at hl 1 rfl) ?_
  refine lv_aload_n hx hb dL_law_1164 rfl (lv_at hl 0 rfl) ?_
  refine lv_iload hx hb dL_law_1165 (lv_at hl 4 rfl) ?_
  refine lv_iconst (v := nI 1) hx hb dL_law_1167 (by decide) ?_
  refine kn_iadd hx hb dL_law_1168 ?_
  refine kn_sld (i := i + 1) hx hb hX hbl hbA hS (by omega) (by omega) dL_law_1169 ?_
  refine lv_aload_n hx hb dL_law_1170 rfl (lv_at hl 0 rfl) ?_
  refine lv_iload hx hb dL_law_1171 (lv_at hl 4 rfl) ?_
  refine lv_iconst (v := nI 2) hx hb dL_law_1173 (by decide) ?_
  refine kn_iadd hx hb dL_law_1174 ?_
  refine kn_sld (i := i + 2) hx hb hX hbl hbA hS (by omega) (by omega) dL_law_1175 ?_
  refine lv_aload_n hx hb dL_law_1176 rfl (lv_at hl 3 rfl) ?_
  refine kcSWR (As := [.ref ax, .int (xs (i + 1)), .int (xs (i + 2)), .ref ao]) (rest := []) (wr := (Pw ++ ((am, .inr (6, fm)) :: wt))) (ws := ((ao, .inl (D.1 23, 1, .inr (.inl f))) :: wc)) ⟨hx, hb, hml, hown, hts⟩ hW (vx_cwSW 4 hts gL2_L_certify rfl rfl rfl (by decide +kernel) ⟨Nat.le_of_ble_eq_true rfl, Nat.le_of_ble_eq_true rfl⟩) hK hE (kq_1 _ Pw wc _) hP hD hS hA rfl hl.1 rfl (Nat.le_of_ble_eq_true rfl) dL_law_1177 ⟨by show cells + mc ≤ 603072; omega, by show slots + ms ≤ 7190634; omega⟩ (fun u H locs hu hP hD hS => ?_)
  refine W.eq (g2 := F0 m 1180 ls [.int (nI code)]) rfl ?_
  refine W.widen (k := cells + 5) (n := slots + 34) (by omega) (by omega) ?_
  refine lv_istore (lv' := [(5, .int (nI code)), (0, .ref b), (1, .ref ax), (2, .ref am), (3, .ref ao), (4, .int (nI i))]) hx hb dL_law_1180 hl (by decide) rfl (fun ls hl => ?_)
  cases u with
  | none =>
    have hu : 0 < code := hu
    have hP : va_P D kC ((Pw ++ ((am, .inr (6, fm)) :: wt)) ++ ((ao, .inl (D.1 23, 1, .inr (.inl f))) :: wc)) _ := hP
    have hD : va_D (fun q => s.heap.size ≤ q) ((Pw ++ ((am, .inr (6, fm)) :: wt)) ++ ((ao, .inl (D.1 23, 1, .inr (.inl f))) :: wc)) := hD
    refine lv_aload_n hx hb dL_law_1182 rfl (lv_at hl 3 rfl) ?_
    refine lv_aload_n hx hb dL_law_1183 rfl (lv_at hl 1 rfl) ?_
    refine lv_iload hx hb dL_law_1184 (lv_at hl 5 rfl) ?_
    refine lv_iconst (v := nI 1) hx hb dL_law_1186 (by decide) ?_
    refine kn_iadd hx hb dL_law_1187 ?_
    refine kn_sld (i := i + 1) hx hb hX hbl hbA hS (by omega) (by omega) dL_law_1188 ?_
    refine lv_aload_n hx hb dL_law_1189 rfl (lv_at hl 1 rfl) ?_
    refine lv_iload hx hb dL_law_1190 (lv_at hl 5 rfl) ?_
    refine lv_iconst (v := nI 2) hx hb dL_law_1192 (by decide) ?_
    refine kn_iadd hx hb dL_law_1193 ?_
    refine kn_sld (i := i + 2) hx hb hX hbl hbA hS (by omega) (by omega) dL_law_1194 ?_
    refine kcVR (C := RX6) (As := [.int (xs (i + 1)), .int (xs (i + 2))]) (rest := []) (wr := (ao, .inl (D.1 23, 1, .inr (.inl f))) :: (Pw ++ wc)) (ws := ((am, .inr (6, fm)) :: wt)) ⟨hx, hb, hml, hown, hts⟩ hN (cwV 2 hts gL2_X6_certify rfl hrm2.1 hrm2.2.1 (by decide +kernel) ⟨Nat.le_trans (Nat.succ_le_succ hrm2.2.2.1) (Nat.le_of_ble_eq_true rfl), Nat.le_trans (Nat.add_le_add_left hrm2.2.2.2 _) (Nat.le_of_ble_eq_true rfl)⟩) hK hE (kq_2 _ Pw wc _) hP hD hS hA 0 6 rfl rfl rfl rfl hl.1 rfl (Nat.le_of_ble_eq_true rfl) dL_law_1195 ⟨hcl, hsl⟩ (fun u2 H locs hp2 hP hD hS => ?_)
    refine W.eq (g2 := F0 m 1198 ls [.int (v2 u2)]) rfl ?_
    refine W.widen (k := cells + 5) (n := slots + 34) (Nat.le_refl _) (Nat.le_refl _) ?_
    refine lv_istore (lv' := [(6, .int (v2 u2)), (5, .int (nI code)), (0, .ref b), (1, .ref ax), (2, .ref am), (3, .ref ao), (4, .int (nI i))]) hx hb dL_law_1198 hl (by decide) rfl (fun ls hl => ?_)
    refine lv_aload_n hx hb dL_law_1200 rfl (lv_at hl 4 rfl) ?_
    refine kcVR (C := RX6) (As := []) (rest := []) (wr := ((ao, .inl (D.1 23, 1, .inr (.inl f))) :: (Pw ++ wc)) ++ wt' u2) (ws := [(am, .inr (6, fm' u2))]) ⟨hx, hb, hml, hown, hts⟩ (hT u2) (cwV 0 hts gL2_X6_thrown rfl rfl rfl (by decide +kernel) ⟨Nat.le_of_ble_eq_true rfl, Nat.le_of_ble_eq_true rfl⟩) hK hE (kq_3 ((ao, .inl (D.1 23, 1, .inr (.inl f))) :: (Pw ++ wc)) (wt' u2) _) hP hD hS hA 0 6 rfl rfl rfl rfl hl.1 rfl (Nat.le_of_ble_eq_true rfl) dL_law_1201 ⟨hcl, hsl⟩ (fun _ H locs _ hP hD hS => ?_)
    refine W.eq (g2 := F0 m 1204 ls [.int (nI code)]) rfl ?_
    refine W.widen (k := cells + 5) (n := slots + 34) (Nat.le_refl _) (Nat.le_refl _) ?_
    refine lv_iload hx hb dL_law_1204 (lv_at hl 1 rfl) ?_
    refine lv_icmp_eq (tgt := 1211) hx hb dL_law_1206 (by decide) (fun _ => ?_) (fun c_1206 => absurd rfl c_1206)
    refine lv_iload hx hb dL_law_1211 (lv_at hl 1 rfl) ?_
    refine kn_if_ne (tgt := 1228) hx hb (by omega) dL_law_1213 (by decide) (fun _ => ?_) (fun c_1213 => absurd hu (by omega))
    refine lv_goto (tgt := 1589) hx hb dL_law_1228 (by decide) ?_
    exact k1 hu u2 _ _ ls hp2 (kp_P (kq_4 _ _ Pw wc _) hP) (kp_D (kq_4 _ _ Pw wc _) hD) hS (lv_sub hl [2, 3, 4, 5, 6] rfl)
  | some z =>
    obtain ⟨hc0, hpo⟩ := hu
    subst hc0
    have hP : va_P D kC ((Pw ++ ((am, .inr (6, fm)) :: wt)) ++ ((ao, .inl (D.1 23, 1, .inr (.inl (vp_updL f 0 (v z).toInt64)))) :: (wc' z))) _ := hP
    have hD : va_D (fun q => s.heap.size ≤ q) ((Pw ++ ((am, .inr (6, fm)) :: wt)) ++ ((ao, .inl (D.1 23, 1, .inr (.inl (vp_updL f 0 (v z).toInt64)))) :: (wc' z))) := hD
    refine lv_aload_n hx hb dL_law_1182 rfl (lv_at hl 3 rfl) ?_
    refine lv_aload_n hx hb dL_law_1183 rfl (lv_at hl 1 rfl) ?_
    refine lv_iload hx hb dL_law_1184 (lv_at hl 5 rfl) ?_
    refine lv_iconst (v := nI 1) hx hb dL_law_1186 (by decide) ?_
    refine kn_iadd hx hb dL_law_1187 ?_
    refine kn_sld (i := i + 1) hx hb hX hbl hbA hS (by omega) (by omega) dL_law_1188 ?_
    refine lv_aload_n hx hb dL_law_1189 rfl (lv_at hl 1 rfl) ?_
    refine lv_iload hx hb dL_law_1190 (lv_at hl 5 rfl) ?_
    refine lv_iconst (v := nI 2) hx hb dL_law_1192 (by decide) ?_
    refine kn_iadd hx hb dL_law_1193 ?_
    refine kn_sld (i := i + 2) hx hb hX hbl hbA hS (by omega) (by omega) dL_law_1194 ?_
    refine kcVR (C := RX6) (As := [.int (xs (i + 1)), .int (xs (i + 2))]) (rest := []) (wr := (ao, .inl (D.1 23, 1, .inr (.inl (vp_updL f 0 (v z).toInt64)))) :: (Pw ++ (wc' z))) (ws := ((am, .inr (6, fm)) :: wt)) ⟨hx, hb, hml, hown, hts⟩ hN (cwV 2 hts gL2_X6_certify rfl hrm2.1 hrm2.2.1 (by decide +kernel) ⟨Nat.le_trans (Nat.succ_le_succ hrm2.2.2.1) (Nat.le_of_ble_eq_true rfl), Nat.le_trans (Nat.add_le_add_left hrm2.2.2.2 _) (Nat.le_of_ble_eq_true rfl)⟩) hK hE (kq_2 _ Pw (wc' z) _) hP hD hS hA 0 6 rfl rfl rfl rfl hl.1 rfl (Nat.le_of_ble_eq_true rfl) dL_law_1195 ⟨hcl, hsl⟩ (fun u2 H locs hp2 hP hD hS => ?_)
    refine W.eq (g2 := F0 m 1198 ls [.int (v2 u2)]) rfl ?_
    refine W.widen (k := cells + 5) (n := slots + 34) (Nat.le_refl _) (Nat.le_refl _) ?_
    refine lv_istore (lv' := [(6, .int (v2 u2)), (5, .int (nI 0)), (0, .ref b), (1, .ref ax), (2, .ref am), (3, .ref ao), (4, .int (nI i))]) hx hb dL_law_1198 hl (by decide) rfl (fun ls hl => ?_)
    refine lv_aload_n hx hb dL_law_1200 rfl (lv_at hl 4 rfl) ?_
    refine kcVR (C := RX6) (As := []) (rest := []) (wr := ((ao, .inl (D.1 23, 1, .inr (.inl (vp_updL f 0 (v z).toInt64)))) :: (Pw ++ (wc' z))) ++ wt' u2) (ws := [(am, .inr (6, fm' u2))]) ⟨hx, hb, hml, hown, hts⟩ (hT u2) (cwV 0 hts gL2_X6_thrown rfl rfl rfl (by decide +kernel) ⟨Nat.le_of_ble_eq_true rfl, Nat.le_of_ble_eq_true rfl⟩) hK hE (kq_3 ((ao, .inl (D.1 23, 1, .inr (.inl (vp_updL f 0 (v z).toInt64)))) :: (Pw ++ (wc' z))) (wt' u2) _) hP hD hS hA 0 6 rfl rfl rfl rfl hl.1 rfl (Nat.le_of_ble_eq_true rfl) dL_law_1201 ⟨hcl, hsl⟩ (fun _ H locs _ hP hD hS => ?_)
    refine W.eq (g2 := F0 m 1204 ls [.int (nI 0)]) rfl ?_
    refine W.widen (k := cells + 5) (n := slots + 34) (Nat.le_refl _) (Nat.le_refl _) ?_
    refine lv_iload hx hb dL_law_1204 (lv_at hl 1 rfl) ?_
    refine lv_icmp_eq (tgt := 1211) hx hb dL_law_1206 (by decide) (fun _ => ?_) (fun c_1206 => absurd rfl c_1206)
    refine lv_iload hx hb dL_law_1211 (lv_at hl 1 rfl) ?_
    refine kn_if_ne (tgt := 1228) hx hb (by omega) dL_law_1213 (by decide) (fun c_1213 => absurd c_1213 (Nat.lt_irrefl _)) (fun _ => ?_)
    refine lv_aload_n hx hb dL_law_1216 rfl (lv_at hl 5 rfl) ?_
    refine lv_iconst (v := nI 0) hx hb dL_law_1217 (by decide) ?_
    refine kn_lald hx hb hK hP 0 3 rfl rfl (i := 0) (by omega) (by decide) dL_law_1218 ?_
    refine lv_iload hx hb dL_law_1219 (lv_at hl 0 rfl) ?_
    refine lv_i2l (v := (v2 u2).toInt64) hx hb dL_law_1221 rfl ?_
    refine W.lcmp hx hb dL_law_1222 ?_
    refine lv_if_eq (tgt := 1228) hx hb dL_law_1223 (by decide) (fun _ => ?_) (fun c_1223 => absurd ((lg_cmp_eq _ _).mpr ((k_uL _ _ _).trans (hans z u2 rfl hpo hp2))) c_1223)
    refine lv_goto (tgt := 1589) hx hb dL_law_1228 (by decide) ?_
    exact k0 rfl z hpo u2 _ _ ls hp2 (kp_P (kq_4 _ _ Pw (wc' z) _) hP) (kp_D (kq_4 _ _ Pw (wc' z) _) hD) hS (lv_sub hl [2, 3, 4, 5, 6] rfl)
