/-! ===== calls that get a world's end as a whole ===== -/
theorem k_rightP {D : va_G} {X pl : va_W} {H : Heap} (h : va_P D kC (X ++ pl) H) : va_P D kC pl H := fun k q hk => h (X.length + k) q (by rw [List.getElem?_append_right (Nat.le_add_right _ _), Nat.add_sub_cancel_left]; exact hk)
theorem k_rightD {A : Nat → Prop} {X pl : va_W} (h : va_D A (X ++ pl)) : va_D A pl := ⟨fun i j p q h1 h2 e => by
    have := h.1 (X.length + i) (X.length + j) p q (by rw [List.getElem?_append_right (Nat.le_add_right _ _), Nat.add_sub_cancel_left]; exact h1) (by rw [List.getElem?_append_right (Nat.le_add_right _ _), Nat.add_sub_cancel_left]; exact h2) e
    omega, fun k q hk => h.2 (X.length + k) q (by rw [List.getElem?_append_right (Nat.le_add_right _ _), Nat.add_sub_cancel_left]; exact hk)⟩
theorem k_freeR {A : Nat → Prop} {X pl : va_W} {H0 H : Heap} {locs : List Loc} (hD : va_D A (X ++ pl)) (hS : va_S A H0 H locs) (hA : ∀ q, H0.size ≤ q → A q) : ∀ q, va_A pl H.size q → A q := fun q h => by
  rcases h with ⟨k, e, h⟩ | h
  · exact (k_rightD hD).2 k (q, e) h
  · exact hA q (Nat.le_trans hS.1 h)
theorem kPre_mkR {D : va_G} {A : Nat → Prop} {s : State} {H : Heap} {locs : List Loc} {X ws : va_W} {av : List Value} (hK : va_K D kC (kT D) s) (hE : kE D A s s.heap) (hP : va_P D kC (X ++ ws) H) (hD : va_D A (X ++ ws)) (hS : va_S A s.heap H locs) (hA : ∀ q, s.heap.size ≤ q → A q) :
    ∀ U : State, U.heap = H → s.WarmedH U.vm → kPre D H.size av ws av.toArray U := fun U hU hW => by
  refine ⟨rfl, by rw [hU], by rw [hU]; exact k_rightP hP, va_K.moved hW.alike hK, (k_rightD hD).weaken (fun _ _ _ _ => trivial), ?_⟩
  rw [hU]
  exact ((hE.kept hS.2.1).narrow (k_freeR hD hS hA)).warm hW
theorem k_joinR {D : va_G} {A : Nat → Prop} {wr ws w1 : va_W} {H0 H H1 : Heap} {locs : List Loc} (hP : va_P D kC (wr ++ ws) H) (hD : va_D A (wr ++ ws)) (hS : va_S A H0 H locs) (hA : ∀ q, H0.size ≤ q → A q) (hk : ∀ q : Nat, q < H.size → ¬ va_A ws H.size q → H1[q]? = H[q]?) (hP1 : va_P D kC w1 H1) (hD1 : va_D (va_A ws H.size) w1) : va_P D kC (wr ++ w1) H1 ∧ va_D A (wr ++ w1) := by
  have hnot : ∀ (k : Nat) (q : Nat × va_E), wr[k]? = some q → q.1 < H.size ∧ ¬ va_A ws H.size q.1 := fun k q hq => by
    have hq9 : (wr ++ ws)[k]? = some q := by rw [List.getElem?_append_left (List.getElem?_eq_some_iff.mp hq).1]; exact hq
    have hlt : q.1 < H.size := (hP k q hq9).lt
    refine ⟨hlt, fun hA9 => ?_⟩
    rcases hA9 with ⟨j, e, hj⟩ | hge
    · have h2 : (wr ++ ws)[wr.length + j]? = some (q.1, e) := by rw [List.getElem?_append_right (Nat.le_add_right _ _), Nat.add_sub_cancel_left]; exact hj
      have h3 := hD.1 k (wr.length + j) q (q.1, e) hq9 h2 rfl
      have h4 := (List.getElem?_eq_some_iff.mp hq).1
      omega
    · omega
  refine ⟨(show va_P D kC wr H1 from fun k q hq => ?_).app hP1, ?_⟩
  · have hq9 : (wr ++ ws)[k]? = some q := by rw [List.getElem?_append_left (List.getElem?_eq_some_iff.mp hq).1]; exact hq
    exact (hP k q hq9).kept (hk q.1 (hnot k q hq).1 (hnot k q hq).2)
  · refine va_D.app (k_leftD hD) (hD1.weaken (fun _ q _ h => k_freeR hD hS hA q.1 h)) (fun i j p q h1 h2 e => ?_)
    exact (hnot i p h1).2 (e ▸ hD1.2 j q h2)
theorem kEx_inv {L : List String} {code : Nat} {E : String} (h : kEx L code = some E) : ∃ k : Nat, code = k + 1 ∧ L[k]? = some E ∧ k < L.length := by
  cases code with
  | zero => cases h
  | succ k => exact ⟨k, rfl, h, (List.getElem?_eq_some_iff.mp h).1⟩
theorem kEx_none {L : List String} {code : Nat} (h : kEx L code = none) (hc : code ≤ L.length) : code = 0 := by
  cases code with
  | zero => rfl
  | succ k =>
    have h2 : L[k]? = none := h
    rw [List.getElem?_eq_none_iff] at h2
    omega
section KWR
variable {p : Program} {l : Launch} {e : Env} {R : Room} {s : State} {m : MethodId} {args : Array Value} {below : List Frame} {meth : Method} {c : Code} {H : Heap} {locs : List Loc} {cells slots : Nat} {Q : State → Prop}
variable {y : MethodName} {bytes cc : ByteArray} {maxL nL mc ms n index : Nat} {ret : Option FieldType} {wd : List Cond} {rm : Room} {Ts : List Cond} {own C : String} {b : Addr} {As rest st0 : List Value} {pc : Nat} {ls : Array Slot}
variable {D : va_G} {A : Nat → Prop} {ws wr : va_W} {S : Type} {o : S → Option Value} {ws' : S → va_W} {po : S → Prop} {thr : Option String}
theorem kxVR (S0 : CallFix p m c cc nL s args Ts own) (hM : kX l y wd rm mc ms D (.ref b :: As) ws thr o ws' po) (cw : CallW R s args own C index y bytes maxL ret wd rm mc ms n)
    (hK : va_K D kC (kT D) s) (hE : kE D A s s.heap) (hP : va_P D kC (wr ++ ws) H) (hD : va_D A (wr ++ ws)) (hS : va_S A s.heap H locs) (hA : ∀ q, s.heap.size ≤ q → A q)
    (q0 ci : Nat) {fs : List Value} {qc : vw_C} (he : ws[q0]? = some (b, .inr (ci, fs))) (hci : kC[ci]? = some qc) (hqC : qc.1 = C) (hlen : As.length = n) (hsz : ls.size = nL) (hst : st0 = As.reverse ++ .ref b :: rest) (hroom : (rest.map fun v => v.category).sum ≤ 8) (hdg : decode cc pc = .ok (.invokevirtual index, 3)) (hf : cells + mc ≤ R.cells ∧ slots + ms ≤ R.slots)
    (kx : ∀ (E : String) (ce : Cell) (q : Addr) (H1 : Heap) (locs1 : List Loc), thr = some E → va_P D kC (wr ++ ws) H1 → va_D A (wr ++ ws) → va_S A s.heap H1 locs1 → H1[q]? = some ce → ce.vm = .none → s.vm.findClass E = some ce.cls → vx_W p l e R s m args below meth c H1 locs1 (cells + mc) (slots + ms) Q (F0 m pc ls rest) q)
    (kk : ∀ (u : S) (H1 : Heap) (locs1 : List Loc), thr = none → po u → va_P D kC (wr ++ ws' u) H1 → va_D A (wr ++ ws' u) → va_S A s.heap H1 locs1 → W p l e R s m args below meth c H1 locs1 (cells + mc) (slots + ms) Q (F0 m (pc + 3) ls ((o u).toList ++ rest))) :
    W p l e R s m args below meth c H locs cells slots Q (F0 m pc ls st0) := by
  subst hst
  subst hqC
  have hr := vx_runV (As := As) (rest := rest) (g := F0 m pc ls (As.reverse ++ .ref b :: rest)) (locs := locs) (cells := cells) (slots := slots) S0 (hM H.size) cw ⟨kPre_blind, va_recv hK (k_rightP hP) hci he, kPre_mkR hK hE hP hD hS hA⟩ rfl hlen hsz rfl (lv_room hroom) hdg hf (e := e) (below := below) (meth := meth)
  intro T hT X9
  have hFc := k_freeR hD hS hA
  rcases hr T hT X9 with ⟨v, st₀, t, T', L, h0, X', hL, e1, e2, ⟨h9, ⟨u, hv, hp, hP1, hK1, hD1⟩, hF⟩, st⟩ | ⟨q, st₀, t, T', L, E, ce, h0, X', hL, e1, e2, ⟨h9, hP1, hK1, hD1, hF⟩, hce, hcv, hcl, st⟩
  · cases hv
    obtain ⟨k1, k2, k3⟩ := vx_keep h0 e1 hS (fun q _ h => hFc q h) hFc hL hF
    obtain ⟨hP2, hD2⟩ := k_joinR hP hD hS hA k2 (by rw [e1]; exact hP1) hD1
    obtain ⟨t2, a1, b1⟩ := kk u T'.heap (locs ++ L) h9 hp hP2 hD2 k3 T' rfl X'
    exact ⟨t2, st t2 a1, b1⟩
  · obtain ⟨k1, k2, k3⟩ := vx_keep h0 e1 hS (fun q _ h => hFc q h) hFc hL hF
    obtain ⟨hP2, hD2⟩ := k_joinR hP hD hS hA k2 (by rw [e1]; exact hP1) hD1
    obtain ⟨t2, a1, b1⟩ := kx E ce q T'.heap (locs ++ L) h9 hP2 hD2 k3 (by rw [e1]; exact hce) hcv hcl T' rfl X'
    exact ⟨t2, st.trans a1, b1⟩
end KWR
