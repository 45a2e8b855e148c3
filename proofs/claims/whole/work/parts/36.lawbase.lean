/-! ===== the law: worlds put in another order; its calls ===== -/
theorem kp_P {D : va_G} {X Y : va_W} {H : Heap} (h : X.Perm Y) (hP : va_P D kC X H) : va_P D kC Y H := fun k q hk => by
  obtain ⟨i, hi⟩ := List.mem_iff_getElem?.mp (h.mem_iff.mpr (List.mem_of_getElem? hk))
  exact hP i q hi
theorem kd_pw {A : Nat → Prop} {X : va_W} (hD : va_D A X) : X.Pairwise (fun p q => p.1 ≠ q.1) := by
  rw [List.pairwise_iff_getElem]
  intro i j hi hj hij he
  have := hD.1 i j X[i] X[j] (List.getElem?_eq_getElem hi) (List.getElem?_eq_getElem hj) he
  omega
theorem kd_of {A : Nat → Prop} {X : va_W} (h : X.Pairwise (fun p q => p.1 ≠ q.1)) (hA : ∀ q ∈ X, A q.1) : va_D A X := ⟨fun i j p q h1 h2 e => by
    rw [List.pairwise_iff_getElem] at h
    obtain ⟨hi, e1⟩ := List.getElem?_eq_some_iff.mp h1
    obtain ⟨hj, e2⟩ := List.getElem?_eq_some_iff.mp h2
    rcases Nat.lt_trichotomy i j with q9 | q9 | q9
    · exact absurd (by rw [e1, e2]; exact e) (h i j hi hj q9)
    · exact q9
    · exact absurd (by rw [e1, e2]; exact e.symm) (h j i hj hi q9), fun k q hk => hA q (List.mem_of_getElem? hk)⟩
theorem kp_D {A : Nat → Prop} {X Y : va_W} (h : X.Perm Y) (hD : va_D A X) : va_D A Y := by
  refine kd_of ((List.Perm.pairwise_iff (fun h9 e => h9 e.symm) h).mp (kd_pw hD)) (fun q hq => ?_)
  obtain ⟨k, hk⟩ := List.mem_iff_getElem?.mp (h.mem_iff.mpr hq)
  exact hD.2 k q hk
theorem kp_fm {E E' : va_W} {is : List Nat} (h : is.map (fun i => E[i]?) = E'.map some) : is.filterMap (fun i => E[i]?) = E' := by
  have h1 : (is.map (fun i => E[i]?)).filterMap id = is.filterMap (fun i => E[i]?) := by rw [List.filterMap_map]; rfl
  rw [← h1, h, List.filterMap_map]
  exact List.filterMap_some
/-- a list given by the places of another -/
theorem kp_idx {E E' : va_W} (is : List Nat) (hp : is.isPerm (List.range E.length) = true) (h : is.map (fun i => E[i]?) = E'.map some) : E.Perm E' := by
  have h2 : (List.range E.length).map (fun i => E[i]?) = E.map some := by
    apply List.ext_getElem?
    intro i
    rw [List.getElem?_map, List.getElem?_map]
    by_cases hi : i < E.length
    · rw [List.getElem?_range hi, List.getElem?_eq_getElem hi]; simp [hi]
    · rw [List.getElem?_eq_none (by rw [List.length_range]; omega), List.getElem?_eq_none (by omega)]; rfl
  have h3 := (List.isPerm_iff.mp hp).filterMap (fun i => E[i]?)
  rw [kp_fm h, kp_fm h2] at h3
  exact h3.symm
theorem kq_1 (o : Nat × va_E) (P C M : va_W) : (o :: (P ++ (C ++ M))).Perm ((P ++ M) ++ (o :: C)) := by
  refine List.Perm.trans ?_ List.perm_middle.symm
  refine List.Perm.cons o ?_
  rw [List.append_assoc]
  exact List.Perm.append_left P List.perm_append_comm
theorem kq_1t (o : Nat × va_E) (P C M : va_W) : (o :: (P ++ (C ++ M))).Perm ((o :: (P ++ M)) ++ C) := by
  refine List.Perm.cons o ?_
  show (P ++ (C ++ M)).Perm ((P ++ M) ++ C)
  rw [List.append_assoc]
  exact List.Perm.append_left P List.perm_append_comm
theorem kq_2 (o : Nat × va_E) (P C M : va_W) : ((P ++ M) ++ (o :: C)).Perm ((o :: (P ++ C)) ++ M) := by
  refine List.Perm.trans List.perm_middle ?_
  refine List.Perm.cons o ?_
  show ((P ++ M) ++ C).Perm ((P ++ C) ++ M)
  rw [List.append_assoc, List.append_assoc]
  exact List.Perm.append_left P List.perm_append_comm
theorem kq_2t (o : Nat × va_E) (P C M : va_W) : ((o :: (P ++ M)) ++ C).Perm ((o :: (P ++ C)) ++ M) := by
  refine List.Perm.cons o ?_
  show ((P ++ M) ++ C).Perm ((P ++ C) ++ M)
  rw [List.append_assoc, List.append_assoc]
  exact List.Perm.append_left P List.perm_append_comm
theorem kq_3 (Y T : va_W) (q : Nat × va_E) : (Y ++ (q :: T)).Perm ((Y ++ T) ++ [q]) := by
  rw [List.append_assoc]
  exact List.Perm.append_left Y (List.perm_append_singleton q T).symm
theorem kq_4 (o q : Nat × va_E) (P C T : va_W) : (((o :: (P ++ C)) ++ T) ++ [q]).Perm (o :: (P ++ (C ++ (q :: T)))) := by
  refine List.Perm.cons o ?_
  show (((P ++ C) ++ T) ++ [q]).Perm (P ++ (C ++ (q :: T)))
  rw [List.append_assoc, List.append_assoc]
  refine List.Perm.append_left P (List.Perm.append_left C ?_)
  exact List.perm_append_comm
section KLR
variable {p : Program} {l : Launch} {e : Env} {R : Room} {s : State} {m : MethodId} {args : Array Value} {below : List Frame} {meth : Method} {c : Code} {H : Heap} {locs : List Loc} {cells slots : Nat} {Q : State → Prop}
variable {y : MethodName} {bytes cc : ByteArray} {maxL nL mc ms n index : Nat} {ret : Option FieldType} {wd : List Cond} {rm : Room} {Ts : List Cond} {own C : String} {b : Addr} {As rest st0 : List Value} {pc : Nat} {ls : Array Slot}
variable {D : va_G} {A : Nat → Prop} {X ws wr : va_W} {S : Type} {o : S → Option Value} {ws' : S → va_W} {po : S → Prop}
theorem k_runR {a : Array Value} (hr : va_Run p l e R s m args below meth c H locs cells slots mc ms (F0 m pc ls st0) rest (kQ D (va_A ws H.size) o ws' po a) (va_A ws H.size))
    (hP : va_P D kC (wr ++ ws) H) (hD : va_D A (wr ++ ws)) (hS : va_S A s.heap H locs) (hA : ∀ q, s.heap.size ≤ q → A q)
    (kk : ∀ (u : S) (H1 : Heap) (locs1 : List Loc), po u → va_P D kC (wr ++ ws' u) H1 → va_D A (wr ++ ws' u) → va_S A s.heap H1 locs1 → W p l e R s m args below meth c H1 locs1 (cells + mc) (slots + ms) Q (F0 m (pc + 3) ls ((o u).toList ++ rest))) :
    W p l e R s m args below meth c H locs cells slots Q (F0 m pc ls st0) := by
  intro T hT X9
  obtain ⟨v, st₀, t, T', L, h0, X', hL, e1, e2, ⟨⟨u, hv, hp, hP1, hK1, hD1⟩, hF⟩, st⟩ := hr T hT X9
  cases hv
  have hFc := k_freeR hD hS hA
  obtain ⟨k1, k2, k3⟩ := vx_keep h0 e1 hS (fun q _ h => hFc q h) hFc hL hF
  obtain ⟨hP2, hD2⟩ := k_joinR hP hD hS hA k2 (by rw [e1]; exact hP1) hD1
  obtain ⟨t2, a1, b1⟩ := kk u T'.heap (locs ++ L) hp hP2 hD2 k3 T' rfl X'
  exact ⟨t2, st t2 a1, b1⟩
theorem kcVR (S0 : CallFix p m c cc nL s args Ts own) (hM : kM l y wd rm mc ms D (.ref b :: As) ws o ws' po) (cw : CallW R s args own C index y bytes maxL ret wd rm mc ms n)
    (hK : va_K D kC (kT D) s) (hE : kE D A s s.heap) (hpm : X.Perm (wr ++ ws)) (hP : va_P D kC X H) (hD : va_D A X) (hS : va_S A s.heap H locs) (hA : ∀ q, s.heap.size ≤ q → A q)
    (q0 ci : Nat) {fs : List Value} {qc : vw_C} (he : ws[q0]? = some (b, .inr (ci, fs))) (hci : kC[ci]? = some qc) (hqC : qc.1 = C) (hlen : As.length = n) (hsz : ls.size = nL) (hst : st0 = As.reverse ++ .ref b :: rest) (hroom : (rest.map fun v => v.category).sum ≤ 8) (hdg : decode cc pc = .ok (.invokevirtual index, 3)) (hf : cells + mc ≤ R.cells ∧ slots + ms ≤ R.slots)
    (kk : ∀ (u : S) (H1 : Heap) (locs1 : List Loc), po u → va_P D kC (wr ++ ws' u) H1 → va_D A (wr ++ ws' u) → va_S A s.heap H1 locs1 → W p l e R s m args below meth c H1 locs1 (cells + mc) (slots + ms) Q (F0 m (pc + 3) ls ((o u).toList ++ rest))) :
    W p l e R s m args below meth c H locs cells slots Q (F0 m pc ls st0) := by
  subst hst
  subst hqC
  have hP := kp_P hpm hP
  have hD := kp_D hpm hD
  exact k_runR (va_runV (As := As) (rest := rest) S0 (hM H.size) cw ⟨kPre_blind, va_recv hK (k_rightP hP) hci he, kPre_mkR hK hE hP hD hS hA⟩ rfl hlen hsz rfl (lv_room hroom) hdg hf) hP hD hS hA kk
theorem kcSWR {hh : List (Nat × Nat × Nat × Nat)} (S0 : CallFix p m c cc nL s args Ts own) (hM : kM l y wd rm mc ms D As ws o ws' po) (cw : vx_CSW R s args own index y bytes maxL ret hh wd rm mc ms n)
    (hK : va_K D kC (kT D) s) (hE : kE D A s s.heap) (hpm : X.Perm (wr ++ ws)) (hP : va_P D kC X H) (hD : va_D A X) (hS : va_S A s.heap H locs) (hA : ∀ q, s.heap.size ≤ q → A q)
    (hlen : As.length = n) (hsz : ls.size = nL) (hst : st0 = As.reverse ++ rest) (hroom : (rest.map fun v => v.category).sum ≤ 8) (hdg : decode cc pc = .ok (.invokestatic index, 3)) (hf : cells + mc ≤ R.cells ∧ slots + ms ≤ R.slots)
    (kk : ∀ (u : S) (H1 : Heap) (locs1 : List Loc), po u → va_P D kC (wr ++ ws' u) H1 → va_D A (wr ++ ws' u) → va_S A s.heap H1 locs1 → W p l e R s m args below meth c H1 locs1 (cells + mc) (slots + ms) Q (F0 m (pc + 3) ls ((o u).toList ++ rest))) :
    W p l e R s m args below meth c H locs cells slots Q (F0 m pc ls st0) := by
  subst hst
  have hP := kp_P hpm hP
  have hD := kp_D hpm hD
  exact k_runR (vx_runSW (As := As) (rest := rest) S0 (hM H.size) cw ⟨kPre_blind, kPre_mkR hK hE hP hD hS hA⟩ rfl hlen hsz rfl (lv_room hroom) hdg hf) hP hD hS hA kk
theorem kn_sld {L : Nat} {xs : Nat → Int32} {H0 : Heap} (hexec : p.tables.exec = Jvm.exec) (hb : c.code = cc) (hX : va_X b L xs s H0) (hbl : b < H0.size) (hbA : ¬ A b) (hS : va_S A H0 H locs) {i : Nat} (hi : i < L) (hL : L < 2147483648) (hdg : decode cc pc = .ok (.iaload, 1))
    (kk : W p l e R s m args below meth c H locs cells slots Q (F0 m (pc + 1) ls (.int (xs i) :: rest))) : W p l e R s m args below meth c H locs cells slots Q (F0 m pc ls (.int (nI i) :: .ref b :: rest)) := by
  refine va_sld hexec hb hX hbl hbA hS (vp_in_nI hi hL) hdg ?_
  rw [nI_clamp (Nat.lt_trans hi hL)]
  exact kk
end KLR
/-- a long out of two ints of the script -/
def kLg (x y : Int32) : Int64 := (x.toInt64 <<< ((nI 32).toInt64 &&& 63)) ||| (y.toInt64 &&& (4294967295 : Int64))
theorem k_uL (f : Nat → Int64) (k : Nat) (x : Int64) : vp_updL f k x k = x := if_pos rfl
/-- what holds at the law's entry -/
def kLaw (p : Program) (s : State) (m : MethodId) (c : Code) (b L : Nat) (xs : Nat → Int32) (D : va_G) : Prop :=
  p.tables.exec = Jvm.exec ∧ c.code = cL_law ∧ c.maxLocals = 8 ∧ s.vm.findClass RL = some m.cls ∧ (∀ w ∈ wsL_law2, w.before #[Value.ref b] s = true) ∧ va_X b L xs s s.heap ∧ b < s.heap.size ∧ L ≤ 3584 ∧ va_K D kC (kT D) s ∧ kE D (fun q => s.heap.size ≤ q) s s.heap
