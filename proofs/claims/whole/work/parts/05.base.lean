/-! ===== base: one world form for all methods ===== -/
/-- the kinds of objects -/
abbrev kC : List vw_C := [(RX0, TX0, 3), (RX1, TX1, 4), (RX2, TX2, 4), (RX3, TX3, 14), (RX4, TX4, 5), (RX5, TX5, 9), (RX6, TX6, 32)]
/-- the kinds of arrays: int, byte, boolean, long, Signature, int[] -/
def kT (D : va_G) : List (ClassId × FieldType) := [(D.1 20, .int), (D.1 21, .byte), (D.1 22, .boolean), (D.1 23, .long), (D.1 24, .object "SignatureSpans$Signature"), (D.1 25, .array .int)]
/-- SHA-256: the start, the roots -/
def kStL : List Int32 := [1779033703, -1150833019, 1013904242, -1521486534, 1359893119, -1694144372, 528734635, 1541459225]
def kRdL : List Int32 := [1116352408, 1899447441, -1245643825, -373957723, 961987163, 1508970993, -1841331548, -1424204075, -670586216, 310598401, 607225278, 1426881987, 1925078388, -2132889090, -1680079193, -1046744716, -459576895, -272742522, 264347078, 604807628, 770255983, 1249150122, 1555081692, 1996064986, -1740746414, -1473132947, -1341970488, -1084653625, -958395405, -710438585, 113926993, 338241895, 666307205, 773529912, 1294757372, 1396182291, 1695183700, 1986661051, -2117940946, -1838011259, -1564481375, -1474664885, -1035236496, -949202525, -778901479, -694614492, -200395387, 275423344, 430227734, 506948616, 659060556, 883997877, 958139571, 1322822218, 1537002063, 1747873779, 1955562222, 2024104815, -2067236844, -1933114872, -1866530822, -1538233109, -1090935817, -965641998]
def kSt (j : Nat) : Int32 := kStL.getD j 0
def kRd (j : Nat) : Int32 := kRdL.getD j 0
def kStr : List (Nat × String) := [(53, "the file is full"), (60, "no such byte"), (65, "no row of bytes in the file"), (72, "another place has one of the bytes"), (77, "no room for a place"), (87, "no such field or time"), (101, "no place is left, or the field is signed"), (108, "no room for a signature or its change"), (159, "no such span or side"), (165, "no such span"), (167, "the row ends before it begins"), (172, "no room in the chain"), (178, "no such kind or field"), (180, "no room for a change"), (185, "no such field"), (190, "no such level"), (198, "no such change, or nothing of it"), (211, "no such byte of a digest"), (217, "no such time"), (220, "no room for a stamp"), (232, "no such stamp, or nothing of it"), (245, "no such signature")]
def kUoe : String := "java/lang/UnsupportedOperationException"
def kIob : String := "java/lang/IndexOutOfBoundsException"
def kIae : String := "java/lang/IllegalArgumentException"
def kIse : String := "java/lang/IllegalStateException"
def kNse : String := "java/util/NoSuchElementException"
def kAio : String := "java/lang/ArrayIndexOutOfBoundsException"
/-- words that a state keeps, beside the good ones -/
def kNest : List Cond := [.methodLinkNest RX5 15 yX1_init RX5, .methodLinkNest RX5 28 yX0_init RX5, .methodLinkNest RX5 35 yX4_init RX5, .methodLinkNest RX5 42 yX2_init RX5, .methodLinkNest RX3 60 yX5_hasField RX5,
  .castable kUoe kUoe, .castable kIob kIob, .castable kIae kIae, .castable kIse kIse, .castable kNse kNse, .castable kAio kAio,
  .declares (Bundle.initS "java/lang/RuntimeException"), .declares (Bundle.initS "java/lang/Exception"), .declares (Bundle.initS "java/lang/Throwable"), .declares (Bundle.initS "java/lang/IndexOutOfBoundsException")]
/-- thrown, and passed by an earlier catch -/
def kNc : List (String × String) := [(kUoe, kIae), (kIse, kIae), (kUoe, kIse), (kIob, kNse), (kIae, kNse), (kUoe, kNse), (kAio, kNse)]
/-- what every state has that the methods need and never write -/
def kE (D : va_G) (A : Nat → Prop) (U : State) (H : Heap) : Prop :=
  (va_Z RX2 "START" "[I" (.ref (D.2 30 0)) A U H ∧ va_T .int (D.2 30 0) 8 (fun j => .int (kSt j)) A U H) ∧
  (va_Z RX2 "ROUND" "[I" (.ref (D.2 30 1)) A U H ∧ va_T .int (D.2 30 1) 64 (fun j => .int (kRd j)) A U H) ∧
  (vx_Zq Bundle.tN "UNASSIGNED_STACK" Bundle.steD A U H ∧ vx_Zq Bundle.tN "SUPPRESSED_SENTINEL" Bundle.listD A U H) ∧
  (∀ q ∈ kStr, vk_R RX5 q.1 q.2 (D.2 31 q.1) U) ∧ (∀ w ∈ kNest, va_Nw w U) ∧ (∀ q ∈ kNc, va_Nc q.1 q.2 U) ∧ va_AO "SignatureSpans$Signature" U ∧ va_AOA .int U
theorem kNest_warm {s U : State} (hW : s.WarmedH U.vm) : ∀ w ∈ kNest, va_Nw w s → va_Nw w U := by
  intro w hw h
  simp only [kNest, List.mem_cons, List.not_mem_nil, or_false] at hw
  rcases hw with rfl | rfl | rfl | rfl | rfl | rfl | rfl | rfl | rfl | rfl | rfl | rfl | rfl | rfl | rfl
  all_goals first | exact va_Nw.warmM hW h | exact va_Nw.warmC hW h | exact va_tabs rfl (rfl : (s.setVm U.vm).vm = U.vm) (by rw [Cond.declares_setVm hW.alike]; exact h)
theorem kNest_on : ∀ w ∈ kNest, w.onTables = true := by
  intro w hw
  simp only [kNest, List.mem_cons, List.not_mem_nil, or_false] at hw
  rcases hw with rfl | rfl | rfl | rfl | rfl | rfl | rfl | rfl | rfl | rfl | rfl | rfl | rfl | rfl | rfl
  all_goals rfl
theorem kNest_same {s U : State} (hv : s.vm = U.vm) : ∀ w ∈ kNest, va_Nw w s → va_Nw w U := by
  intro w hw h
  refine va_Nw.same ?_ hv h
  simp only [kNest, List.mem_cons, List.not_mem_nil, or_false] at hw
  rcases hw with rfl | rfl | rfl | rfl | rfl | rfl | rfl | rfl | rfl | rfl | rfl | rfl | rfl | rfl | rfl
  all_goals rfl
theorem va_AOA.moved {t : FieldType} {u U : State} (hvm : u.vm.Alike U.vm) (h : va_AOA t u) : va_AOA t U := by
  have h2 : (Cond.arrayOver (.array t)).before #[] (u.setVm U.vm) = true := by rw [Cond.arrayOver_setVmC hvm]; exact h
  exact h2
theorem kE.warm {D : va_G} {A : Nat → Prop} {s U : State} {H : Heap} (hW : s.WarmedH U.vm) (h : kE D A s H) : kE D A U H := by
  obtain ⟨⟨a1, a2⟩, ⟨b1, b2⟩, ⟨c1, c2⟩, h4, h5, h6, h7, h8⟩ := h
  have hv := hW.alike
  exact ⟨⟨a1.moved hv, a2.moved hv⟩, ⟨b1.moved hv, b2.moved hv⟩, ⟨c1.moved hv, c2.moved hv⟩, fun q hq => (h4 q hq).warm hW, fun w hw => kNest_warm hW w hw (h5 w hw), fun q hq => (h6 q hq).moved hv, h7.moved hv, h8.moved hv⟩
theorem kE.kept {D : va_G} {A : Nat → Prop} {s : State} {H H1 : Heap} (h : kE D A s H) (hq : ∀ a : Nat, a < H.size → ¬ A a → H1[a]? = H[a]?) : kE D A s H1 := by
  obtain ⟨⟨a1, a2⟩, ⟨b1, b2⟩, ⟨c1, c2⟩, h4, h5, h6, h7, h8⟩ := h
  exact ⟨⟨a1.kept hq, a2.kept hq⟩, ⟨b1.kept hq, b2.kept hq⟩, ⟨c1.kept hq, c2.kept hq⟩, h4, h5, h6, h7, h8⟩
theorem kE.narrow {D : va_G} {A B : Nat → Prop} {s : State} {H : Heap} (h : kE D A s H) (hAB : ∀ q, B q → A q) : kE D B s H := by
  obtain ⟨⟨a1, a2⟩, ⟨b1, b2⟩, ⟨c1, c2⟩, h4, h5, h6, h7, h8⟩ := h
  exact ⟨⟨a1.narrow hAB, a2.narrow hAB⟩, ⟨b1.narrow hAB, b2.narrow hAB⟩, ⟨c1.narrow hAB, c2.narrow hAB⟩, h4, h5, h6, h7, h8⟩
theorem kE.same {D : va_G} {A : Nat → Prop} {s U : State} {H : Heap} (hv : s.vm = U.vm) (h : kE D A s H) : kE D A U H := by
  obtain ⟨⟨a1, a2⟩, ⟨b1, b2⟩, ⟨c1, c2⟩, h4, h5, h6, h7, h8⟩ := h
  have hq : s.vm.Alike U.vm := by rw [← hv]; exact Vm.Alike.refl s.vm
  exact ⟨⟨a1.moved hq, a2.moved hq⟩, ⟨b1.moved hq, b2.moved hq⟩, ⟨c1.moved hq, c2.moved hq⟩, fun q h9 => (h4 q h9).same hv.symm, fun w hw => kNest_same hv w hw (h5 w hw), fun q h9 => (h6 q h9).moved hq, h7.moved hq, h8.moved hq⟩
/-- a method's start: its arguments, its world, what it never writes -/
def kPre (D : va_G) (sz : Nat) (av : List Value) (ws : va_W) : Array Value → State → Prop := va_Pc av (fun U => U.heap.size = sz ∧ va_P D kC ws U.heap ∧ va_K D kC (kT D) U ∧ va_D (fun _ => True) ws ∧ kE D (va_A ws sz) U U.heap)
/-- a method's end: its answer, its world -/
def kQ {S : Type} (D : va_G) (A : Nat → Prop) (o : S → Option Value) (ws' : S → va_W) (po : S → Prop) : Array Value → State → Outcome → State → Prop :=
  fun _ st oc t => (∃ u : S, oc = .returned (o u) ∧ po u ∧ va_P D kC (ws' u) t.heap ∧ va_K D kC (kT D) t ∧ va_D A (ws' u)) ∧ va_F A st t
/-- the contract of a method that returns -/
def kM {S : Type} (l : Launch) (y : MethodName) (wd : List Cond) (rm : Room) (mc ms : Nat) (D : va_G) (av : List Value) (ws : va_W) (o : S → Option Value) (ws' : S → va_W) (po : S → Prop) : Prop :=
  ∀ sz : Nat, Met l y wd rm (kPre D sz av ws) (kQ D (va_A ws sz) o ws' po) mc ms (va_A ws sz)
/-- what a throw leaves: the world as it was -/
def kXC (D : va_G) (A : Nat → Prop) (ws : va_W) (thr : Option String) : String → State → State → Prop :=
  fun E st t => thr = some E ∧ va_P D kC ws t.heap ∧ va_K D kC (kT D) t ∧ va_D A ws ∧ va_F A st t
/-- the contract of a method that returns or throws -/
def kX {S : Type} (l : Launch) (y : MethodName) (wd : List Cond) (rm : Room) (mc ms : Nat) (D : va_G) (av : List Value) (ws : va_W) (thr : Option String) (o : S → Option Value) (ws' : S → va_W) (po : S → Prop) : Prop :=
  ∀ sz : Nat, vx_Met l y wd rm (kPre D sz av ws) (fun a st oc t => thr = none ∧ kQ D (va_A ws sz) o ws' po a st oc t) (kXC D (va_A ws sz) ws thr) mc ms (va_A ws sz)
theorem kPre_blind {D : va_G} {sz : Nat} {av : List Value} {ws : va_W} : FrameBlind (kPre D sz av ws) := fun a U g mk q => by
  obtain ⟨q0, q1, qP, qK, qD, qE⟩ := q
  exact ⟨q0, q1, qP, va_K.moved (u := U) (U := U.calling g mk a) (Vm.Alike.refl U.vm) qK, qD, kE.same (s := U) (U := U.calling g mk a) (H := U.heap) rfl qE⟩
theorem k_sub {D : va_G} {X ws : va_W} {H : Heap} (hP : va_P D kC X H) (isC : List Nat) (hC : isC.map (fun i => X[i]?) = ws.map some) : va_P D kC ws H := fun k q hk => by
  obtain ⟨i, -, h2⟩ := va_in_of isC hC hk
  exact hP i q h2
theorem k_left {D : va_G} {X pl : va_W} {H : Heap} (hP : va_P D kC (X ++ pl) H) : va_P D kC X H := fun k q hk => hP k q (by rw [List.getElem?_append_left (List.getElem?_eq_some_iff.mp hk).1]; exact hk)
theorem k_leftD {A : Nat → Prop} {X pl : va_W} (hD : va_D A (X ++ pl)) : va_D A X := ⟨fun i j p q h1 h2 e => hD.1 i j p q (by rw [List.getElem?_append_left (List.getElem?_eq_some_iff.mp h1).1]; exact h1) (by rw [List.getElem?_append_left (List.getElem?_eq_some_iff.mp h2).1]; exact h2) e, fun k q hk => hD.2 k q (by rw [List.getElem?_append_left (List.getElem?_eq_some_iff.mp hk).1]; exact hk)⟩
theorem kPre_mk {D : va_G} {A : Nat → Prop} {s : State} {H : Heap} {locs : List Loc} {X ws : va_W} {av : List Value} (hK : va_K D kC (kT D) s) (hE : kE D A s s.heap) (hP : va_P D kC X H) (hD : va_D A X) (hS : va_S A s.heap H locs) (hA : ∀ q, s.heap.size ≤ q → A q) (isC : List Nat) (hnC : va_nd isC = true) (hC : isC.map (fun i => X[i]?) = ws.map some) :
    ∀ U : State, U.heap = H → s.WarmedH U.vm → kPre D H.size av ws av.toArray U := fun U hU hW => by
  refine ⟨rfl, by rw [hU], by rw [hU]; exact k_sub hP isC hC, va_K.moved hW.alike hK, (hD.sub isC hnC hC).weaken (fun _ _ _ _ => trivial), ?_⟩
  rw [hU]
  exact ((hE.kept hS.2.1).narrow (va_free hD hS hA isC hC)).warm hW
section KCALL
variable {p : Program} {l : Launch} {e : Env} {R : Room} {s : State} {m : MethodId} {args : Array Value} {below : List Frame} {meth : Method} {c : Code} {H : Heap} {locs : List Loc} {cells slots : Nat} {Q : State → Prop}
variable {y : MethodName} {bytes cc : ByteArray} {maxL nL mc ms n index : Nat} {ret : Option FieldType} {wd : List Cond} {rm : Room} {Ts : List Cond} {own C : String} {b : Addr} {As rest st0 : List Value} {pc : Nat} {ls : Array Slot}
variable {D : va_G} {A : Nat → Prop} {X ws wr pl : va_W} {S : Type} {o : S → Option Value} {ws' : S → va_W} {po : S → Prop} {thr : Option String}
/-- behind a call -/
theorem k_run {a : Array Value} (hr : va_Run p l e R s m args below meth c H locs cells slots mc ms (F0 m pc ls st0) rest (kQ D (va_A ws H.size) o ws' po a) (va_A ws H.size))
    (hP : va_P D kC X H) (hD : va_D A X) (hS : va_S A s.heap H locs) (hA : ∀ q, s.heap.size ≤ q → A q) (isC isR : List Nat) (hC : isC.map (fun i => X[i]?) = ws.map some) (hR : isR.map (fun i => X[i]?) = wr.map some) (hn : va_nd isR = true) (hdis : ∀ i ∈ isR, i ∉ isC)
    (kk : ∀ (u : S) (H1 : Heap) (locs1 : List Loc), po u → va_P D kC (wr ++ ws' u) H1 → va_D A (wr ++ ws' u) → va_S A s.heap H1 locs1 → W p l e R s m args below meth c H1 locs1 (cells + mc) (slots + ms) Q (F0 m (pc + 3) ls ((o u).toList ++ rest))) :
    W p l e R s m args below meth c H locs cells slots Q (F0 m pc ls st0) := by
  intro T hT X9
  obtain ⟨v, st₀, t, T', L, h0, X', hL, e1, e2, ⟨⟨u, hv, hp, hP1, hK1, hD1⟩, hF⟩, st⟩ := hr T hT X9
  cases hv
  have hFc := va_free hD hS hA isC hC
  obtain ⟨k1, k2, k3⟩ := vx_keep h0 e1 hS (fun q _ h => hFc q h) hFc hL hF
  obtain ⟨hP2, hD2⟩ := va_join hP hD isC isR hC hR hn hdis k2 hFc (by rw [e1]; exact hP1) hD1
  obtain ⟨t2, a1, b1⟩ := kk u T'.heap (locs ++ L) hp hP2 hD2 k3 T' rfl X'
  exact ⟨t2, st t2 a1, b1⟩
/-- behind a call that may throw -/
theorem k_runX {a : Array Value} (hr : vx_Run p l e R s m args below meth c H locs cells slots mc ms (F0 m pc ls st0) rest (fun st oc t => thr = none ∧ kQ D (va_A ws H.size) o ws' po a st oc t) (kXC D (va_A ws H.size) ws thr) (va_A ws H.size))
    (hP : va_P D kC X H) (hD : va_D A X) (hS : va_S A s.heap H locs) (hA : ∀ q, s.heap.size ≤ q → A q) (isC isR : List Nat) (hC : isC.map (fun i => X[i]?) = ws.map some) (hR : isR.map (fun i => X[i]?) = wr.map some) (hn : va_nd isR = true) (hdis : ∀ i ∈ isR, i ∉ isC)
    (kx : ∀ (E : String) (ce : Cell) (q : Addr) (H1 : Heap) (locs1 : List Loc), thr = some E → va_P D kC (wr ++ ws) H1 → va_D A (wr ++ ws) → va_S A s.heap H1 locs1 → H1[q]? = some ce → ce.vm = .none → s.vm.findClass E = some ce.cls → vx_W p l e R s m args below meth c H1 locs1 (cells + mc) (slots + ms) Q (F0 m pc ls rest) q)
    (kk : ∀ (u : S) (H1 : Heap) (locs1 : List Loc), thr = none → po u → va_P D kC (wr ++ ws' u) H1 → va_D A (wr ++ ws' u) → va_S A s.heap H1 locs1 → W p l e R s m args below meth c H1 locs1 (cells + mc) (slots + ms) Q (F0 m (pc + 3) ls ((o u).toList ++ rest))) :
    W p l e R s m args below meth c H locs cells slots Q (F0 m pc ls st0) := by
  intro T hT X9
  have hFc := va_free hD hS hA isC hC
  rcases hr T hT X9 with ⟨v, st₀, t, T', L, h0, X', hL, e1, e2, ⟨h9, ⟨u, hv, hp, hP1, hK1, hD1⟩, hF⟩, st⟩ | ⟨q, st₀, t, T', L, E, ce, h0, X', hL, e1, e2, ⟨h9, hP1, hK1, hD1, hF⟩, hce, hcv, hcl, st⟩
  · cases hv
    obtain ⟨k1, k2, k3⟩ := vx_keep h0 e1 hS (fun q _ h => hFc q h) hFc hL hF
    obtain ⟨hP2, hD2⟩ := va_join hP hD isC isR hC hR hn hdis k2 hFc (by rw [e1]; exact hP1) hD1
    obtain ⟨t2, a1, b1⟩ := kk u T'.heap (locs ++ L) h9 hp hP2 hD2 k3 T' rfl X'
    exact ⟨t2, st t2 a1, b1⟩
  · obtain ⟨k1, k2, k3⟩ := vx_keep h0 e1 hS (fun q _ h => hFc q h) hFc hL hF
    obtain ⟨hP2, hD2⟩ := va_join hP hD isC isR hC hR hn hdis k2 hFc (by rw [e1]; exact hP1) hD1
    obtain ⟨t2, a1, b1⟩ := kx E ce q T'.heap (locs ++ L) h9 hP2 hD2 k3 (by rw [e1]; exact hce) hcv hcl T' rfl X'
    exact ⟨t2, st.trans a1, b1⟩
theorem kcV (S0 : CallFix p m c cc nL s args Ts own) (hM : kM l y wd rm mc ms D (.ref b :: As) ws o ws' po) (cw : CallW R s args own C index y bytes maxL ret wd rm mc ms n)
    (hK : va_K D kC (kT D) s) (hE : kE D A s s.heap) (hP : va_P D kC X H) (hD : va_D A X) (hS : va_S A s.heap H locs) (hA : ∀ q, s.heap.size ≤ q → A q) (isC isR : List Nat) (hnC : va_nd isC = true) (hC : isC.map (fun i => X[i]?) = ws.map some) (hR : isR.map (fun i => X[i]?) = wr.map some) (hn : va_nd isR = true) (hdis : ∀ i ∈ isR, i ∉ isC)
    (q0 ci : Nat) {fs : List Value} {qc : vw_C} (he : X[q0]? = some (b, .inr (ci, fs))) (hci : kC[ci]? = some qc) (hqC : qc.1 = C) (hlen : As.length = n) (hsz : ls.size = nL) (hst : st0 = As.reverse ++ .ref b :: rest) (hroom : (rest.map fun v => v.category).sum ≤ 8) (hdg : decode cc pc = .ok (.invokevirtual index, 3)) (hf : cells + mc ≤ R.cells ∧ slots + ms ≤ R.slots)
    (kk : ∀ (u : S) (H1 : Heap) (locs1 : List Loc), po u → va_P D kC (wr ++ ws' u) H1 → va_D A (wr ++ ws' u) → va_S A s.heap H1 locs1 → W p l e R s m args below meth c H1 locs1 (cells + mc) (slots + ms) Q (F0 m (pc + 3) ls ((o u).toList ++ rest))) :
    W p l e R s m args below meth c H locs cells slots Q (F0 m pc ls st0) := by
  subst hst
  subst hqC
  exact k_run (va_runV (As := As) (rest := rest) S0 (hM H.size) cw ⟨kPre_blind, va_recv hK hP hci he, kPre_mk hK hE hP hD hS hA isC hnC hC⟩ rfl hlen hsz rfl (lv_room hroom) hdg hf) hP hD hS hA isC isR hC hR hn hdis kk
theorem kcS (S0 : CallFix p m c cc nL s args Ts own) (hM : kM l y wd rm mc ms D As ws o ws' po) (cw : CallB R s args own index y bytes maxL ret wd rm mc ms n ∧ (Cond.static y).before args s = true)
    (hK : va_K D kC (kT D) s) (hE : kE D A s s.heap) (hP : va_P D kC X H) (hD : va_D A X) (hS : va_S A s.heap H locs) (hA : ∀ q, s.heap.size ≤ q → A q) (isC isR : List Nat) (hnC : va_nd isC = true) (hC : isC.map (fun i => X[i]?) = ws.map some) (hR : isR.map (fun i => X[i]?) = wr.map some) (hn : va_nd isR = true) (hdis : ∀ i ∈ isR, i ∉ isC)
    (hlen : As.length = n) (hsz : ls.size = nL) (hst : st0 = As.reverse ++ rest) (hroom : (rest.map fun v => v.category).sum ≤ 8) (hdg : decode cc pc = .ok (.invokestatic index, 3)) (hf : cells + mc ≤ R.cells ∧ slots + ms ≤ R.slots)
    (kk : ∀ (u : S) (H1 : Heap) (locs1 : List Loc), po u → va_P D kC (wr ++ ws' u) H1 → va_D A (wr ++ ws' u) → va_S A s.heap H1 locs1 → W p l e R s m args below meth c H1 locs1 (cells + mc) (slots + ms) Q (F0 m (pc + 3) ls ((o u).toList ++ rest))) :
    W p l e R s m args below meth c H locs cells slots Q (F0 m pc ls st0) := by
  subst hst
  exact k_run (va_runS (As := As) (rest := rest) S0 (hM H.size) cw ⟨kPre_blind, kPre_mk hK hE hP hD hS hA isC hnC hC⟩ rfl hlen hsz rfl (lv_room hroom) hdg hf) hP hD hS hA isC isR hC hR hn hdis kk
theorem kcSN {host : String} (S0 : CallFix p m c cc nL s args Ts own) (hM : kM l y wd rm mc ms D As ws o ws' po) (cw : va_CN R s args own index y host bytes maxL ret wd rm mc ms n ∧ (Cond.static y).before args s = true ∧ True)
    (hK : va_K D kC (kT D) s) (hE : kE D A s s.heap) (hP : va_P D kC X H) (hD : va_D A X) (hS : va_S A s.heap H locs) (hA : ∀ q, s.heap.size ≤ q → A q) (isC isR : List Nat) (hnC : va_nd isC = true) (hC : isC.map (fun i => X[i]?) = ws.map some) (hR : isR.map (fun i => X[i]?) = wr.map some) (hn : va_nd isR = true) (hdis : ∀ i ∈ isR, i ∉ isC)
    (hlen : As.length = n) (hsz : ls.size = nL) (hst : st0 = As.reverse ++ rest) (hroom : (rest.map fun v => v.category).sum ≤ 8) (hdg : decode cc pc = .ok (.invokestatic index, 3)) (hf : cells + mc ≤ R.cells ∧ slots + ms ≤ R.slots)
    (kk : ∀ (u : S) (H1 : Heap) (locs1 : List Loc), po u → va_P D kC (wr ++ ws' u) H1 → va_D A (wr ++ ws' u) → va_S A s.heap H1 locs1 → W p l e R s m args below meth c H1 locs1 (cells + mc) (slots + ms) Q (F0 m (pc + 3) ls ((o u).toList ++ rest))) :
    W p l e R s m args below meth c H locs cells slots Q (F0 m pc ls st0) := by
  subst hst
  exact k_run (va_runSN (As := As) (rest := rest) S0 (hM H.size) cw ⟨kPre_blind, kPre_mk hK hE hP hD hS hA isC hnC hC⟩ rfl hlen hsz rfl (lv_room hroom) hdg hf) hP hD hS hA isC isR hC hR hn hdis kk
theorem kcI (S0 : CallFix p m c cc nL s args Ts own) (hM : kM l y wd rm mc ms D (.ref b :: As) ws o ws' po) (cw : CallB R s args own index y bytes maxL none wd rm mc ms n ∧ y.name = "<init>" ∧ (Cond.instanceMethod y).before args s = true)
    (hK : va_K D kC (kT D) s) (hE : kE D A s s.heap) (hP : va_P D kC X H) (hD : va_D A X) (hS : va_S A s.heap H locs) (hA : ∀ q, s.heap.size ≤ q → A q) (isC isR : List Nat) (hnC : va_nd isC = true) (hC : isC.map (fun i => X[i]?) = ws.map some) (hR : isR.map (fun i => X[i]?) = wr.map some) (hn : va_nd isR = true) (hdis : ∀ i ∈ isR, i ∉ isC)
    (hlen : As.length = n) (hsz : ls.size = nL) (hst : st0 = As.reverse ++ .ref b :: rest) (hroom : (rest.map fun v => v.category).sum ≤ 8) (hdg : decode cc pc = .ok (.invokespecial index, 3)) (hf : cells + mc ≤ R.cells ∧ slots + ms ≤ R.slots)
    (kk : ∀ (u : S) (H1 : Heap) (locs1 : List Loc), po u → va_P D kC (wr ++ ws' u) H1 → va_D A (wr ++ ws' u) → va_S A s.heap H1 locs1 → W p l e R s m args below meth c H1 locs1 (cells + mc) (slots + ms) Q (F0 m (pc + 3) ls ((o u).toList ++ rest))) :
    W p l e R s m args below meth c H locs cells slots Q (F0 m pc ls st0) := by
  subst hst
  exact k_run (va_runI (As := As) (rest := rest) S0 (hM H.size) cw ⟨kPre_blind, kPre_mk hK hE hP hD hS hA isC hnC hC⟩ rfl hlen hsz rfl (lv_room hroom) hdg hf) hP hD hS hA isC isR hC hR hn hdis kk
theorem kcIN {host : String} (S0 : CallFix p m c cc nL s args Ts own) (hM : kM l y wd rm mc ms D (.ref b :: As) ws o ws' po) (cw : va_CN R s args own index y host bytes maxL none wd rm mc ms n ∧ y.name = "<init>" ∧ (Cond.instanceMethod y).before args s = true)
    (hK : va_K D kC (kT D) s) (hE : kE D A s s.heap) (hP : va_P D kC X H) (hD : va_D A X) (hS : va_S A s.heap H locs) (hA : ∀ q, s.heap.size ≤ q → A q) (isC isR : List Nat) (hnC : va_nd isC = true) (hC : isC.map (fun i => X[i]?) = ws.map some) (hR : isR.map (fun i => X[i]?) = wr.map some) (hn : va_nd isR = true) (hdis : ∀ i ∈ isR, i ∉ isC)
    (hlen : As.length = n) (hsz : ls.size = nL) (hst : st0 = As.reverse ++ .ref b :: rest) (hroom : (rest.map fun v => v.category).sum ≤ 8) (hdg : decode cc pc = .ok (.invokespecial index, 3)) (hf : cells + mc ≤ R.cells ∧ slots + ms ≤ R.slots)
    (kk : ∀ (u : S) (H1 : Heap) (locs1 : List Loc), po u → va_P D kC (wr ++ ws' u) H1 → va_D A (wr ++ ws' u) → va_S A s.heap H1 locs1 → W p l e R s m args below meth c H1 locs1 (cells + mc) (slots + ms) Q (F0 m (pc + 3) ls ((o u).toList ++ rest))) :
    W p l e R s m args below meth c H locs cells slots Q (F0 m pc ls st0) := by
  subst hst
  exact k_run (va_runIN (As := As) (rest := rest) S0 (hM H.size) cw ⟨kPre_blind, kPre_mk hK hE hP hD hS hA isC hnC hC⟩ rfl hlen hsz rfl (lv_room hroom) hdg hf) hP hD hS hA isC isR hC hR hn hdis kk
/-- a virtual call of a method that may throw -/
theorem kxV (S0 : CallFix p m c cc nL s args Ts own) (hM : kX l y wd rm mc ms D (.ref b :: As) ws thr o ws' po) (cw : CallW R s args own C index y bytes maxL ret wd rm mc ms n)
    (hK : va_K D kC (kT D) s) (hE : kE D A s s.heap) (hP : va_P D kC X H) (hD : va_D A X) (hS : va_S A s.heap H locs) (hA : ∀ q, s.heap.size ≤ q → A q) (isC isR : List Nat) (hnC : va_nd isC = true) (hC : isC.map (fun i => X[i]?) = ws.map some) (hR : isR.map (fun i => X[i]?) = wr.map some) (hn : va_nd isR = true) (hdis : ∀ i ∈ isR, i ∉ isC)
    (q0 ci : Nat) {fs : List Value} {qc : vw_C} (he : X[q0]? = some (b, .inr (ci, fs))) (hci : kC[ci]? = some qc) (hqC : qc.1 = C) (hlen : As.length = n) (hsz : ls.size = nL) (hst : st0 = As.reverse ++ .ref b :: rest) (hroom : (rest.map fun v => v.category).sum ≤ 8) (hdg : decode cc pc = .ok (.invokevirtual index, 3)) (hf : cells + mc ≤ R.cells ∧ slots + ms ≤ R.slots)
    (kx : ∀ (E : String) (ce : Cell) (q : Addr) (H1 : Heap) (locs1 : List Loc), thr = some E → va_P D kC (wr ++ ws) H1 → va_D A (wr ++ ws) → va_S A s.heap H1 locs1 → H1[q]? = some ce → ce.vm = .none → s.vm.findClass E = some ce.cls → vx_W p l e R s m args below meth c H1 locs1 (cells + mc) (slots + ms) Q (F0 m pc ls rest) q)
    (kk : ∀ (u : S) (H1 : Heap) (locs1 : List Loc), thr = none → po u → va_P D kC (wr ++ ws' u) H1 → va_D A (wr ++ ws' u) → va_S A s.heap H1 locs1 → W p l e R s m args below meth c H1 locs1 (cells + mc) (slots + ms) Q (F0 m (pc + 3) ls ((o u).toList ++ rest))) :
    W p l e R s m args below meth c H locs cells slots Q (F0 m pc ls st0) := by
  subst hst
  subst hqC
  exact k_runX (vx_runV (As := As) (rest := rest) S0 (hM H.size) cw ⟨kPre_blind, va_recv hK hP hci he, kPre_mk hK hE hP hD hS hA isC hnC hC⟩ rfl hlen hsz rfl (lv_room hroom) hdg hf) hP hD hS hA isC isR hC hR hn hdis kx kk
end KCALL
