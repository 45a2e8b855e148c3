/-! ===== throws ===== -/
section KTH
variable {p : Program} {l : Launch} {e : Env} {R : Room} {s : State} {m : MethodId} {args : Array Value} {below : List Frame} {meth : Method} {c : Code} {H : Heap} {locs : List Loc} {cells slots : Nat}
variable {cc : ByteArray} {pc : Nat} {ls : Array Slot} {rest : List Value} {D : va_G} {A : Nat → Prop} {ws : va_W} {Qc : Array Value → State → Outcome → State → Prop} {thr : Option String} {Ts : List Cond} {own text : String} {mc ms sa : Nat}
theorem kx_throw {E : String} {names : List String} {ik is ic : Nat} (hexec : p.tables.exec = Jvm.exec) (hb : c.code = cc) (hl : l.stackTraces = false) (hnoh : ∀ x ∈ c.exceptionTable.toList, False) (hown : s.vm.findClass own = some m.cls) (hts : ∀ w ∈ Ts, w.before args s = true) (hK : va_K D kC (kT D) s) (hE : kE D A s s.heap) (hP : va_P D kC ws H) (hD : va_D A ws) (hS : va_S A s.heap H locs)
    (hk : (Cond.classLink own ik E).before args s = true) (hini : (Cond.initialized E).before args s = true) (hstr : vk_R own is text sa s)
    (hin : ∀ w ∈ (vx_atS own ic E names).filter goodWord, w ∈ Ts) (hng : ∀ w ∈ (vx_atS own ic E names).filter (fun w => !goodWord w), w ∈ kNest) (hgood : ∀ w ∈ Cond.classLink own ik E :: Cond.initialized E :: vx_atS own ic E names, vx_ot w = true) (hcls : Bundle.fit E = true) (hnames : ∀ n ∈ names, Bundle.fit n = true) (hsize : ls.size = c.maxLocals)
    (d0 : decode cc pc = .ok (.new ik, 3)) (d3 : decode cc (pc + 3) = .ok (.dup, 1)) (d4 : decode cc (pc + 4) = .ok (.ldc is, 2)) (d6 : decode cc (pc + 6) = .ok (.invokespecial ic, 3)) (d9 : decode cc (pc + 9) = .ok (.athrow, 1))
    (hRframes : names.length + 3 < R.frames) (hRlocals : (rest.map fun v => v.category).sum + (13 * (names.length + 1) + 43) ≤ R.locals) (hRc : cells + 1 ≤ R.cells ∧ slots + 6 ≤ R.slots) (hm : cells + 1 ≤ mc ∧ slots + 6 ≤ ms) (hlocks : meth.locks = false) (hthr : thr = some E) :
    W p l e R s m args below meth c H locs cells slots (vx_MQ below Qc (kXC D A ws thr) args s mc ms A) (F0 m pc ls rest) := by
  refine vx_throwS (A := A) hexec hb hl hown hcls hnames hk hini hstr (vx_hat (fun w hw => hts w (hin w hw)) hng (fun w hw => va_Nw.use (kNest_on w hw) (hE.2.2.2.2.1 w hw))) hgood hE.2.2.1.1 hE.2.2.1.2 hS hsize d0 d3 d4 d6 d9 (fun x hx => (hnoh x hx).elim) hRframes hRlocals hRc.1 hRc.2 hlocks (fun t hv h1 h2 => ?_) hS.2.2 hm.1 hm.2
  exact ⟨hthr, hP.kept (fun k q hk => h2 q.1 ((hP k q hk).lt)), va_K.moved hv hK, hD, ⟨Nat.le_trans hS.1 h1, fun q hq hn => (h2 q (Nat.lt_of_lt_of_le hq hS.1)).trans (hS.2.1 q hq hn)⟩⟩
/-- what a callee threw goes on to the caller's caller -/
theorem kx_out {E : String} {ce : Cell} {q : Addr} (hnoh : ∀ x ∈ c.exceptionTable.toList, False) (hlocks : meth.locks = false) (hK : va_K D kC (kT D) s) (hP : va_P D kC ws H) (hD : va_D A ws) (hS : va_S A s.heap H locs) (hce : H[q]? = some ce) (hcv : ce.vm = .none) (hcl : s.vm.findClass E = some ce.cls) (hm : cells ≤ mc ∧ slots ≤ ms) (hthr : thr = some E) :
    vx_W p l e R s m args below meth c H locs cells slots (vx_MQ below Qc (kXC D A ws thr) args s mc ms A) (F0 m pc ls rest) q :=
  vx_out (fun x hx => (hnoh x hx).elim) hlocks hce hcv hcl (fun t ht hv => ⟨hthr, by rw [ht]; exact hP, va_K.moved hv hK, hD, hS.F ht⟩) hS.2.2 hm.1 hm.2
end KTH
/-- a method that throws nothing, though its callees do -/
theorem kmet {l : Launch} {y : MethodName} {ws : List Cond} {rm : Room} {Pc : Array Value → State → Prop} {Qc : Array Value → State → Outcome → State → Prop} {mc ms : Nat} {free : Addr → Prop} (h : vx_Met l y ws rm Pc Qc (fun _ _ _ => False) mc ms free) : Met l y ws rm Pc Qc mc ms free := by
  intro p e ha hc hk s m args below hf happ hP hC
  obtain ⟨k, o, h1, h2, h3, hQ⟩ := h p e ha hc hk s m args below hf happ hP hC
  refine ⟨k, o, h1, h2, h3, ?_⟩
  rcases hQ with hQ | ⟨q, -, E, ce, L, hx, -⟩
  · exact hQ
  · exact hx.elim
theorem kgenQ {p : Program} {l : Launch} {e : Env} {R : Room} {s : State} {m : MethodId} {args : Array Value} {below : List Frame} {meth : Method} {c : Code} {H : Heap} {locs : List Loc} {cells slots : Nat} {Q0 : State → Prop} {g : JFrame} (h : ∀ Q, Q = Q0 → W p l e R s m args below meth c H locs cells slots Q g) : W p l e R s m args below meth c H locs cells slots Q0 g := h Q0 rfl
