/-! ===== new rows of references, of rows ===== -/
section KNW
variable {p : Program} {l : Launch} {e : Env} {R : Room} {s : State} {m : MethodId} {args : Array Value} {below : List Frame} {meth : Method} {c : Code} {H : Heap} {locs : List Loc} {cells slots : Nat} {Q : State → Prop}
variable {cc : ByteArray} {pc : Nat} {ls : Array Slot} {rest : List Value} {D : va_G} {cl : List vw_C} {A : Nat → Prop} {a : Nat} {tys : List (ClassId × FieldType)} {ws : va_W} {H0 : Heap}
theorem kn_newq (hexec : p.tables.exec = Jvm.exec) (hb : c.code = cc) {own C : String} {index : Nat} (hown : s.vm.findClass own = some m.cls) (hclink : (Cond.classLink own index C).before args s = true) (hover : va_AO C s) (hK : va_K D cl tys s) (hP : va_P D cl ws H) (hD : va_D A ws) (hS : va_S A H0 H locs) (hA : ∀ q, H0.size ≤ q → A q) (t0 : Nat) {cA : ClassId} (ht : tys[t0]? = some (cA, .object C))
    {N' : Nat} (hn : N' < 2147483648) (hbytes : N' * 4 ≤ 536870912) (hcells : cells + 1 ≤ R.cells) (hslots : slots + N' ≤ R.slots) (hdg : decode cc pc = .ok (.anewarray index, 3))
    (kk : ∀ (q : Nat) (H1 : Heap), va_P D cl (ws ++ [(q, .inl (cA, N', .inr (.inr (.inr (.inr (fun _ => none))))))]) H1 → va_D A (ws ++ [(q, .inl (cA, N', .inr (.inr (.inr (.inr (fun _ => none))))))]) → va_S A H0 H1 locs → W p l e R s m args below meth c H1 locs (cells + 1) (slots + N') Q (F0 m (pc + 3) ls (.ref q :: rest))) : W p l e R s m args below meth c H locs cells slots Q (F0 m pc ls (.int (nI N') :: rest)) := by
  refine va_newq hexec hb hown hclink hover hK hP hD hS hA (nI_pos hn) (nI_clamp hn) hbytes hcells hslots hdg (fun q cA' H1 hK1 hP1 hD1 hS1 => ?_)
  obtain ⟨_, _, _, _, _, h1⟩ : va_RA s cA (.object C) := (hK.2 t0 _ ht).2
  obtain ⟨_, _, _, _, _, h2⟩ : va_RA s cA' (.object C) := (hK1.2 tys.length (cA', .object C) (by simp)).2
  have h3 : cA' = cA := Option.some.inj (h2.symm.trans h1)
  subst h3
  exact kk q H1 hP1 hD1 hS1
theorem kn_rows (r : Nat → Nat) (N : Nat) (f : Nat → va_E) (e0 : va_E) : va_pl ([] ++ (List.range N).map r) (vr_up f ((List.range N).map r) e0) = (List.range N).map (fun i => (r i, e0)) := by
  unfold va_pl
  rw [List.nil_append, List.map_map]
  apply List.map_congr_left
  intro i hi
  show (r i, vr_up f ((List.range N).map r) e0 (r i)) = (r i, e0)
  rw [vr_up_in (List.mem_map.mpr ⟨i, hi, rfl⟩)]
theorem kn_mna {cc : ByteArray} (hexec : p.tables.exec = Jvm.exec) (hb : c.code = cc) {own : String} {index : Nat} {ty : FieldType} {cy cO : ClassId} (hown : s.vm.findClass own = some m.cls) (hclink : (Cond.classLink own index ("[" ++ (FieldType.array ty).toString)).before args s = true) (hover : va_AOA ty s) (harr : (Cond.arrayClass ty).before args s = true) (hcy : s.vm.findClass (FieldType.array ty).toString = some cy)
    (hK : va_K D cl tys s) (hP : va_P D cl ws H) (hD : va_D A ws) (hS : va_S A H0 H locs) (hA : ∀ q, H0.size ≤ q → A q) (t0 : Nat) (ht : tys[t0]? = some (cO, .array ty)) {N' K' : Nat} {z : vp_A} (hn : N' < 2147483648) (hk : K' < 2147483648)
    (hb1 : N' * 4 ≤ 536870912) (hb2 : K' * componentBytes ty ≤ 536870912) (hb3 : K' ≤ 536870912) (hdf : fits ty (defaultValue ty) = true) (hdd : (defaultValue ty).isDefault = true) (hcells : cells + (1 + N') ≤ R.cells) (hslots : slots + (N' + N' * K') ≤ R.slots) (hz : ∀ c : ClassId, Jvm.Free.Multi.innerC c K' (defaultValue ty) = vp_cell c z) (hdg : decode cc pc = .ok (.multianewarray index 2, 4))
    (kk : ∀ (q : Nat) (r : Nat → Nat) (H1 : Heap), va_P D cl ((ws ++ [(q, .inl (cO, N', .inr (.inr (.inr (.inr (fun i => if i < N' then some (r i) else none))))))]) ++ (List.range N').map (fun i => (r i, .inl (cy, z)))) H1 → va_D A ((ws ++ [(q, .inl (cO, N', .inr (.inr (.inr (.inr (fun i => if i < N' then some (r i) else none))))))]) ++ (List.range N').map (fun i => (r i, .inl (cy, z)))) → va_S A H0 H1 locs →
      W p l e R s m args below meth c H1 locs (cells + 1 + N') (slots + N' + N' * K') Q (F0 m (pc + 4) ls (.ref q :: rest))) : W p l e R s m args below meth c H locs cells slots Q (F0 m pc ls (.int (nI K') :: .int (nI N') :: rest)) := by
  have hP0 : va_P D cl (ws ++ va_pl [] (fun _ => .inr (0, []))) H := by
    show va_P D cl (ws ++ []) H
    rw [List.append_nil]; exact hP
  have hD0 : va_D A (ws ++ va_pl [] (fun _ => .inr (0, []))) := by
    show va_D A (ws ++ [])
    rw [List.append_nil]; exact hD
  refine va_mna hexec hb hown hclink hover harr hcy hK hP0 hD0 hS hA (nI_pos hn) (nI_pos hk) (nI_clamp hn) (nI_clamp hk) hb1 hb2 hb3 hdf hdd hcells hslots hz hdg (fun q r cA H1 _ _ hK1 hP1 hD1 hS1 => ?_)
  have h1 : va_RA s cO (.array ty) := (hK.2 t0 _ ht).2
  have h2 : va_RA s cA (.array ty) := (hK1.2 tys.length (cA, .array ty) (by simp)).2
  have h3 : cA = cO := Option.some.inj (Eq.trans (Eq.symm h2) h1)
  subst h3
  rw [kn_rows] at hP1 hD1
  exact kk q r H1 hP1 hD1 hS1
end KNW
