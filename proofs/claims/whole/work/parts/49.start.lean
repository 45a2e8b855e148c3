/-! ===== what holds at the law's entry ===== -/
theorem lt_i0 : (.instantiable RX0 3 : Cond) ∈ lw_tbl := List.mem_of_getElem? (i := 73) (by decide +kernel)
theorem lt_i1 : (.instantiable RX1 4 : Cond) ∈ lw_tbl := List.mem_of_getElem? (i := 45) (by decide +kernel)
theorem lt_i2 : (.instantiable RX2 4 : Cond) ∈ lw_tbl := List.mem_of_getElem? (i := 122) (by decide +kernel)
theorem lt_i3 : (.instantiable RX3 14 : Cond) ∈ lw_tbl := List.mem_of_getElem? (i := 364) (by decide +kernel)
theorem lt_i4 : (.instantiable RX4 5 : Cond) ∈ lw_tbl := List.mem_of_getElem? (i := 92) (by decide +kernel)
theorem lt_i5 : (.instantiable RX5 9 : Cond) ∈ lw_tbl := List.mem_of_getElem? (i := 37) (by decide +kernel)
theorem lt_i6 : (.instantiable RX6 32 : Cond) ∈ lw_tbl := List.mem_of_getElem? (i := 629) (by decide +kernel)
theorem lt_a_int : (.arrayClass .int : Cond) ∈ lw_tbl := List.mem_of_getElem? (i := 68) (by decide +kernel)
theorem lt_a_byte : (.arrayClass .byte : Cond) ∈ lw_tbl := List.mem_of_getElem? (i := 67) (by decide +kernel)
theorem lt_a_boolean : (.arrayClass .boolean : Cond) ∈ lw_tbl := List.mem_of_getElem? (i := 69) (by decide +kernel)
theorem lt_a_long : (.arrayClass .long : Cond) ∈ lw_tbl := List.mem_of_getElem? (i := 120) (by decide +kernel)
theorem lt_ao : (.arrayOver (.object "SignatureSpans$Signature") : Cond) ∈ lw_tbl := List.mem_of_getElem? (i := 71) (by decide +kernel)
theorem lt_aoa : (.arrayOver (.array .int) : Cond) ∈ lw_tbl := List.mem_of_getElem? (i := 98) (by decide +kernel)
theorem lt_zSTART : (.laysStatic RX2 "START" "[I" : Cond) ∈ lw_tbl := List.mem_of_getElem? (i := 448) (by decide +kernel)
theorem lt_zROUND : (.laysStatic RX2 "ROUND" "[I" : Cond) ∈ lw_tbl := List.mem_of_getElem? (i := 461) (by decide +kernel)
theorem lt_n2 : (.initialized RX2 : Cond) ∈ lw_tbl := List.mem_of_getElem? (i := 22) (by decide +kernel)
theorem lt_zu : (.laysStatic Bundle.tN "UNASSIGNED_STACK" Bundle.steD : Cond) ∈ lw_tbl := List.mem_of_getElem? (i := 203) (by decide +kernel)
theorem lt_zs : (.laysStatic Bundle.tN "SUPPRESSED_SENTINEL" Bundle.listD : Cond) ∈ lw_tbl := List.mem_of_getElem? (i := 205) (by decide +kernel)
theorem lt_nt : (.initialized Bundle.tN : Cond) ∈ lw_tbl := List.mem_of_getElem? (i := 24) (by decide +kernel)
theorem lt_str : ∀ q ∈ kStr, (Cond.stringRef RX5 q.1 q.2) ∈ lw_tbl := by decide +kernel
theorem lt_nest : ∀ w ∈ kNest, w ∈ lw_tbl := by decide +kernel
def lw_giv : List Cond := flatC (Jvm.Cond.and given_1 narrow_1)
theorem lq_u : (Cond.isRef (.static Bundle.tN "UNASSIGNED_STACK" Bundle.steD)) ∈ lw_giv := List.mem_of_getElem? (i := 4) (by decide +kernel)
theorem lq_s : (Cond.isRef (.static Bundle.tN "SUPPRESSED_SENTINEL" Bundle.listD)) ∈ lw_giv := List.mem_of_getElem? (i := 5) (by decide +kernel)
theorem lq_sa : (Cond.arrayOf (.static RX2 "START" "[I") .int) ∈ lw_giv := by decide +kernel
theorem lq_sl : (Cond.eq (.length (.static RX2 "START" "[I")) (.int (Int32.ofNat 8))) ∈ lw_giv := by decide +kernel
theorem lq_se : ∀ j, j < 8 → (Cond.eq (.elem (.static RX2 "START" "[I") (.int (Int32.ofNat j))) (.int (kSt j))) ∈ lw_giv := by decide +kernel
theorem lq_ra : (Cond.arrayOf (.static RX2 "ROUND" "[I") .int) ∈ lw_giv := by decide +kernel
theorem lq_rl : (Cond.eq (.length (.static RX2 "ROUND" "[I")) (.int (Int32.ofNat 64))) ∈ lw_giv := by decide +kernel
theorem lq_re : ∀ j, j < 64 → (Cond.eq (.elem (.static RX2 "ROUND" "[I") (.int (Int32.ofNat j))) (.int (kRd j))) ∈ lw_giv := by decide +kernel
theorem lq_str : ∀ q ∈ kStr, (Cond.exactly (.string RX5 q.1) "java/lang/String") ∈ lw_giv := by decide +kernel
theorem lq_nc : ∀ q ∈ kNc, (Cond.not (.castable q.1 q.2)) ∈ lw_giv := by decide +kernel
theorem k_arr {args : Array Value} {s : State} {ty : FieldType} (hno : ∀ C, ty ≠ .object C) (h : (Cond.arrayClass ty).before args s = true) : ∃ cA : ClassId, ArrOfT s cA ty ∧ va_RA s cA ty := by
  obtain ⟨c, k, comp, h1, h2, h3⟩ := Cond.arrayClass_spec h
  refine ⟨c, fun n z => ⟨fun k h => (by cases h), k, h2, comp, h3⟩, ?_⟩
  cases ty with
  | object C => exact absurd rfl (hno C)
  | _ => exact h1
theorem k_arrO {args : Array Value} {s : State} {C : String} (h : (Cond.arrayOver (.object C)).before args s = true) : ∃ cA : ClassId, ArrOfT s cA (.object C) ∧ va_RA s cA (.object C) := by
  obtain ⟨comp, c, k, h1, -, h2, h3, h4⟩ := Cond.arrayOver_spec h
  exact ⟨c, fun n z => ⟨fun k h => (by cases h), k, h2, comp, h3⟩, k, comp, h2, h3, h1, h4⟩
theorem k_arrA {args : Array Value} {s : State} {t : FieldType} (h : (Cond.arrayOver (.array t)).before args s = true) : ∃ cA : ClassId, ArrOfT s cA (.array t) ∧ va_RA s cA (.array t) := by
  obtain ⟨comp, c, k, h1, h2, h3, h4⟩ := Cond.arrayOver_specA h
  exact ⟨c, fun n z => ⟨fun k h => (by cases h), k, h2, comp, h3⟩, h4⟩
def kAd (args : Array Value) (s : State) (k : Nat) : Nat := match (Term.string RX5 k).eval args s none [] s with
  | some (.ref a) => a
  | _ => 0
theorem kAd_of {args : Array Value} {s : State} {k : Nat} (h : (Cond.exactly (.string RX5 k) "java/lang/String").before args s = true) : (Term.string RX5 k).eval args s none [] s = some (.ref (kAd args s k)) := by
  obtain ⟨a, _, _, _, h1, _⟩ := Cond.exactly_spec h
  unfold kAd
  rw [h1]
def kD1 (c0 c1 c2 c3 c4 c5 c6 d0 d1 d2 d3 d4 d5 : ClassId) : Nat → ClassId := fun k => match k with
  | 0 => c0
  | 1 => c1
  | 2 => c2
  | 3 => c3
  | 4 => c4
  | 5 => c5
  | 6 => c6
  | 20 => d0
  | 21 => d1
  | 22 => d2
  | 23 => d3
  | 24 => d4
  | _ => d5
def kD2 (i0 i1 i2 i3 i4 i5 i6 ta ad : Nat → Nat) : Nat → Nat → Nat := fun k => match k with
  | 0 => i0
  | 1 => i1
  | 2 => i2
  | 3 => i3
  | 4 => i4
  | 5 => i5
  | 6 => i6
  | 30 => ta
  | _ => ad
def kTa (t0 t1 : Nat) : Nat → Nat := fun k => match k with
  | 0 => t0
  | _ => t1
set_option maxHeartbeats 1000000 in
theorem k_start {b : Nat} {s : State} (hts : ∀ w ∈ lw_tbl, w.before #[Value.ref b] s = true) (hgv : (Jvm.Cond.and given_1 narrow_1).before #[Value.ref b] s = true) : ∃ D : va_G, va_K D kC (kT D) s ∧ kE D (fun q => s.heap.size ≤ q) s s.heap := by
  have hg : ∀ w ∈ lw_giv, w.before #[Value.ref b] s = true := flat_of_before _ hgv
  have hA : ∀ a : Nat, a < s.heap.size → ¬ (fun q : Nat => s.heap.size ≤ q) a := fun a h => Nat.not_le.mpr h
  obtain ⟨c0, i0, hk0⟩ := u_known (C := RX0) (T := TX0) (N := 3) (n := 3) hts lwX0 (hts _ lt_i0)
  obtain ⟨c1, i1, hk1⟩ := u_known (C := RX1) (T := TX1) (N := 4) (n := 4) hts lwX1 (hts _ lt_i1)
  obtain ⟨c2, i2, hk2⟩ := u_known (C := RX2) (T := TX2) (N := 4) (n := 4) hts lwX2 (hts _ lt_i2)
  obtain ⟨c3, i3, hk3⟩ := u_known (C := RX3) (T := TX3) (N := 14) (n := 14) hts lwX3 (hts _ lt_i3)
  obtain ⟨c4, i4, hk4⟩ := u_known (C := RX4) (T := TX4) (N := 5) (n := 5) hts lwX4 (hts _ lt_i4)
  obtain ⟨c5, i5, hk5⟩ := u_known (C := RX5) (T := TX5) (N := 9) (n := 9) hts lwX5 (hts _ lt_i5)
  obtain ⟨c6, i6, hk6⟩ := u_known (C := RX6) (T := TX6) (N := 32) (n := 32) hts lwX6 (hts _ lt_i6)
  obtain ⟨d0, ha0⟩ := k_arr (ty := .int) (fun C => by intro h; cases h) (hts _ lt_a_int)
  obtain ⟨d1, ha1⟩ := k_arr (ty := .byte) (fun C => by intro h; cases h) (hts _ lt_a_byte)
  obtain ⟨d2, ha2⟩ := k_arr (ty := .boolean) (fun C => by intro h; cases h) (hts _ lt_a_boolean)
  obtain ⟨d3, ha3⟩ := k_arr (ty := .long) (fun C => by intro h; cases h) (hts _ lt_a_long)
  obtain ⟨d4, ha4⟩ := k_arrO (hts _ lt_ao)
  obtain ⟨d5, ha5⟩ := k_arrA (hts _ lt_aoa)
  obtain ⟨t0, ht0, hT0⟩ := va_Tof (tm := .static RX2 "START" "[I") (ty := .int) (N := 8) (f := fun j => .int (kSt j)) (A := fun q => s.heap.size ≤ q) (by decide) (hg _ lq_sa) (va_eqt (hg _ lq_sl)) (fun j hj => va_eqt (hg _ (lq_se j hj))) hA
  obtain ⟨t1, ht1, hT1⟩ := va_Tof (tm := .static RX2 "ROUND" "[I") (ty := .int) (N := 64) (f := fun j => .int (kRd j)) (A := fun q => s.heap.size ≤ q) (by decide) (hg _ lq_ra) (va_eqt (hg _ lq_rl)) (fun j hj => va_eqt (hg _ (lq_re j hj))) hA
  refine ⟨(kD1 c0 c1 c2 c3 c4 c5 c6 d0 d1 d2 d3 d4 d5, kD2 i0 i1 i2 i3 i4 i5 i6 (kTa t0 t1) (kAd #[Value.ref b] s)), ⟨fun k q hq => ?_, fun k q hq => ?_⟩, ⟨va_Zref (hts _ lt_zSTART) (hts _ lt_n2) ht0 hA, hT0⟩, ⟨va_Zref (hts _ lt_zROUND) (hts _ lt_n2) ht1 hA, hT1⟩, ⟨vx_Zqof (hts _ lt_zu) (hts _ lt_nt) (hg _ lq_u) hA, vx_Zqof (hts _ lt_zs) (hts _ lt_nt) (hg _ lq_s) hA⟩, fun q hq => vk_R.of (hts _ (lt_str q hq)) (kAd_of (hg _ (lq_str q hq))), fun w hw => va_Nw.of (kNest_on w hw) (hts w (lt_nest w hw)), fun q hq => va_Nc.of (hg _ (lq_nc q hq)), va_AO.of (hts _ lt_ao), va_AOA.of (hts _ lt_aoa)⟩
  · match k, hq with
    | 0, hq => have hq : some ((RX0, TX0, 3) : vw_C) = some q := hq; cases hq; exact hk0
    | 1, hq => have hq : some ((RX1, TX1, 4) : vw_C) = some q := hq; cases hq; exact hk1
    | 2, hq => have hq : some ((RX2, TX2, 4) : vw_C) = some q := hq; cases hq; exact hk2
    | 3, hq => have hq : some ((RX3, TX3, 14) : vw_C) = some q := hq; cases hq; exact hk3
    | 4, hq => have hq : some ((RX4, TX4, 5) : vw_C) = some q := hq; cases hq; exact hk4
    | 5, hq => have hq : some ((RX5, TX5, 9) : vw_C) = some q := hq; cases hq; exact hk5
    | 6, hq => have hq : some ((RX6, TX6, 32) : vw_C) = some q := hq; cases hq; exact hk6
    | k + 7, hq => simp [kC] at hq
  · match k, hq with
    | 0, hq => have hq : some (d0, (.int : FieldType)) = some q := hq; cases hq; exact ha0
    | 1, hq => have hq : some (d1, (.byte : FieldType)) = some q := hq; cases hq; exact ha1
    | 2, hq => have hq : some (d2, (.boolean : FieldType)) = some q := hq; cases hq; exact ha2
    | 3, hq => have hq : some (d3, (.long : FieldType)) = some q := hq; cases hq; exact ha3
    | 4, hq => have hq : some (d4, (.object "SignatureSpans$Signature" : FieldType)) = some q := hq; cases hq; exact ha4
    | 5, hq => have hq : some (d5, (.array .int : FieldType)) = some q := hq; cases hq; exact ha5
    | k + 6, hq => simp [kT] at hq
