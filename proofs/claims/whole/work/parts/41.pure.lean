/-! ===== numbers alone: the order of the stamps, bits of fields ===== -/
theorem kCnt_le2 {p q : Nat → Bool} : ∀ {n : Nat}, (∀ k, k < n → p k = true → q k = true) → kCnt p n ≤ kCnt q n
  | 0, _ => Nat.le_refl _
  | n + 1, h => by
    have h1 := kCnt_le2 (n := n) (p := p) (q := q) (fun k hk => h k (by omega))
    have h2 := h n (Nat.lt_succ_self n)
    show kCnt p n + (p n).toNat ≤ kCnt q n + (q n).toNat
    cases e : p n with
    | false => simp only [Bool.toNat_false]; omega
    | true => rw [h2 e]; omega
theorem kCnt_lt2 {p q : Nat → Bool} : ∀ {n : Nat}, (∀ k, k < n → p k = true → q k = true) → (∃ k, k < n ∧ p k = false ∧ q k = true) → kCnt p n < kCnt q n
  | 0, _, ⟨k, hk, _⟩ => absurd hk (Nat.not_lt_zero k)
  | n + 1, h, ⟨k, hk, e1, e2⟩ => by
    have h2 := h n (Nat.lt_succ_self n)
    show kCnt p n + (p n).toNat < kCnt q n + (q n).toNat
    rcases Nat.lt_succ_iff_lt_or_eq.mp hk with c | c
    · have h1 := kCnt_lt2 (n := n) (p := p) (q := q) (fun k hk => h k (by omega)) ⟨k, c, e1, e2⟩
      cases e : p n with
      | false => simp only [Bool.toNat_false]; omega
      | true => rw [h2 e]; omega
    · subst c
      have h1 := kCnt_le2 (n := k) (p := p) (q := q) (fun j hj => h j (by omega))
      rw [e1, e2]
      simp only [Bool.toNat_false, Bool.toNat_true]
      omega
theorem kCnt_all {p : Nat → Bool} : ∀ {n : Nat}, (∀ k, k < n → p k = true) → kCnt p n = n
  | 0, _ => rfl
  | n + 1, h => by
    show kCnt p n + (p n).toNat = n + 1
    rw [kCnt_all (fun k hk => h k (by omega)), h n (Nat.lt_succ_self n)]
    rfl
theorem kCnt_congr {p q : Nat → Bool} {n : Nat} (h : ∀ k, k < n → p k = q k) : kCnt p n = kCnt q n := Nat.le_antisymm (kCnt_le2 (fun k hk e => by rw [← h k hk]; exact e)) (kCnt_le2 (fun k hk e => by rw [h k hk]; exact e))
/-- a stamp comes ahead of another -/
def kBf (tm : Nat → Int64) (j k : Nat) : Prop := tm j < tm k ∨ tm j = tm k ∧ j < k
theorem kBf_irr (tm : Nat → Int64) (k : Nat) : ¬ kBf tm k k := fun h => by
  rcases h with h | h
  · exact absurd h Int64.lt_irrefl
  · exact absurd h.2 (Nat.lt_irrefl k)
theorem kI64_lt {x y : Int64} : x < y ↔ x.toInt < y.toInt := Int64.lt_iff_toInt_lt
theorem kI64_eq {x y : Int64} : x = y ↔ x.toInt = y.toInt := Int64.toInt_inj.symm
theorem kI64_le {x y : Int64} : x ≤ y ↔ x.toInt ≤ y.toInt := Int64.le_iff_toInt_le
theorem kBf_tr {tm : Nat → Int64} {i j k : Nat} (h1 : kBf tm i j) (h2 : kBf tm j k) : kBf tm i k := by
  unfold kBf at *
  rw [kI64_lt, kI64_eq] at *
  omega
theorem kBf_tot (tm : Nat → Int64) {j k : Nat} (h : j ≠ k) : kBf tm j k ∨ kBf tm k j := by
  unfold kBf
  rw [kI64_lt, kI64_eq, kI64_lt, kI64_eq]
  omega
theorem kRk_def (tm : Nat → Int64) (sn k : Nat) : kRk tm sn k = kCnt (fun j => decide (tm j < tm k ∨ tm j = tm k ∧ j < k)) sn := rfl
theorem kRk_lt {tm : Nat → Int64} {sn j k : Nat} (hj : j < sn) (h : kBf tm j k) : kRk tm sn j < kRk tm sn k := by
  rw [kRk_def, kRk_def]
  refine kCnt_lt2 (fun i _ hi => ?_) ⟨j, hj, ?_, ?_⟩
  · have h3 : tm i < tm j ∨ tm i = tm j ∧ i < j := of_decide_eq_true hi
    have h4 : tm i < tm k ∨ tm i = tm k ∧ i < k := kBf_tr h3 h
    exact decide_eq_true h4
  · have h4 : ¬ (tm j < tm j ∨ tm j = tm j ∧ j < j) := kBf_irr tm j
    exact decide_eq_false h4
  · have h4 : tm j < tm k ∨ tm j = tm k ∧ j < k := h
    exact decide_eq_true h4
theorem kRk_inj {tm : Nat → Int64} {sn j k : Nat} (hj : j < sn) (hk : k < sn) (h : kRk tm sn j = kRk tm sn k) : j = k := by
  by_cases e : j = k
  · exact e
  · rcases kBf_tot tm e with c | c
    · have := kRk_lt hj c; omega
    · have := kRk_lt hk c; omega
theorem kRk_sn {tm : Nat → Int64} {sn k : Nat} (hk : k < sn) : kRk tm sn k < sn := by
  have h : kCnt (fun _ => true) sn = sn := kCnt_all (fun _ _ => rfl)
  have h2 : kRk tm sn k < kCnt (fun _ => true) sn := by
    rw [kRk_def]
    have h4 : ¬ (tm k < tm k ∨ tm k = tm k ∧ k < k) := kBf_irr tm k
    exact kCnt_lt2 (fun _ _ _ => rfl) ⟨k, hk, decide_eq_false h4, rfl⟩
  omega
/-- od is the order of the stamps -/
def kOrd (tm : Nat → Int64) (sn : Nat) (od : Nat → Nat) : Prop := ∀ a, a < sn → od a < sn ∧ kRk tm sn (od a) = a
theorem kOrd.at {tm : Nat → Int64} {sn : Nat} {od : Nat → Nat} (h : kOrd tm sn od) {j : Nat} (hj : j < sn) : od (kRk tm sn j) = j := by
  obtain ⟨h1, h2⟩ := h _ (kRk_sn hj)
  exact kRk_inj h1 hj h2
theorem kLf_one {p : Nat → Bool} : ∀ {n k : Nat}, k < n → p k = true → (∀ j, j < n → p j = true → j = k) → kLf p n = k + 1
  | 0, k, hk, _, _ => absurd hk (Nat.not_lt_zero k)
  | n + 1, k, hk, h, hu => by
    by_cases c : p n = true
    · rw [kLf_t c, hu n (Nat.lt_succ_self n) c]
    · rw [kLf_f c]
      have : k ≠ n := fun e => c (e ▸ h)
      exact kLf_one (by omega) h (fun j hj q => hu j (by omega) q)
theorem kOrd.lf {tm : Nat → Int64} {sn : Nat} {od : Nat → Nat} (h : kOrd tm sn od) : ∀ a, a < sn → kLf (fun q => decide (kRk tm sn q = a)) sn = od a + 1 := fun a ha => by
  obtain ⟨h1, h2⟩ := h a ha
  refine kLf_one h1 (decide_eq_true h2) (fun j hj q => ?_)
  have q := of_decide_eq_true q
  exact kRk_inj hj h1 (by rw [q, h2])
theorem kRk_new {tm : Nat → Int64} {sn k : Nat} {t : Int64} (hk : k < sn) : kRk (vp_updL tm sn t) (sn + 1) k = kRk tm sn k + (decide (t < tm k)).toNat := by
  have e : ∀ j, j ≠ sn → vp_updL tm sn t j = tm j := fun j hj => if_neg hj
  have e0 : vp_updL tm sn t sn = t := if_pos rfl
  rw [kRk_def, kRk_def]
  show kCnt _ sn + (decide (vp_updL tm sn t sn < vp_updL tm sn t k ∨ vp_updL tm sn t sn = vp_updL tm sn t k ∧ sn < k)).toNat = _
  rw [e0, e k (by omega)]
  congr 1
  · refine kCnt_congr (fun j hj => ?_)
    show decide (vp_updL tm sn t j < _ ∨ vp_updL tm sn t j = _ ∧ _) = _
    rw [e j (by omega)]
  · congr 1
    by_cases c : t < tm k
    · rw [decide_eq_true c, decide_eq_true (Or.inl c)]
    · rw [decide_eq_false c, decide_eq_false (fun q => q.elim c (fun q => by omega))]
theorem kRk_own {tm : Nat → Int64} {sn : Nat} {t : Int64} : kRk (vp_updL tm sn t) (sn + 1) sn = kCnt (fun j => decide (tm j ≤ t)) sn := by
  have e : ∀ j, j ≠ sn → vp_updL tm sn t j = tm j := fun j hj => if_neg hj
  have e0 : vp_updL tm sn t sn = t := if_pos rfl
  rw [kRk_def]
  show kCnt _ sn + (decide (vp_updL tm sn t sn < vp_updL tm sn t sn ∨ vp_updL tm sn t sn = vp_updL tm sn t sn ∧ sn < sn)).toNat = _
  rw [e0]
  have h2 : (decide (t < t ∨ t = t ∧ sn < sn)).toNat = 0 := by
    rw [decide_eq_false (fun q => q.elim (fun q => Int64.lt_irrefl q) (fun q => Nat.lt_irrefl _ q.2))]
    rfl
  rw [h2, Nat.add_zero]
  refine kCnt_congr (fun j hj => ?_)
  show decide (vp_updL tm sn t j < _ ∨ vp_updL tm sn t j = _ ∧ _) = _
  rw [e j (by omega)]
  have : (tm j < t ∨ tm j = t ∧ j < sn) ↔ tm j ≤ t := by
    rw [kI64_lt, kI64_eq, kI64_le]
    omega
  exact decide_eq_decide.mpr this
theorem kOrd.ins {tm : Nat → Int64} {sn : Nat} {od : Nat → Nat} {t : Int64} {q : Nat} (h : kOrd tm sn od) (hq : q ≤ sn) (h1 : ∀ j, q ≤ j → j < sn → t < tm (od j)) (h2 : q = 0 ∨ tm (od (q - 1)) ≤ t) : kOrd (vp_updL tm sn t) (sn + 1) (kIns od sn q) := by
  have lo : ∀ a, a < q → tm (od a) ≤ t := fun a ha => by
    rcases h2 with h2 | h2
    · omega
    · rcases Nat.lt_or_ge a (q - 1) with c | c
      · obtain ⟨a1, a2⟩ := h a (by omega)
        obtain ⟨b1, b2⟩ := h (q - 1) (by omega)
        have hn : ¬ kBf tm (od (q - 1)) (od a) := fun hb => by
          have := kRk_lt b1 hb
          omega
        unfold kBf at hn
        rw [kI64_lt] at hn
        rw [kI64_le] at h2 ⊢
        omega
      · have e : a = q - 1 := by omega
        rw [e]; exact h2
  have hle : ∀ j, j < sn → (tm j ≤ t ↔ kRk tm sn j < q) := fun j hj => by
    have e := h.at hj
    have hs := kRk_sn (tm := tm) hj
    constructor
    · intro c
      refine Nat.lt_of_not_le (fun g => ?_)
      have := h1 _ g hs
      rw [e, kI64_lt] at this
      rw [kI64_le] at c
      omega
    · intro c
      have := lo _ c
      rw [e] at this
      exact this
  have hcnt : kCnt (fun j => decide (tm j ≤ t)) sn = q := by
    rcases Nat.lt_or_ge q sn with c | c
    · obtain ⟨a1, a2⟩ := h q c
      refine Eq.trans (Eq.trans (kCnt_congr (fun j hj => ?_)) (kRk_def tm sn (od q)).symm) a2
      refine decide_eq_decide.mpr ((hle j hj).trans ?_)
      constructor
      · intro g
        by_cases e : j = od q
        · rw [e, a2] at g; exact absurd g (Nat.lt_irrefl _)
        · rcases kBf_tot tm e with b | b
          · exact b
          · have := kRk_lt a1 b
            omega
      · intro g
        have := kRk_lt hj (show kBf tm j (od q) from g)
        omega
    · have e : q = sn := by omega
      rw [e]
      exact kCnt_all (fun j hj => decide_eq_true ((hle j hj).mpr (by rw [e]; exact kRk_sn hj)))
  intro a ha
  unfold kIns
  by_cases c1 : a < q
  · rw [if_pos c1]
    obtain ⟨a1, a2⟩ := h a (by omega)
    refine ⟨by omega, ?_⟩
    rw [kRk_new a1, a2, decide_eq_false (fun g => ?_)]
    · rfl
    · have := lo a c1
      rw [kI64_le] at this
      rw [kI64_lt] at g
      omega
  · rw [if_neg c1]
    by_cases c2 : a = q
    · rw [if_pos c2, kRk_own, hcnt]
      exact ⟨Nat.lt_succ_self _, c2.symm⟩
    · rw [if_neg c2, if_pos (by omega)]
      obtain ⟨a1, a2⟩ := h (a - 1) (by omega)
      refine ⟨by omega, ?_⟩
      rw [kRk_new a1, a2, decide_eq_true (h1 (a - 1) (by omega) (by omega))]
      show a - 1 + 1 = a
      omega
theorem b_1 (i : Nat) : bt (nI 1) i = decide (i = 0) := by
  rcases Nat.lt_or_ge i 32 with h | h
  · exact (by decide +kernel : ∀ i, i < 32 → bt (nI 1) i = decide (i = 0)) i h
  · rw [b_big h, decide_eq_false (by omega)]
theorem kBit_bt (x : Int32) {f : Nat} (hf : f < 32) : kBit x f = bt x f := by
  have hb : ∀ i, bt ((x >>> (nI f &&& 31)) &&& nI 1) i = (bt x f && decide (i = 0)) := fun i => by
    rw [b_and, b_1]
    by_cases c : i = 0
    · subst c
      rw [b_sshr f hf x (by omega), if_pos (by omega)]
      rfl
    · rw [decide_eq_false c, Bool.and_false, Bool.and_false]
  unfold kBit
  cases e : bt x f with
  | true =>
    refine decide_eq_true (fun h => ?_)
    have := hb 0
    rw [h, b_0, e] at this
    cases this
  | false =>
    refine decide_eq_false (fun h => h (b_ext (fun i _ => ?_)))
    rw [hb i, e, b_0]
    rfl
theorem kBit_or (x : Int32) {f g : Nat} (hf : f < 32) (hg : g < 32) : kBit (x ||| (nI 1 <<< (nI g &&& 31))) f = (kBit x f || decide (f = g)) := by
  rw [kBit_bt _ hf, kBit_bt _ hf, b_or, b_shl g hg (nI 1) hf, b_1]
  congr 1
  by_cases c : f = g
  · subst c; simp
  · rw [decide_eq_false c]
    by_cases d : g ≤ f
    · rw [decide_eq_true d, decide_eq_false (by omega)]; rfl
    · rw [decide_eq_false d]; rfl
theorem kBit_0 {f : Nat} (hf : f < 32) : kBit (nI 0) f = false := by rw [kBit_bt _ hf]; exact b_0 f
theorem kBit_lk (x : Int32) {f g : Nat} (hf : f < 32) (hg : g < 32) : kBit (kLkF x g) f = (kBit x f || decide (f = g)) := by
  unfold kLkF
  by_cases c : kBit x g = true
  · rw [if_pos c]
    by_cases d : f = g
    · subst d; rw [c]; rfl
    · rw [decide_eq_false d, Bool.or_false]
  · rw [if_neg c, kBit_or x hf hg]
