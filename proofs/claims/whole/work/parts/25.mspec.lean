/-! ===== the model's answers ===== -/
def kRef (x y z : Nat) : Nat := if 0 < x then 1 else if 0 < y then 2 else if 0 < z then 3 else 0
theorem k_sl {n : Nat} {x : Int32} (hn : n + 1 < 2147483648) : nI (n + 1) ≤ x ↔ nI n < x := by
  rw [Int32.le_iff_toInt_le, Int32.lt_iff_toInt_lt, nI_toInt hn, nI_toInt (by omega)]
  omega
theorem k01_f {x : Int32} (h0 : ¬ x = 0) (h1 : ¬ x = nI 1) : k01 x = false := by
  cases e : k01 x with
  | false => rfl
  | true =>
    obtain ⟨j, hj, rfl⟩ := kNat_le (n := 1) (by omega) (of_decide_eq_true e).1 (of_decide_eq_true e).2
    rcases (show j = 0 ∨ j = 1 by omega) with rfl | rfl
    · exact absurd rfl h0
    · exact absurd rfl h1
theorem k_bit1 (y : Int32) : y &&& nI 1 = nI 1 ↔ ¬ y &&& nI 1 = 0 := by
  obtain ⟨j, hj, e⟩ := pk_andE y (m := nI 1) 1 (by decide)
  rw [e]
  rcases (show j = 0 ∨ j = 1 by omega) with rfl | rfl <;> decide
theorem k_b8 (x : Int32) {m : Nat} (hm : m ≤ 24) : (x >>> (nI m &&& 31)).toInt8 = (kShr x (nI m)).toInt8 := by
  apply Int8.toBitVec_inj.mp
  rw [Int32.toBitVec_toInt8, Int32.toBitVec_toInt8]
  apply BitVec.eq_of_getLsbD_eq
  intro i hi
  have h1 : bt (x >>> (nI m &&& 31)) i = bt (kShr x (nI m)) i := by
    unfold kShr
    rw [b_sshr m (by omega) x (by omega), b_ushr m (by omega) x i, if_pos (by omega)]
  have e : ∀ y : Int32, (y.toBitVec.signExtend 8).getLsbD i = bt y i := fun y => by
    rw [BitVec.getLsbD_signExtend, if_pos (by omega)]
    simp only [show i < 8 from hi, decide_true, Bool.true_and]
    rfl
  rw [e, e]
  exact h1
theorem kTN1 {b : Bool} (h : 1 = b.toNat) : b = true := by cases b <;> first | rfl | cases h
theorem kTN0 {b : Bool} (h : 0 = b.toNat) : b = false := by cases b <;> first | rfl | cases h
theorem kTNle (b : Bool) : b.toNat = 0 ∨ b.toNat = 1 := by cases b <;> decide
theorem k_or {P : Prop} {h : Decidable P} {b : Bool} : ((decide P || b) = true) ↔ (P ∨ b = true) := by rw [Bool.or_eq_true, decide_eq_true_iff]
theorem kIsK3 {x : Int32} : kIsK x = true ↔ (¬ x < 0 ∧ ¬ nI 3 < x) := by
  unfold kIsK
  rw [decide_eq_true_iff, k_sl (n := 3) (by omega)]
theorem kIsF19 {x : Int32} : kIsF x = true ↔ (¬ x < 0 ∧ ¬ nI 19 < x) := by
  unfold kIsF
  rw [decide_eq_true_iff, k_sl (n := 19) (by omega)]
theorem k_31 {x : Int32} : (¬ x < nI 32) ↔ nI 31 < x := by
  rw [Int32.not_lt, k_sl (n := 31) (by omega)]
def kCnt (p : Nat → Bool) : Nat → Nat
  | 0 => 0
  | n + 1 => kCnt p n + (p n).toNat
theorem kCnt_le (p : Nat → Bool) : ∀ n, kCnt p n ≤ n
  | 0 => Nat.le_refl _
  | n + 1 => by
    have := kCnt_le p n
    show kCnt p n + (p n).toNat ≤ n + 1
    rcases kTNle (p n) with h | h <;> omega
/-- a stamp's place in ORDER -/
def kRk (tm : Nat → Int64) (sn k : Nat) : Nat := kCnt (fun j => decide (tm j < tm k ∨ tm j = tm k ∧ j < k)) sn
theorem kcSign_ref (fr : Nat) (has : Bool) (cn ch : Nat) (x : Int32) (t : Int64) : kcSign fr has cn ch x t = kRef (decide (kIsF x = false ∨ t < lN 0)).toNat (decide (fr = 0 ∨ has = true)).toNat (decide (cn = 8 ∨ 0 < cn ∧ ch = 40)).toNat := by
  unfold kcSign kRef
  by_cases h1 : kIsF x = false ∨ t < lN 0
  · rw [if_pos h1, decide_eq_true h1]; rfl
  · rw [if_neg h1, decide_eq_false h1]
    by_cases h2 : fr = 0 ∨ has = true
    · rw [if_pos h2, decide_eq_true h2]; rfl
    · rw [if_neg h2, decide_eq_false h2]
      by_cases h3 : cn = 8 ∨ 0 < cn ∧ ch = 40
      · rw [if_pos h3, decide_eq_true h3]; rfl
      · rw [if_neg h3, decide_eq_false h3]; rfl
theorem kEq8_symm (f g : Nat → Int32) : kEq8 f g = kEq8 g f := by
  cases e : kEq8 g f with
  | true => exact kEq8_t fun j hj => (kEq8_of e j hj).symm
  | false =>
    cases e2 : kEq8 f g with
    | false => rfl
    | true => rw [kEq8_t fun j hj => (kEq8_of e2 j hj).symm] at e; cases e
theorem kIsF_f {x : Int32} (h : x < 0 ∨ nI 19 < x) : kIsF x = false := by
  cases e : kIsF x with
  | false => rfl
  | true => exact absurd h (fun q => q.elim (kIsF19.mp e).1 (kIsF19.mp e).2)
theorem kcSign_ok {fr : Nat} {has : Bool} {cn ch : Nat} {x : Int32} {t : Int64} (h : kcSign fr has cn ch x t = 0) : (kIsF x = true ∧ ¬ t < lN 0) ∧ fr ≠ 0 ∧ has = false ∧ ¬ (cn = 8 ∨ 0 < cn ∧ ch = 40) := by
  unfold kcSign at h
  by_cases h1 : kIsF x = false ∨ t < lN 0
  · rw [if_pos h1] at h; cases h
  · rw [if_neg h1] at h
    by_cases h2 : fr = 0 ∨ has = true
    · rw [if_pos h2] at h; cases h
    · rw [if_neg h2] at h
      by_cases h3 : cn = 8 ∨ 0 < cn ∧ ch = 40
      · rw [if_pos h3] at h; cases h
      · refine ⟨⟨?_, fun q => h1 (Or.inr q)⟩, fun q => h2 (Or.inl q), ?_, h3⟩
        · cases e : kIsF x with
          | true => rfl
          | false => exact absurd (Or.inl e) h1
        · cases e : has with
          | false => rfl
          | true => exact absurd (Or.inr e) h2
theorem kI_m1 {k : Nat} (h : k < 2147483648) : kI k = (-1 : Int32) ↔ k = 0 := by
  cases k with
  | zero => exact ⟨fun _ => rfl, fun _ => rfl⟩
  | succ k =>
    constructor
    · intro q
      have h9 : nI k < 0 := by
        have q2 : nI k = (-1 : Int32) := q
        rw [q2]; decide
      exact absurd h9 (nI_pos (by omega))
    · intro q; cases q
