/-! ===== the model's answers ===== -/
def kRef (x y z : Nat) : Nat := if 0 < x then 1 else if 0 < y then 2 else if 0 < z then 3 else 0
theorem k_sl {n : Nat} {x : Int32} (hn : n + 1 < 2147483648) : nI (n + 1) ≤ x ↔ nI n < x := by
  rw [Int32.le_iff_toInt_le, Int32.lt_iff_toInt_lt, nI_toInt hn, nI_toInt (by omega)]
  omega
theorem k01_f {x : Int32} (h0 : ¬ x = 0) (h1 : ¬ x = nI 1) : k01 x = false := by
  cases e : k01 x with
  | false => rfl
  | true =>
    obtain ⟨j, hj, rfl⟩ := kNat_le (n := 1) (by omega) (of_decide_eq_true e).1 (of_decide_eq_true e).2
    rcases (show j = 0 ∨ j = 1 by omega) with rfl | rfl
    · exact absurd rfl h0
    · exact absurd rfl h1
theorem k_bit1 (y : Int32) : y &&& nI 1 = nI 1 ↔ ¬ y &&& nI 1 = 0 := by
  obtain ⟨j, hj, e⟩ := pk_andE y (m := nI 1) 1 (by decide)
  rw [e]
  rcases (show j = 0 ∨ j = 1 by omega) with rfl | rfl <;> decide
theorem k_b8 (x : Int32) {m : Nat} (hm : m ≤ 24) : (x >>> (nI m &&& 31)).toInt8 = (kShr x (nI m)).toInt8 := by
  apply Int8.toBitVec_inj.mp
  rw [Int32.toBitVec_toInt8, Int32.toBitVec_toInt8]
  apply BitVec.eq_of_getLsbD_eq
  intro i hi
  have h1 : bt (x >>> (nI m &&& 31)) i = bt (kShr x (nI m)) i := by
    unfold kShr
    rw [b_sshr m (by omega) x (by omega), b_ushr m (by omega) x i, if_pos (by omega)]
  have e : ∀ y : Int32, (y.toBitVec.signExtend 8).getLsbD i = bt y i := fun y => by
    rw [BitVec.getLsbD_signExtend, if_pos (by omega)]
    simp only [show i < 8 from hi, decide_true, Bool.true_and]
    rfl
  rw [e, e]
  exact h1
