/-! ===== what the words depend on ===== -/
/-- the message with what pad puts behind it -/
def kPadM (f : Nat → Int32) (n : Nat) : Nat → Int32 := kSeg (kSeg (upd f n ((-128 : Int32).toInt8.toInt32)) (fun _ => (nI 0).toInt8.toInt32) (n + 1) ((n + 72) / 64 * 64 - 4)) (fun j => ((kShr (nI (n * 8)) (nI (8 * ((n + 72) / 64 * 64 - 1 - j)))).toInt8.toInt32).toInt8.toInt32) ((n + 72) / 64 * 64 - 4) ((n + 72) / 64 * 64)
theorem k_b255 (x : Int32) : x.toInt8.toInt32 &&& nI 255 = x &&& nI 255 := by
  apply Int32.toBitVec_inj.mp
  rw [Int32.toBitVec_and, Int32.toBitVec_and, Int8.toBitVec_toInt32, Int32.toBitVec_toInt8]
  apply BitVec.eq_of_getLsbD_eq
  intro i hi
  rw [BitVec.getLsbD_and, BitVec.getLsbD_and]
  have hm : ∀ i < 32, 8 ≤ i → (nI 255).toBitVec.getLsbD i = false := by decide
  rcases Nat.lt_or_ge i 8 with z | z
  · rw [BitVec.getLsbD_signExtend, BitVec.getLsbD_signExtend, if_pos z, if_pos hi]
    simp only [z, hi, decide_true, Bool.true_and]
  · rw [hm i hi z]; simp
theorem kPadM_pad (f : Nat → Int32) (n : Nat) {j : Nat} (hj : j < (n + 72) / 64 * 64) : kPadM f n j &&& nI 255 = kPad (fun i => f i &&& nI 255) n j := by
  unfold kPadM kPad
  by_cases h1 : j < n
  · rw [kSeg_out (by omega), kSeg_out (by omega), pk_un (by omega), if_pos h1]
  · by_cases h2 : j = n
    · subst h2
      rw [kSeg_out (by omega), kSeg_out (by omega), pk_us, if_neg h1, if_pos rfl]
      decide
    · by_cases h3 : (n + 72) / 64 * 64 - 4 ≤ j
      · rw [kSeg_in h3 hj, if_neg h1, if_neg h2, if_pos h3, k_b255, k_b255]
      · rw [kSeg_out (by omega), kSeg_in (by omega) (by omega), if_neg h1, if_neg h2, if_neg h3]
        decide
theorem kSchN_congr {w w' : Nat → Int32} (h : ∀ j, j < 16 → w j = w' j) : ∀ k j, j < 16 + k → kSchN w k j = kSchN w' k j
  | 0, j, hj => h j hj
  | k + 1, j, hj => by
    show upd (kSchN w k) (16 + k) _ j = upd (kSchN w' k) (16 + k) _ j
    by_cases e : j = 16 + k
    · subst e
      rw [pk_us, pk_us]
      unfold kNw
      rw [kSchN_congr h k _ (by omega), kSchN_congr h k _ (by omega), kSchN_congr h k _ (by omega), kSchN_congr h k _ (by omega)]
    · rw [pk_un e, pk_un e]
      exact kSchN_congr h k j (by omega)
theorem kRN_congr {w w' v v' : Nat → Int32} (hv : ∀ j, j < 8 → v j = v' j) : ∀ t, t ≤ 64 → (∀ j, j < 64 → w j = w' j) → ∀ j, j < 8 → kRN w v t j = kRN w' v' t j
  | 0, _, _, j, hj => hv j hj
  | t + 1, ht, hw, j, hj => by
    have ih := kRN_congr hv t (by omega) hw
    show kRdn w (kRN w v t) t j = kRdn w' (kRN w' v' t) t j
    unfold kRdn kT1 kT2
    rw [ih 0 (by omega), ih 1 (by omega), ih 2 (by omega), ih 3 (by omega), ih 4 (by omega), ih 5 (by omega), ih 6 (by omega), ih 7 (by omega), hw t (by omega)]
    by_cases h0 : j = 0
    · rw [if_pos h0, if_pos h0]
    · rw [if_neg h0, if_neg h0]
      by_cases h4 : j = 4
      · rw [if_pos h4, if_pos h4]
      · rw [if_neg h4, if_neg h4, if_pos hj, if_pos hj]
        exact ih (j - 1) (by omega)
theorem kWd_congr {pb pb' : Nat → Int32} {N i : Nat} (h : ∀ j, j < N → pb j = pb' j) (hi : i + 3 < N) : kWd pb i = kWd pb' i := by
  unfold kWd
  rw [h i (by omega), h (i + 1) (by omega), h (i + 2) (by omega), h (i + 3) hi]
theorem kWs_congr {pb pb' : Nat → Int32} {b : Nat} (h : ∀ j, j < 64 * (b + 1) → pb j = pb' j) {j : Nat} (hj : j < 64) : kWs pb b j = kWs pb' b j := by
  unfold kWs
  refine kSchN_congr (fun t ht => ?_) 48 j (by omega)
  show (if t < 16 then _ else _) = (if t < 16 then _ else _)
  rw [if_pos ht, if_pos ht]
  exact kWd_congr h (by omega)
theorem kBlks_congr {pb pb' : Nat → Int32} : ∀ b, (∀ j, j < 64 * b → pb j = pb' j) → ∀ j, j < 8 → kBlks pb b j = kBlks pb' b j
  | 0, _, _, _ => rfl
  | b + 1, h, j, hj => by
    have ih := kBlks_congr b (fun j hj => h j (by omega))
    show kBlks pb b j + _ = kBlks pb' b j + _
    rw [ih j hj, kRN_congr ih 64 (Nat.le_refl _) (fun t ht => kWs_congr h ht) j hj]
theorem kPad_congr {mb mb' : Nat → Int32} {n : Nat} (h : ∀ j, j < n → mb j = mb' j) (j : Nat) : kPad mb n j = kPad mb' n j := by
  unfold kPad
  by_cases h1 : j < n
  · rw [if_pos h1, if_pos h1, h j h1]
  · rw [if_neg h1, if_neg h1]
theorem kSha_congr {mb mb' : Nat → Int32} {n : Nat} (h : ∀ j, j < n → mb j = mb' j) {j : Nat} (hj : j < 8) : kSha mb n j = kSha mb' n j := kBlks_congr _ (fun i _ => kPad_congr h i) j hj
/-- the class's form of a block's words -/
theorem kWs_of (sc pb : Nat → Int32) (b : Nat) {j : Nat} (hj : j < 64) : kSchN (kSeg sc (fun t => kWd pb (64 * b + 4 * t)) 0 16) 48 j = kWs pb b j := by
  unfold kWs
  refine kSchN_congr (fun t ht => ?_) 48 j (by omega)
  rw [kSeg_in (Nat.zero_le _) ht]
  exact (if_pos ht).symm
