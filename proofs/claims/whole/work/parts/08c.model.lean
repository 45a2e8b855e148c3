/-! ===== the model's forms ===== -/
theorem kU_uu {f : Nat → Int32} {k : Nat} {x y : Int32} : upd (upd f k x) k y = upd f k y := by
  funext j
  by_cases e : j = k
  · subst e; rw [pk_us, pk_us]
  · rw [pk_un e, pk_un e, pk_un e]
theorem k_shr8 {x left : Nat} (hx : x < 2147483648) (hl : left < 4) : nI x >>> (nI (8 * left) &&& 31) = kShr (nI x) (nI (8 * left)) := by
  unfold kShr
  have h4 : left = 0 ∨ left = 1 ∨ left = 2 ∨ left = 3 := by omega
  rcases h4 with rfl | rfl | rfl | rfl
  · rw [pk_shrN hx _ 0 (by decide), pk_ushrN (by omega) _ 0 (by decide)]
  · rw [pk_shrN hx _ 8 (by decide), pk_ushrN (by omega) _ 8 (by decide)]
  · rw [pk_shrN hx _ 16 (by decide), pk_ushrN (by omega) _ 16 (by decide)]
  · rw [pk_shrN hx _ 24 (by decide), pk_ushrN (by omega) _ 24 (by decide)]
theorem k_word (p0 p1 p2 p3 : Int32) : ((((((nI 0 <<< (nI 8 &&& 31)) ||| p0) <<< (nI 8 &&& 31)) ||| p1) <<< (nI 8 &&& 31) ||| p2) <<< (nI 8 &&& 31)) ||| p3 = ((p0 <<< (nI 24 &&& 31) ||| p1 <<< (nI 16 &&& 31)) ||| p2 <<< (nI 8 &&& 31)) ||| p3 := by
  apply b_ext
  intro i hi
  have h0 : ∀ j, bt (nI 0) j = false := fun j => b_0 j
  rw [b_or, b_shl 8 (by omega) _ hi, b_or, b_or, b_or, b_or, b_shl 24 (by omega) _ hi, b_shl 16 (by omega) _ hi, b_shl 8 (by omega) _ hi]
  rw [b_shl 8 (by omega) _ (show i - 8 < 32 by omega), b_or, b_shl 8 (by omega) _ (show i - 8 - 8 < 32 by omega), b_or, b_shl 8 (by omega) _ (show i - 8 - 8 - 8 < 32 by omega), h0]
  have e1 : i - 8 - 8 = i - 16 := by omega
  have e2 : i - 16 - 8 = i - 24 := by omega
  rw [e1, e2]
  by_cases a : 24 ≤ i
  · simp [show 8 ≤ i by omega, show 8 ≤ i - 8 by omega, show 8 ≤ i - 16 by omega, show 16 ≤ i by omega, a]
  · by_cases b : 16 ≤ i
    · simp [show 8 ≤ i by omega, show 8 ≤ i - 8 by omega, show ¬ 8 ≤ i - 16 by omega, b, a]
    · by_cases c : 8 ≤ i
      · simp [c, show ¬ 8 ≤ i - 8 by omega, b, a]
      · simp [c, b, a]
theorem k_ac (a b c d : Int32) : ((a + b) + c) + d = ((d + c) + b) + a := by
  rw [Int32.add_comm (a + b + c) d, Int32.add_comm (a + b) c, ← Int32.add_assoc, Int32.add_comm a b, ← Int32.add_assoc]
/-- the model's round over its row -/
theorem k_shift (nw v : Nat → Int32) (u x : Int32) (w : Nat → Int32) (t : Nat) (hu : u = kT1 w v t) (hx : x = u + kT2 v) :
    upd (upd (kSeg (kSeg nw v 0 8) (fun j => kSeg nw v 0 8 (j - 1)) 1 8) 4 (v 3 + u)) 0 x = kSeg nw (kRdn w v t) 0 8 := by
  funext j
  subst hx
  subst hu
  by_cases h0 : j = 0
  · subst h0
    rw [pk_us, kSeg_in (Nat.le_refl _) (by omega)]
    rfl
  · rw [pk_un h0]
    by_cases h4 : j = 4
    · subst h4
      rw [pk_us, kSeg_in (by omega) (by omega)]
      rfl
    · rw [pk_un h4]
      by_cases h8 : j < 8
      · rw [kSeg_in (by omega) h8, kSeg_in (by omega) h8]
        show kSeg nw v 0 8 (j - 1) = _
        rw [kSeg_in (Nat.zero_le _) (by omega)]
        unfold kRdn
        rw [if_neg h0, if_neg h4, if_pos h8]
      · rw [kSeg_out (by omega), kSeg_out (by omega), kSeg_out (by omega)]
