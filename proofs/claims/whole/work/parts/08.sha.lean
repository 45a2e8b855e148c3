/-! ===== SHA-256, as numbers ===== -/
def kB (b : Bool) : Int32 := nI b.toNat
theorem kB_t {b : Bool} (h : b = true) : nI 1 = kB b := by rw [h]; rfl
theorem kB_f {b : Bool} (h : b = false) : nI 0 = kB b := by rw [h]; rfl
theorem kB_e0 {b : Bool} : kB b = 0 ↔ b = false := by cases b <;> decide
theorem kB_n0 {b : Bool} : ¬ kB b = 0 ↔ b = true := by cases b <;> decide
theorem kB_z (b : Bool) : kB b = 0 ∨ kB b = 1 := by cases b <;> decide
theorem kB_nar (b : Bool) : narrow .boolean (.int (kB b)) = .int (kB b) := by cases b <;> rfl
theorem kn_dec {n : Nat} (h : 1 ≤ n) : nI n + Int32.ofInt (-1) = nI (n - 1) := by
  have e : nI n = nI (n - 1 + 1) := by rw [Nat.sub_add_cancel h]
  rw [e]
  exact pk_m1 _
/-- f, but g from lo on before hi -/
def kSeg (f g : Nat → Int32) (lo hi : Nat) : Nat → Int32 := fun j => if lo ≤ j ∧ j < hi then g j else f j
theorem kSeg_0 (f g : Nat → Int32) (lo : Nat) : kSeg f g lo lo = f := by
  funext j
  exact if_neg (by omega)
theorem kSeg_in {f g : Nat → Int32} {lo hi j : Nat} (h1 : lo ≤ j) (h2 : j < hi) : kSeg f g lo hi j = g j := if_pos ⟨h1, h2⟩
theorem kSeg_out {f g : Nat → Int32} {lo hi j : Nat} (h : j < lo ∨ hi ≤ j) : kSeg f g lo hi j = f j := if_neg (by omega)
theorem kSeg_up {f g : Nat → Int32} {lo k : Nat} {x : Int32} (h : lo ≤ k) (hx : x = g k) : upd (kSeg f g lo k) k x = kSeg f g lo (k + 1) := by
  funext j
  by_cases e : j = k
  · subst e
    rw [pk_us, kSeg_in h (Nat.lt_succ_self _), hx]
  · rw [pk_un e]
    by_cases q : lo ≤ j ∧ j < k
    · rw [kSeg_in q.1 q.2, kSeg_in q.1 (by omega)]
    · rw [kSeg_out (by omega), kSeg_out (by omega)]
theorem kSeg_dn {f g : Nat → Int32} {k hi : Nat} {x : Int32} (h : k < hi) (hx : x = g k) : upd (kSeg f g (k + 1) hi) k x = kSeg f g k hi := by
  funext j
  by_cases e : j = k
  · subst e
    rw [pk_us, kSeg_in (Nat.le_refl _) h, hx]
  · rw [pk_un e]
    by_cases q : k + 1 ≤ j ∧ j < hi
    · rw [kSeg_in q.1 q.2, kSeg_in (by omega) q.2]
    · rw [kSeg_out (by omega), kSeg_out (by omega)]
def kShr (x n : Int32) : Int32 := (x.toUInt32 >>> (n.toUInt32 &&& Int32.toUInt32 31)).toInt32
def kRot (x n : Int32) : Int32 := kShr x n ||| (x <<< ((nI 32 - n) &&& 31))
def kSg0 (x : Int32) : Int32 := (kRot x (nI 7) ^^^ kRot x (nI 18)) ^^^ kShr x (nI 3)
def kSg1 (x : Int32) : Int32 := (kRot x (nI 17) ^^^ kRot x (nI 19)) ^^^ kShr x (nI 10)
def kBs1 (e : Int32) : Int32 := (kRot e (nI 6) ^^^ kRot e (nI 11)) ^^^ kRot e (nI 25)
def kBs0 (a : Int32) : Int32 := (kRot a (nI 2) ^^^ kRot a (nI 13)) ^^^ kRot a (nI 22)
def kCh (e f g : Int32) : Int32 := (e &&& f) ^^^ ((e ^^^ (-1)) &&& g)
def kMj (a b c : Int32) : Int32 := ((a &&& b) ^^^ (a &&& c)) ^^^ (b &&& c)
def kNw (w : Nat → Int32) (t : Nat) : Int32 := ((kSg1 (w (t - 2)) + w (t - 7)) + kSg0 (w (t - 15))) + w (t - 16)
/-- the schedule, k words of it reckoned -/
def kSchN (w : Nat → Int32) : Nat → (Nat → Int32)
  | 0 => w
  | k + 1 => upd (kSchN w k) (16 + k) (kNw (kSchN w k) (16 + k))
def kT1 (w v : Nat → Int32) (t : Nat) : Int32 := (((v 7 + kBs1 (v 4)) + kCh (v 4) (v 5) (v 6)) + kRd t) + w t
def kT2 (v : Nat → Int32) : Int32 := kBs0 (v 0) + kMj (v 0) (v 1) (v 2)
def kRdn (w v : Nat → Int32) (t : Nat) : Nat → Int32 := fun j => if j = 0 then kT1 w v t + kT2 v else if j = 4 then v 3 + kT1 w v t else if j < 8 then v (j - 1) else v j
/-- t rounds -/
def kRN (w v : Nat → Int32) : Nat → (Nat → Int32)
  | 0 => v
  | t + 1 => kRdn w (kRN w v t) t
def kWd (pb : Nat → Int32) (i : Nat) : Int32 := (((pb i) <<< ((nI 24) &&& 31) ||| (pb (i + 1)) <<< ((nI 16) &&& 31)) ||| (pb (i + 2)) <<< ((nI 8) &&& 31)) ||| pb (i + 3)
/-- a block's words -/
def kWs (pb : Nat → Int32) (b : Nat) : Nat → Int32 := kSchN (fun t => if t < 16 then kWd pb (64 * b + 4 * t) else 0) 48
def kBlks (pb : Nat → Int32) : Nat → (Nat → Int32)
  | 0 => kSt
  | b + 1 => fun j => kBlks pb b j + kRN (kWs pb b) (kBlks pb b) 64 j
/-- the bytes and what comes behind them -/
def kPad (mb : Nat → Int32) (n : Nat) : Nat → Int32 := fun j => if j < n then mb j else if j = n then 128 else if (n + 72) / 64 * 64 - 4 ≤ j then kShr (nI (n * 8)) (nI (8 * ((n + 72) / 64 * 64 - 1 - j))) &&& nI 255 else 0
def kSha (mb : Nat → Int32) (n : Nat) : Nat → Int32 := kBlks (kPad mb n) ((n + 72) / 64)
/-- the bytes up to z but those from a to b -/
def kMb (f : Nat → Int32) (a b : Nat) : Nat → Int32 := fun i => (if i < a then f i else f (i - a + b)) &&& nI 255
/-- eight words are the same -/
def kEq8 (f g : Nat → Int32) : Bool := (List.range 8).all (fun j => decide (f j = g j))
theorem kEq8_t {f g : Nat → Int32} (h : ∀ j, j < 8 → f j = g j) : kEq8 f g = true := List.all_eq_true.mpr fun j hj => decide_eq_true (h j (List.mem_range.mp hj))
theorem kEq8_of {f g : Nat → Int32} (h : kEq8 f g = true) : ∀ j, j < 8 → f j = g j := fun j hj => of_decide_eq_true (List.all_eq_true.mp h j (List.mem_range.mpr hj))
theorem kEq8_f {f g : Nat → Int32} (j : Nat) (hj : j < 8) (h : ¬ f j = g j) : kEq8 f g = false := by
  cases e : kEq8 f g with
  | false => rfl
  | true => exact absurd (kEq8_of e j hj) h
theorem kEq8_congr {f g f' g' : Nat → Int32} (hf : ∀ j, j < 8 → f j = f' j) (hg : ∀ j, j < 8 → g j = g' j) : kEq8 f g = kEq8 f' g' := by
  cases e : kEq8 f' g' with
  | true => exact kEq8_t fun j hj => by rw [hf j hj, hg j hj]; exact kEq8_of e j hj
  | false =>
    cases e2 : kEq8 f g with
    | false => rfl
    | true => rw [kEq8_t fun j hj => by rw [← hf j hj, ← hg j hj]; exact kEq8_of e2 j hj] at e; exact absurd e (by decide)
