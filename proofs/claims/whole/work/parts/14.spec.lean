/-! ===== what the calls answer, as numbers ===== -/
theorem kUpN (f : Nat → Nat) (k x : Nat) : upd (fun j => nI (f j)) k (nI x) = (fun j => nI ((va_up f k x) j)) := by
  funext j
  by_cases e : j = k
  · subst e; rw [pk_us, va_up_self]
  · rw [pk_un e, va_up_ne _ _ e]
/-- what a call throws: the k-th that it names -/
def kEx (L : List String) : Nat → Option String
  | 0 => none
  | k + 1 => L[k]?
def kI : Nat → Int32
  | 0 => -1
  | k + 1 => nI k
theorem kI_dec (k : Nat) : nI k + Int32.ofInt (-1) = kI k := by
  cases k with
  | zero => decide
  | succ k => exact pk_m1 k
theorem kI_sub (k : Nat) : nI k - nI 1 = kI k := by
  cases k with
  | zero => decide
  | succ k =>
    show nI (k + 1) - 1 = nI k
    exact nI_pred k
theorem kI_lt {k : Nat} (h : k < 2147483648) : kI k < 0 ↔ k = 0 := by
  cases k with
  | zero => decide
  | succ k =>
    constructor
    · intro q; exact absurd q (nI_pos (by omega))
    · intro q; cases q
/-- the latest place with p: its number and 1, or 0 -/
def kLf (p : Nat → Bool) : Nat → Nat
  | 0 => 0
  | n + 1 => if p n = true then n + 1 else kLf p n
theorem kLf_t {p : Nat → Bool} {n : Nat} (h : p n = true) : kLf p (n + 1) = n + 1 := if_pos h
theorem kLf_f {p : Nat → Bool} {n : Nat} (h : ¬ p n = true) : kLf p (n + 1) = kLf p n := if_neg h
theorem kLf_le (p : Nat → Bool) : ∀ n, kLf p n ≤ n
  | 0 => Nat.le_refl _
  | n + 1 => by
    unfold kLf
    split
    · exact Nat.le_refl _
    · exact Nat.le_succ_of_le (kLf_le p n)
def kAny (p : Nat → Bool) : Nat → Bool
  | 0 => false
  | n + 1 => kAny p n || p n
theorem kAny_t {p : Nat → Bool} : ∀ {n : Nat} (k : Nat), k < n → p k = true → kAny p n = true
  | 0, k, hk, _ => absurd hk (Nat.not_lt_zero k)
  | n + 1, k, hk, h => by
    show (kAny p n || p n) = true
    rcases Nat.lt_succ_iff_lt_or_eq.mp hk with q | q
    · rw [kAny_t k q h]; rfl
    · rw [← q, h, Bool.or_true]
theorem kAny_f {p : Nat → Bool} : ∀ {n : Nat}, (∀ k, k < n → p k = false) → kAny p n = false
  | 0, _ => rfl
  | n + 1, h => by
    show (kAny p n || p n) = false
    rw [kAny_f (fun k hk => h k (by omega)), h n (Nat.lt_succ_self n)]; rfl
theorem kAny_of {p : Nat → Bool} {n : Nat} (h : kAny p n = false) {k : Nat} (hk : k < n) : p k = false := by
  cases e : p k with
  | false => rfl
  | true => rw [kAny_t k hk e] at h; cases h
theorem kAny_congr {p q : Nat → Bool} : ∀ {n : Nat}, (∀ k, k < n → p k = q k) → kAny p n = kAny q n
  | 0, _ => rfl
  | n + 1, h => by
    show (kAny p n || p n) = (kAny q n || q n)
    rw [kAny_congr (fun k hk => h k (by omega)), h n (Nat.lt_succ_self n)]
def kIsF (x : Int32) : Bool := decide (¬ x < 0 ∧ ¬ nI 20 ≤ x)
def kBit (x : Int32) (f : Nat) : Bool := decide (¬ ((x >>> (nI f &&& 31)) &&& nI 1) = 0)
def kSh (bg sp : Nat → Nat) (x y : Int64) (k : Nat) : Bool := decide (x < lN (sp k)) && decide (lN (bg k) < y)
def kSF (sp : Nat → Int64) (a b z : Nat) : Nat := if sp 0 = lN 0 then (if sp 1 = lN a ∧ sp 2 = lN b then (if sp 3 = lN z then 0 else 4) else 3) else 2
/-- n rows of a chain have the time -/
def kChn (cf ct : Nat → Int64) (t : Int64) : Nat → Bool
  | 0 => true
  | n + 1 => kChn cf ct t n && (decide (cf n ≤ t) && decide (t ≤ ct n))
theorem kChn_f {cf ct : Nat → Int64} {t : Int64} : ∀ {n : Nat} (k : Nat), k < n → (decide (cf k ≤ t) && decide (t ≤ ct k)) = false → kChn cf ct t n = false
  | 0, k, hk, _ => absurd hk (Nat.not_lt_zero k)
  | n + 1, k, hk, h => by
    show (kChn cf ct t n && _) = false
    rcases Nat.lt_succ_iff_lt_or_eq.mp hk with q | q
    · rw [kChn_f k q h]; rfl
    · rw [← q, h, Bool.and_false]
/-- whether a change of kind kd is allowed: kinds, level, whether its field is locked -/
def kMay (ak : Int32) (lv : Nat) (lk : Bool) (kd : Nat) : Bool := kBit ak kd && (decide (lv = 0 ∨ lv = 2 ∧ kd = 0 ∨ lv = 3 ∧ kd ≤ 1) && !(decide (kd = 0) && lk))
theorem k_lv : ∀ lv, lv < 4 → ∀ kd, kd < 4 → 0 < lv → ((nI kd ≤ nI lv - nI 2) ↔ kd + 2 ≤ lv) := by decide +kernel
/-- one of those from lo on -/
def kAnyR (p : Nat → Bool) (lo : Nat) : Nat → Bool
  | 0 => false
  | n + 1 => kAnyR p lo n || p (lo + n)
theorem kAnyR_t {p : Nat → Bool} {lo : Nat} : ∀ {n : Nat} (k : Nat), k < n → p (lo + k) = true → kAnyR p lo n = true
  | 0, k, hk, _ => absurd hk (Nat.not_lt_zero k)
  | n + 1, k, hk, h => by
    show (kAnyR p lo n || p (lo + n)) = true
    rcases Nat.lt_succ_iff_lt_or_eq.mp hk with q | q
    · rw [kAnyR_t k q h]; rfl
    · rw [← q, h, Bool.or_true]
theorem kAnyR_f {p : Nat → Bool} {lo : Nat} : ∀ {n : Nat}, (∀ k, k < n → p (lo + k) = false) → kAnyR p lo n = false
  | 0, _ => rfl
  | n + 1, h => by
    show (kAnyR p lo n || p (lo + n)) = false
    rw [kAnyR_f (fun k hk => h k (by omega)), h n (Nat.lt_succ_self n)]; rfl
/-- an order with n put at place q -/
def kIns (od : Nat → Nat) (n q : Nat) : Nat → Nat := fun j => if j < q then od j else if j = q then n else if j ≤ n then od (j - 1) else od j
