/-! ===== what the calls answer, as numbers ===== -/
theorem kUpN (f : Nat → Nat) (k x : Nat) : upd (fun j => nI (f j)) k (nI x) = (fun j => nI ((va_up f k x) j)) := by
  funext j
  by_cases e : j = k
  · subst e; rw [pk_us, va_up_self]
  · rw [pk_un e, va_up_ne _ _ e]
/-- what a call throws: the k-th that it names -/
def kEx (L : List String) : Nat → Option String
  | 0 => none
  | k + 1 => L[k]?
def kI : Nat → Int32
  | 0 => -1
  | k + 1 => nI k
theorem kI_dec (k : Nat) : nI k + Int32.ofInt (-1) = kI k := by
  cases k with
  | zero => decide
  | succ k => exact pk_m1 k
theorem kI_sub (k : Nat) : nI k - nI 1 = kI k := by
  cases k with
  | zero => decide
  | succ k =>
    show nI (k + 1) - 1 = nI k
    exact nI_pred k
theorem kI_lt {k : Nat} (h : k < 2147483648) : kI k < 0 ↔ k = 0 := by
  cases k with
  | zero => decide
  | succ k =>
    constructor
    · intro q; exact absurd q (nI_pos (by omega))
    · intro q; cases q
/-- the latest place with p: its number and 1, or 0 -/
def kLf (p : Nat → Bool) : Nat → Nat
  | 0 => 0
  | n + 1 => if p n = true then n + 1 else kLf p n
theorem kLf_t {p : Nat → Bool} {n : Nat} (h : p n = true) : kLf p (n + 1) = n + 1 := if_pos h
theorem kLf_f {p : Nat → Bool} {n : Nat} (h : ¬ p n = true) : kLf p (n + 1) = kLf p n := if_neg h
theorem kLf_le (p : Nat → Bool) : ∀ n, kLf p n ≤ n
  | 0 => Nat.le_refl _
  | n + 1 => by
    unfold kLf
    split
    · exact Nat.le_refl _
    · exact Nat.le_succ_of_le (kLf_le p n)
def kAny (p : Nat → Bool) : Nat → Bool
  | 0 => false
  | n + 1 => kAny p n || p n
theorem kAny_t {p : Nat → Bool} : ∀ {n : Nat} (k : Nat), k < n → p k = true → kAny p n = true
  | 0, k, hk, _ => absurd hk (Nat.not_lt_zero k)
  | n + 1, k, hk, h => by
    show (kAny p n || p n) = true
    rcases Nat.lt_succ_iff_lt_or_eq.mp hk with q | q
    · rw [kAny_t k q h]; rfl
    · rw [← q, h, Bool.or_true]
theorem kAny_f {p : Nat → Bool} : ∀ {n : Nat}, (∀ k, k < n → p k = false) → kAny p n = false
  | 0, _ => rfl
  | n + 1, h => by
    show (kAny p n || p n) = false
    rw [kAny_f (fun k hk => h k (by omega)), h n (Nat.lt_succ_self n)]; rfl
theorem kAny_of {p : Nat → Bool} {n : Nat} (h : kAny p n = false) {k : Nat} (hk : k < n) : p k = false := by
  cases e : p k with
  | false => rfl
  | true => rw [kAny_t k hk e] at h; cases h
theorem kAny_congr {p q : Nat → Bool} : ∀ {n : Nat}, (∀ k, k < n → p k = q k) → kAny p n = kAny q n
  | 0, _ => rfl
  | n + 1, h => by
    show (kAny p n || p n) = (kAny q n || q n)
    rw [kAny_congr (fun k hk => h k (by omega)), h n (Nat.lt_succ_self n)]
def kIsF (x : Int32) : Bool := decide (¬ x < 0 ∧ ¬ nI 20 ≤ x)
def kBit (x : Int32) (f : Nat) : Bool := decide (¬ ((x >>> (nI f &&& 31)) &&& nI 1) = 0)
def kSh (bg sp : Nat → Nat) (x y : Int64) (k : Nat) : Bool := decide (x < lN (sp k)) && decide (lN (bg k) < y)
def kSF (sp : Nat → Int64) (a b z : Nat) : Nat := if sp 0 = lN 0 then (if sp 1 = lN a ∧ sp 2 = lN b then (if sp 3 = lN z then 0 else 4) else 3) else 2
/-- n rows of a chain have the time -/
def kChn (cf ct : Nat → Int64) (t : Int64) : Nat → Bool
  | 0 => true
  | n + 1 => kChn cf ct t n && (decide (cf n ≤ t) && decide (t ≤ ct n))
theorem kChn_f {cf ct : Nat → Int64} {t : Int64} : ∀ {n : Nat} (k : Nat), k < n → (decide (cf k ≤ t) && decide (t ≤ ct k)) = false → kChn cf ct t n = false
  | 0, k, hk, _ => absurd hk (Nat.not_lt_zero k)
  | n + 1, k, hk, h => by
    show (kChn cf ct t n && _) = false
    rcases Nat.lt_succ_iff_lt_or_eq.mp hk with q | q
    · rw [kChn_f k q h]; rfl
    · rw [← q, h, Bool.and_false]
/-- whether a change of kind kd is allowed: kinds, level, whether its field is locked -/
def kMay (ak : Int32) (lv : Nat) (lk : Bool) (kd : Nat) : Bool := kBit ak kd && (decide (lv = 0 ∨ lv = 2 ∧ kd = 0 ∨ lv = 3 ∧ kd ≤ 1) && !(decide (kd = 0) && lk))
theorem k_lv : ∀ lv, lv < 4 → ∀ kd, kd < 4 → 0 < lv → ((nI kd ≤ nI lv - nI 2) ↔ kd + 2 ≤ lv) := by decide +kernel
/-- one of those from lo on -/
def kAnyR (p : Nat → Bool) (lo : Nat) : Nat → Bool
  | 0 => false
  | n + 1 => kAnyR p lo n || p (lo + n)
theorem kAnyR_t {p : Nat → Bool} {lo : Nat} : ∀ {n : Nat} (k : Nat), k < n → p (lo + k) = true → kAnyR p lo n = true
  | 0, k, hk, _ => absurd hk (Nat.not_lt_zero k)
  | n + 1, k, hk, h => by
    show (kAnyR p lo n || p (lo + n)) = true
    rcases Nat.lt_succ_iff_lt_or_eq.mp hk with q | q
    · rw [kAnyR_t k q h]; rfl
    · rw [← q, h, Bool.or_true]
theorem kAnyR_f {p : Nat → Bool} {lo : Nat} : ∀ {n : Nat}, (∀ k, k < n → p (lo + k) = false) → kAnyR p lo n = false
  | 0, _ => rfl
  | n + 1, h => by
    show (kAnyR p lo n || p (lo + n)) = false
    rw [kAnyR_f (fun k hk => h k (by omega)), h n (Nat.lt_succ_self n)]; rfl
/-- an order with n put at place q -/
def kIns (od : Nat → Nat) (n q : Nat) : Nat → Nat := fun j => if j < q then od j else if j = q then n else if j ≤ n then od (j - 1) else od j
/-! codes: which of the exceptions that a call names, or 0 -/
def kcAdd (sz : Nat) : Nat := if sz = 1500 then 1 else 0
def kcPoke (sz : Nat) (x : Int64) : Nat := if x < lN 0 ∨ ¬ x < lN sz then 1 else 0
def kcPlace (sz pn : Nat) (bg sp : Nat → Nat) (x y : Int64) : Nat := if (x < lN 0 ∨ lN sz < y ∨ ¬ x < y) ∨ kAny (kSh bg sp x y) pn = true then 1 else if pn = 8 then 2 else 0
def kcSign (fr : Nat) (has : Bool) (cn ch : Nat) (x : Int32) (t : Int64) : Nat := if kIsF x = false ∨ t < lN 0 then 1 else if fr = 0 ∨ has = true then 2 else if cn = 8 ∨ 0 < cn ∧ ch = 40 then 3 else 0
def k01 (x : Int32) : Bool := decide (¬ x < 0 ∧ ¬ nI 1 < x)
def kcSpan (i side : Int32) : Nat := if k01 i = true ∧ k01 side = true then 0 else 2
def kcTell (i : Int32) : Nat := if k01 i = true then 0 else 2
def kcChain (x y : Int64) (cl : Nat) : Nat := if y < x then 2 else if cl = 4 then 3 else 0
def kIsK (k : Int32) : Bool := decide (¬ k < 0 ∧ ¬ nI 4 ≤ k)
def kcChange (k f : Int32) (ch : Nat) : Nat := if kIsK k = true ∧ kIsF f = true then (if ch = 40 then 2 else 0) else 1
def kcLock (f : Int32) : Nat := if kIsF f = true then 0 else 2
def kcCert (v : Int32) : Nat := if v < nI 1 ∨ nI 3 < v then 2 else 0
def kcSince (i what : Int32) (many : Nat) : Nat := if i = -1 then 0 else if i < 0 ∨ nI many ≤ i ∨ what < 0 ∨ nI 2 < what then 2 else 0
def kcDig (i : Int32) : Nat := if i < 0 ∨ ¬ i < nI 32 then 2 else 0
def kcStamp (t : Int64) (sn : Nat) : Nat := if t < lN 0 then 1 else if sn = 10 then 2 else 0
def kcStd (i what : Int32) (sn : Nat) : Nat := if i = -1 then 0 else if i < 0 ∨ nI sn ≤ i ∨ what < 0 ∨ nI 3 < what then 1 else 0
theorem kNat_lt {x : Int32} {n : Nat} (hn : n < 2147483648) (h0 : ¬ x < 0) (h1 : ¬ nI n ≤ x) : ∃ j : Nat, j < n ∧ x = nI j := by
  rcases pk_ix x hn with h | h | h
  · exact absurd h h0
  · exact absurd h h1
  · exact h
theorem kNat_le {x : Int32} {n : Nat} (hn : n + 1 < 2147483648) (h0 : ¬ x < 0) (h1 : ¬ nI n < x) : ∃ j : Nat, j ≤ n ∧ x = nI j := by
  rcases pk_ix x hn with h | h | ⟨j, h, e⟩
  · exact absurd h h0
  · refine absurd ?_ h1
    rw [Int32.lt_iff_toInt_lt, nI_toInt (by omega)]
    rw [Int32.le_iff_toInt_le, nI_toInt hn] at h
    omega
  · exact ⟨j, by omega, e⟩
theorem kNatL {x : Int64} {n : Nat} (hn : n < 2147483648) (h0 : ¬ x < lN 0) (h1 : x < lN n) : ∃ j : Nat, j < n ∧ x = lN j := by
  obtain ⟨j, hj, e⟩ := pk_lOf (x := x) h0
  subst e
  exact ⟨j, (pk_lLT hj (by omega)).mp h1, rfl⟩
theorem kNatLe {x : Int64} {n : Nat} (hn : n < 2147483648) (h0 : ¬ x < lN 0) (h1 : ¬ lN n < x) : ∃ j : Nat, j ≤ n ∧ x = lN j := by
  obtain ⟨j, hj, e⟩ := pk_lOf (x := x) h0
  subst e
  exact ⟨j, Nat.not_lt.mp (fun q => h1 ((pk_lLT (by omega) hj).mpr q)), rfl⟩
def kL (x : Int64) : Nat := x.toInt.toNat
theorem kL_lN {j : Nat} (h : j < 2147483648) : kL (lN j) = j := by unfold kL; rw [lN_toInt h]; rfl
def kN (x : Int32) : Nat := x.toNatClampNeg
theorem kN_nI {j : Nat} (h : j < 2147483648) : kN (nI j) = j := nI_clamp h
/-- every method that returns is one that returns or throws -/
theorem kX_of {S : Type} {l : Launch} {y : MethodName} {wd : List Cond} {rm : Room} {mc ms : Nat} {D : va_G} {av : List Value} {ws : va_W} {o : S → Option Value} {ws' : S → va_W} {po : S → Prop} {thr : Option String} (ht : thr = none) (h : kM l y wd rm mc ms D av ws o ws' po) : kX l y wd rm mc ms D av ws thr o ws' po := by
  intro sz p e ha hc hk s m args below hf happ hP hC
  obtain ⟨k, oc, h1, h2, h3, hQ⟩ := h sz p e ha hc hk s m args below hf happ hP hC
  exact ⟨k, oc, h1, h2, h3, Or.inl ⟨⟨ht, hQ.1⟩, hQ.2⟩⟩
def kLkF (lf : Int32) (b : Nat) : Int32 := if kBit lf b = true then lf else lf ||| (nI 1 <<< (nI b &&& 31))
def kCtL (i lv v : Nat) : Nat := if i = 0 ∧ lv = 0 then v else lv
def kaSince (x w : Int32) (ch cb : Nat) (kd fd : Nat → Nat) (ak : Int32) (lv : Nat) (lk : Nat → Bool) : Int32 := if x = -1 then nI (ch - cb) else if w = nI 0 then nI (kd (cb + kN x)) else if w = nI 1 then nI (fd (cb + kN x)) else kB (kMay ak lv (lk (fd (cb + kN x))) (kd (cb + kN x)))
def kHo (sf : Nat) (eq9 : Bool) (ve : Int32) (chn bar : Bool) : Nat := if sf = 0 then (if eq9 = true then (if ve = 0 then 6 else if chn = true then (if bar = true then 8 else 1) else 7) else 5) else sf
theorem kSF_le (ss : Nat → Int64) (a b z : Nat) : kSF ss a b z ≤ 4 := by
  unfold kSF
  repeat' split
  all_goals omega
def kaStd (x w : Int32) (sn : Nat) (od : Nat → Nat) (tm : Nat → Int64) (ts : Nat → Nat) (good : Bool) : Int64 := if x = -1 then lN sn else if w = nI 0 then lN (od (kN x)) else if w = nI 1 then tm (od (kN x)) else if w = nI 2 then lN (ts (od (kN x))) else lN good.toNat
