/-! ===== worlds: pools of cells ===== -/
theorem kp_ix {E E' : va_W} (N : Nat) (is : List Nat) (hN : E.length = N) (hp : is.isPerm (List.range N) = true) (h : is.map (fun i => E[i]?) = E'.map some) : E.Perm E' := kp_idx is (by rw [hN]; exact hp) h
/-- all of a pool but the one at i -/
def kOt (n i : Nat) (f : Nat → va_W) : va_W := ((List.range n).filter (fun k => k != i)).flatMap f
theorem kFl_congr {f g : Nat → va_W} : ∀ {l : List Nat}, (∀ k ∈ l, g k = f k) → l.flatMap g = l.flatMap f
  | [], _ => rfl
  | a :: t, h => by rw [List.flatMap_cons, List.flatMap_cons, h a List.mem_cons_self, kFl_congr (fun k hk => h k (List.mem_cons_of_mem _ hk))]
theorem kRange_perm {i : Nat} : ∀ {n : Nat}, i < n → (List.range n).Perm (i :: (List.range n).filter (fun k => k != i))
  | 0, h => absurd h (Nat.not_lt_zero i)
  | n + 1, h => by
    rw [List.range_succ, List.filter_append]
    by_cases e : i = n
    · subst e
      have h1 : (List.range i).filter (fun k => k != i) = List.range i := List.filter_eq_self.mpr (fun k hk => by
        have := List.mem_range.mp hk
        simp only [bne_iff_ne, ne_eq]
        omega)
      have h2 : [i].filter (fun k => k != i) = [] := by simp
      rw [h1, h2, List.append_nil]
      exact List.perm_append_singleton i (List.range i)
    · have h2 : [n].filter (fun k => k != i) = [n] := by simp [Ne.symm e]
      rw [h2]
      exact (kRange_perm (n := n) (by omega)).append_right [n]
theorem kOt_perm {n i : Nat} (f : Nat → va_W) (hi : i < n) : ((List.range n).flatMap f).Perm (f i ++ kOt n i f) := by
  have h2 := (kRange_perm hi).flatMap_right f
  rw [List.flatMap_cons] at h2
  exact h2
theorem kOt_congr {n i : Nat} {f g : Nat → va_W} (h : ∀ k, k < n → k ≠ i → g k = f k) : kOt n i g = kOt n i f := by
  unfold kOt
  refine kFl_congr (fun k hk => ?_)
  rw [List.mem_filter] at hk
  exact h k (List.mem_range.mp hk.1) (by simpa using hk.2)
theorem kFm_congr {n : Nat} {f g : Nat → va_W} (h : ∀ k, k < n → g k = f k) : (List.range n).flatMap g = (List.range n).flatMap f := kFl_congr (fun k hk => h k (List.mem_range.mp hk))
theorem kFm_succ {n : Nat} {f g : Nat → va_W} (h : ∀ k, k < n → g k = f k) : (List.range (n + 1)).flatMap g = (List.range n).flatMap f ++ g n := by
  rw [List.range_succ, List.flatMap_append, kFm_congr h, List.flatMap_cons, List.flatMap_nil, List.append_nil]
theorem kw_3 (a b c : va_W) : (a ++ (b ++ c)).Perm ((a ++ c) ++ b) := by
  rw [List.append_assoc]
  exact List.Perm.append_left a List.perm_append_comm
theorem kw_in {B O Pw cm : va_W} (h : B.Perm (Pw ++ cm)) : (B ++ O).Perm ((Pw ++ O) ++ cm) := by
  refine (h.append_right O).trans ?_
  rw [List.append_assoc]
  exact kw_3 Pw cm O
theorem kw_out {B O Pw cm : va_W} (h : B.Perm (Pw ++ cm)) : ((Pw ++ O) ++ cm).Perm (B ++ O) := (kw_in h).symm
theorem kw_inS {B R Pw cm : va_W} {f : Nat → va_W} {n i : Nat} (hi : i < n) (h : (B ++ f i).Perm (Pw ++ cm)) : (B ++ ((List.range n).flatMap f ++ R)).Perm ((Pw ++ (kOt n i f ++ R)) ++ cm) := by
  refine List.Perm.trans ?_ (kw_in h)
  rw [List.append_assoc, ← List.append_assoc (f i)]
  exact List.Perm.append_left B ((kOt_perm f hi).append_right R)
theorem kw_outS {B R Pw cm : va_W} {f g : Nat → va_W} {n i : Nat} (hi : i < n) (hg : ∀ k, k < n → k ≠ i → g k = f k) (h : (B ++ g i).Perm (Pw ++ cm)) : ((Pw ++ (kOt n i f ++ R)) ++ cm).Perm (B ++ ((List.range n).flatMap g ++ R)) := by
  rw [← kOt_congr hg]
  exact (kw_inS hi h).symm
theorem kw_inR {B P Pw cm : va_W} {f : Nat → va_W} {n i : Nat} (hi : i < n) (h : (B ++ f i).Perm (Pw ++ cm)) : (B ++ (P ++ (List.range n).flatMap f)).Perm ((Pw ++ (kOt n i f ++ P)) ++ cm) := List.Perm.trans (List.Perm.append_left B List.perm_append_comm) (kw_inS hi h)
theorem kw_outR {B P Pw cm : va_W} {f g : Nat → va_W} {n i : Nat} (hi : i < n) (hg : ∀ k, k < n → k ≠ i → g k = f k) (h : (B ++ g i).Perm (Pw ++ cm)) : ((Pw ++ (kOt n i f ++ P)) ++ cm).Perm (B ++ (P ++ (List.range n).flatMap g)) := by
  rw [← kOt_congr hg]
  exact (kw_inR hi h).symm
theorem kw_outN {B R Pw cm : va_W} {f g : Nat → va_W} {n : Nat} (hg : ∀ k, k < n → g k = f k) (h : (B ++ g n).Perm (Pw ++ cm)) : ((Pw ++ ((List.range n).flatMap f ++ R)) ++ cm).Perm (B ++ ((List.range (n + 1)).flatMap g ++ R)) := by
  refine (kw_in h).symm.trans ?_
  rw [kFm_succ hg, List.append_assoc, List.append_assoc]
  refine List.Perm.append_left B ?_
  rw [← List.append_assoc, ← List.append_assoc]
  exact List.perm_append_comm.append_right R
theorem kuL_s (f : Nat → Int64) (k : Nat) (x : Int64) : vp_updL f k x k = x := if_pos rfl
theorem kuL_n {f : Nat → Int64} {k j : Nat} {x : Int64} (h : j ≠ k) : vp_updL f k x j = f j := if_neg h
theorem kLf_congr {p q : Nat → Bool} : ∀ {n : Nat}, (∀ k, k < n → p k = q k) → kLf p n = kLf q n
  | 0, _ => rfl
  | n + 1, h => by
    have h1 := kLf_congr (n := n) (p := p) (q := q) (fun k hk => h k (by omega))
    unfold kLf
    rw [h1, h n (Nat.lt_succ_self n)]
theorem kSF_congr {x y : Nat → Int64} (h : ∀ j, j < 4 → x j = y j) (a b z : Nat) : kSF x a b z = kSF y a b z := by
  unfold kSF
  rw [h 0 (by omega), h 1 (by omega), h 2 (by omega), h 3 (by omega)]
theorem kChn_congr {a b a' b' : Nat → Int64} (t : Int64) : ∀ {n : Nat}, (∀ k, k < n → a k = a' k ∧ b k = b' k) → kChn a b t n = kChn a' b' t n
  | 0, _ => rfl
  | n + 1, h => by
    show (kChn a b t n && _) = (kChn a' b' t n && _)
    rw [kChn_congr t (fun k hk => h k (by omega)), (h n (Nat.lt_succ_self n)).1, (h n (Nat.lt_succ_self n)).2]
theorem kAnyR_congr {p q : Nat → Bool} {lo : Nat} : ∀ {n : Nat}, (∀ k, k < n → p (lo + k) = q (lo + k)) → kAnyR p lo n = kAnyR q lo n
  | 0, _ => rfl
  | n + 1, h => by
    show (kAnyR p lo n || p (lo + n)) = (kAnyR q lo n || q (lo + n))
    rw [kAnyR_congr (fun k hk => h k (by omega)), h n (Nat.lt_succ_self n)]
theorem kcSign_eq {fr : Nat} {h1 h2 : Bool} {cn ch : Nat} {x : Int32} {t : Int64} (h : kIsF x = true → h1 = h2) : kcSign fr h1 cn ch x t = kcSign fr h2 cn ch x t := by
  cases e : kIsF x with
  | true => rw [h e]
  | false =>
    unfold kcSign
    rw [if_pos (Or.inl e), if_pos (Or.inl e)]
theorem kIsF_j {x : Int32} (h : kIsF x = true) : ∃ j, j < 20 ∧ x = nI j := by
  have h := of_decide_eq_true h
  exact kNat_lt (by omega) h.1 h.2
theorem kIsK_j {x : Int32} (h : kIsK x = true) : ∃ j, j < 4 ∧ x = nI j := by
  have h := of_decide_eq_true h
  exact kNat_lt (by omega) h.1 h.2
theorem k01_j {x : Int32} (h : k01 x = true) : ∃ j, j ≤ 1 ∧ x = nI j := by
  have h := of_decide_eq_true h
  exact kNat_le (by omega) h.1 h.2
theorem kNo {x : Int32} {n : Nat} (hn : n < 2147483648) : (x < 0 ∨ nI n ≤ x) ∨ ∃ j, j < n ∧ x = nI j := by
  rcases pk_ix x hn with h | h | h
  · exact Or.inl (Or.inl h)
  · exact Or.inl (Or.inr h)
  · exact Or.inr h
theorem kNo_f {x : Int32} {n a : Nat} (hn : n < 2147483648) (h : x < 0 ∨ nI n ≤ x) (e : x = nI a) (ha : a < n) : False := by
  subst e
  rcases h with h | h
  · exact nI_pos (by omega) h
  · rw [nI_leI (by omega) (by omega)] at h
    omega
def kQ5 (a b c d e : Nat) : Nat → Nat := fun j => match j with
  | 0 => a
  | 1 => b
  | 2 => c
  | 3 => d
  | _ => e
theorem kcAdd_le (sz : Nat) : kcAdd sz ≤ 1 := by unfold kcAdd; split <;> omega
theorem kcPoke_le (sz : Nat) (x : Int64) : kcPoke sz x ≤ 1 := by unfold kcPoke; split <;> omega
theorem kcPlace_le (sz pn : Nat) (bg sp : Nat → Nat) (x y : Int64) : kcPlace sz pn bg sp x y ≤ 2 := by unfold kcPlace; repeat' split
                                                                                                       all_goals omega
theorem kcSign_le (fr : Nat) (has : Bool) (cn ch : Nat) (x : Int32) (t : Int64) : kcSign fr has cn ch x t ≤ 3 := by
  unfold kcSign
  repeat' split
  all_goals omega
theorem kcSpan_le (x y : Int32) : kcSpan x y ≤ 2 := by unfold kcSpan; split <;> omega
theorem kcTell_le (x : Int32) : kcTell x ≤ 2 := by unfold kcTell; split <;> omega
theorem kcChain_le (x y : Int64) (cl : Nat) : kcChain x y cl ≤ 3 := by
  unfold kcChain
  repeat' split
  all_goals omega
theorem kcChange_le (k f : Int32) (ch : Nat) : kcChange k f ch ≤ 2 := by
  unfold kcChange
  repeat' split
  all_goals omega
theorem kcLock_le (f : Int32) : kcLock f ≤ 2 := by unfold kcLock; split <;> omega
theorem kcCert_le (f : Int32) : kcCert f ≤ 2 := by unfold kcCert; split <;> omega
theorem kcSince_le (x w : Int32) (n : Nat) : kcSince x w n ≤ 2 := by
  unfold kcSince
  repeat' split
  all_goals omega
theorem kcDig_le (x : Int32) : kcDig x ≤ 2 := by unfold kcDig; split <;> omega
theorem kcStamp_le (t : Int64) (n : Nat) : kcStamp t n ≤ 2 := by
  unfold kcStamp
  repeat' split
  all_goals omega
theorem kcStd_le (x w : Int32) (n : Nat) : kcStd x w n ≤ 1 := by
  unfold kcStd
  repeat' split
  all_goals omega
theorem kcAdd_ok {sz : Nat} (h : kcAdd sz = 0) : sz ≠ 1500 := fun e => by
  unfold kcAdd at h
  rw [if_pos e] at h
  cases h
theorem kcPlace_ok {sz pn : Nat} {bg sp : Nat → Nat} {x y : Int64} (hsz : sz ≤ 1500) (h : kcPlace sz pn bg sp x y = 0) : kL x ≤ kL y ∧ kL y ≤ sz ∧ pn ≠ 8 := by
  unfold kcPlace at h
  by_cases c1 : (x < lN 0 ∨ lN sz < y ∨ ¬ x < y) ∨ kAny (kSh bg sp x y) pn = true
  · rw [if_pos c1] at h; cases h
  · rw [if_neg c1] at h
    have hx : ¬ x < lN 0 := fun q => c1 (Or.inl (Or.inl q))
    have hy : ¬ lN sz < y := fun q => c1 (Or.inl (Or.inr (Or.inl q)))
    have hxy : x < y := Decidable.not_not.mp (fun q => c1 (Or.inl (Or.inr (Or.inr q))))
    have hy0 : ¬ y < lN 0 := fun q => by
      rw [kI64_lt] at hx hxy q
      omega
    obtain ⟨j, hj, e⟩ := kNatLe (n := sz) (by omega) hy0 hy
    have hxs : x < lN (sz + 1) := by
      rw [kI64_lt] at hx hxy hy ⊢
      rw [lN_toInt (by omega)] at hy ⊢
      omega
    obtain ⟨a, ha, e2⟩ := kNatL (n := sz + 1) (by omega) hx hxs
    subst e e2
    rw [lN_lt (by omega) (by omega)] at hxy
    rw [kL_lN (by omega), kL_lN (by omega)]
    refine ⟨by omega, hj, fun e => ?_⟩
    rw [if_pos e] at h
    cases h
theorem kcSpan_ok {x y : Int32} (h : kcSpan x y = 0) : kN x ≤ 1 ∧ kN y ≤ 1 := by
  unfold kcSpan at h
  by_cases c : k01 x = true ∧ k01 y = true
  · obtain ⟨a, ha, rfl⟩ := k01_j c.1
    obtain ⟨b, hb, rfl⟩ := k01_j c.2
    rw [kN_nI (by omega), kN_nI (by omega)]
    exact ⟨ha, hb⟩
  · rw [if_neg c] at h; cases h
theorem kcTell_ok {x : Int32} (h : kcTell x = 0) : kN x ≤ 1 := by
  unfold kcTell at h
  by_cases c : k01 x = true
  · obtain ⟨a, ha, rfl⟩ := k01_j c
    rw [kN_nI (by omega)]
    exact ha
  · rw [if_neg c] at h; cases h
theorem kcChain_ok {x y : Int64} {cl : Nat} (h : kcChain x y cl = 0) : cl ≠ 4 := fun e => by
  unfold kcChain at h
  by_cases c : y < x
  · rw [if_pos c] at h; cases h
  · rw [if_neg c, if_pos e] at h; cases h
theorem kcChange_ok {k f : Int32} {ch : Nat} (h : kcChange k f ch = 0) : kN k < 4 ∧ kN f < 20 ∧ ch ≠ 40 := by
  unfold kcChange at h
  by_cases c : kIsK k = true ∧ kIsF f = true
  · obtain ⟨a, ha, rfl⟩ := kIsK_j c.1
    obtain ⟨b, hb, rfl⟩ := kIsF_j c.2
    rw [kN_nI (by omega), kN_nI (by omega)]
    refine ⟨ha, hb, fun e => ?_⟩
    rw [if_pos c, if_pos e] at h; cases h
  · rw [if_neg c] at h; cases h
theorem kcLock_ok {f : Int32} (h : kcLock f = 0) : kN f < 20 := by
  unfold kcLock at h
  by_cases c : kIsF f = true
  · obtain ⟨b, hb, rfl⟩ := kIsF_j c
    rw [kN_nI (by omega)]
    exact hb
  · rw [if_neg c] at h; cases h
theorem kcCert_ok {u : Int32} (h : kcCert u = 0) : kN u ≤ 3 := by
  unfold kcCert at h
  by_cases c : u < nI 1 ∨ nI 3 < u
  · rw [if_pos c] at h; cases h
  · have h0 : ¬ u < 0 := fun q => c (Or.inl (by rw [Int32.lt_iff_toInt_lt] at q ⊢; rw [nI_toInt (by omega)]; have e0 : (0 : Int32).toInt = 0 := rfl; rw [e0] at q; omega))
    obtain ⟨j, hj, rfl⟩ := kNat_le (n := 3) (by omega) h0 (fun q => c (Or.inr q))
    rw [kN_nI (by omega)]
    exact hj
theorem kcDig_ok {x : Int32} (h : kcDig x = 0) : kN x < 32 := by
  unfold kcDig at h
  by_cases c : x < 0 ∨ ¬ x < nI 32
  · rw [if_pos c] at h; cases h
  · obtain ⟨j, hj, rfl⟩ := kNat_lt (n := 32) (x := x) (by omega) (fun q => c (Or.inl q)) (fun q => c (Or.inr (Int32.not_lt.mpr q)))
    rw [kN_nI (by omega)]
    exact hj
theorem kcStamp_ok {t : Int64} {n : Nat} (h : kcStamp t n = 0) : n ≠ 10 := fun e => by
  unfold kcStamp at h
  by_cases c : t < lN 0
  · rw [if_pos c] at h; cases h
  · rw [if_neg c, if_pos e] at h; cases h
theorem kMay_congr {ak : Int32} {lv kd : Nat} {a b : Bool} (h : a = b) : kMay ak lv a kd = kMay ak lv b kd := by rw [h]
theorem kaSince_congr {x w : Int32} {ch cb : Nat} {kd fd : Nat → Nat} {ak : Int32} {lv : Nat} {k1 k2 : Nat → Bool} (hch : ch ≤ 40) (hc : kcSince x w (ch - cb) = 0) (h : ∀ j, j < ch → k1 (fd j) = k2 (fd j)) : kaSince x w ch cb kd fd ak lv k1 = kaSince x w ch cb kd fd ak lv k2 := by
  unfold kaSince
  by_cases c : x = -1
  · rw [if_pos c, if_pos c]
  · unfold kcSince at hc
    rw [if_neg c] at hc
    by_cases d : x < 0 ∨ nI (ch - cb) ≤ x ∨ w < 0 ∨ nI 2 < w
    · rw [if_pos d] at hc; cases hc
    · obtain ⟨j, hj, rfl⟩ := kNat_lt (n := ch - cb) (x := x) (by omega) (fun q => d (Or.inl q)) (fun q => d (Or.inr (Or.inl q)))
      rw [kN_nI (by omega), h (cb + j) (by omega)]
theorem k_ndn {P : Prop} {h1 : Decidable P} {h2 : Decidable (¬ P)} {b : Bool} (h : b = @decide (¬ P) h2) : (!b) = @decide P h1 := by
  subst h
  by_cases c : P
  · rw [@decide_eq_true P h1 c, @decide_eq_false _ h2 (fun q => q c)]; rfl
  · rw [@decide_eq_false P h1 c, @decide_eq_true _ h2 c]; rfl
theorem kHo_congr {a a' : Nat} {b b' : Bool} {v : Int32} {c c' d d' : Bool} (h1 : a = a') (h2 : b = b') (h3 : c = c') (h4 : d = d') : kHo a b v c d = kHo a' b' v c' d' := by rw [h1, h2, h3, h4]
theorem kaStd_congr {x w : Int32} {sn : Nat} {od : Nat → Nat} {tm : Nat → Int64} {ts : Nat → Nat} {g g' : Bool} (h : ¬ x = -1 → g = g') : kaStd x w sn od tm ts g = kaStd x w sn od tm ts g' := by
  unfold kaStd
  by_cases c : x = -1
  · rw [if_pos c, if_pos c]
  · rw [h c]
theorem kcStd_no {x w : Int32} {sn : Nat} (h : x < 0 ∨ nI sn ≤ x) (hc : kcStd x w sn = 0) : x = -1 := by
  unfold kcStd at hc
  by_cases c : x = -1
  · exact c
  · rw [if_neg c, if_pos (h.elim Or.inl (fun q => Or.inr (Or.inl q)))] at hc
    cases hc
