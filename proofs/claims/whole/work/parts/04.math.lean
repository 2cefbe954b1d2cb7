theorem i0_toInt : (0 : Int32).toInt = 0 := by decide
theorem nI_nonneg (a : Nat) (ha : a < 2 ^ 31) : (0 : Int32) ≤ nI a := by rw [Int32.le_iff_toInt_le, nI_toInt ha, i0_toInt]; omega
theorem nI_of_le {x : Int32} (h : 0 ≤ x) : ∃ j : Nat, j < 2 ^ 31 ∧ x = nI j := nI_of (fun q => by rw [Int32.le_iff_toInt_le, i0_toInt] at h; rw [Int32.lt_iff_toInt_lt, i0_toInt] at q; omega)
theorem nx_pred (a : Nat) : nI (a + 1) - 1 = nI a := by rw [nI_succ, Int32.add_sub_cancel]
theorem in_iff {x : Int32} {n : Nat} (hn : n < 2 ^ 31) : (0 ≤ x ∧ x ≤ nI n) ↔ ∃ j : Nat, j ≤ n ∧ x = nI j := by
  constructor
  · rintro ⟨h1, h2⟩
    obtain ⟨j, hj, rfl⟩ := nI_of_le h1
    exact ⟨j, (nI_leI hj hn).mp h2, rfl⟩
  · rintro ⟨j, hj, rfl⟩
    exact ⟨nI_nonneg j (by omega), (nI_leI (by omega) hn).mpr hj⟩
theorem has_iff {x : Int32} {n : Nat} (hn : n < 2 ^ 31) : (0 ≤ x ∧ x ≤ nI n - 1) ↔ ∃ j : Nat, j < n ∧ x = nI j := by
  cases n with
  | zero =>
    constructor
    · rintro ⟨h1, h2⟩
      rw [Int32.le_iff_toInt_le] at h1 h2
      have e1 : (nI 0 - 1).toInt = -1 := by decide
      rw [e1] at h2
      rw [i0_toInt] at h1
      omega
    · rintro ⟨j, hj, -⟩
      omega
  | succ m =>
    rw [nx_pred, in_iff (by omega)]
    constructor
    · rintro ⟨j, hj, e⟩
      exact ⟨j, by omega, e⟩
    · rintro ⟨j, hj, e⟩
      exact ⟨j, by omega, e⟩
theorem has_t {a n : Nat} (h : a < n) (hn : n < 2 ^ 31) : 0 ≤ nI a ∧ nI a ≤ nI n - 1 := (has_iff hn).mpr ⟨a, h, rfl⟩
theorem has_nat {a n : Nat} (ha : a < 2 ^ 31) (hn : n < 2 ^ 31) (h : 0 ≤ nI a ∧ nI a ≤ nI n - 1) : a < n := by
  obtain ⟨j, hj, e⟩ := (has_iff hn).mp h
  rw [nI_eq ha (by omega)] at e
  omega
theorem nx_ge {a b : Nat} (ha : a < 2 ^ 31) (hb : b < 2 ^ 31) (h : nI a ≤ nI b) : a ≤ b := (nI_leI ha hb).mp h
theorem nx_nge {a b : Nat} (ha : a < 2 ^ 31) (hb : b < 2 ^ 31) (h : ¬ nI a ≤ nI b) : b < a := Nat.not_le.mp fun q => h ((nI_leI ha hb).mpr q)
theorem nx_nlt {a b : Nat} (ha : a < 2 ^ 31) (hb : b < 2 ^ 31) (h : ¬ nI a < nI b) : b ≤ a := Nat.not_lt.mp fun q => h ((nI_ltI ha hb).mpr q)
theorem nx_succ_ne {a : Nat} (h : a + 1 < 2 ^ 31) : ¬ nI a + 1 = 0 := fun e => by
  rw [← nI_succ] at e
  have : nI (a + 1) = nI 0 := e
  rw [nI_eq h (by decide)] at this
  omega
theorem min10 {a : Nat} (h : a ≤ 10) : (if nI a + 1 < 10 then nI a + 1 else 10) = nI (if a + 1 < 10 then a + 1 else 10) := by
  have e : (nI a + 1 < 10) = (nI (a + 1) < nI 10) := by rw [nI_succ]; rfl
  have e2 : (nI (a + 1) < nI 10) ↔ a + 1 < 10 := nI_ltI (by omega) (by decide)
  by_cases h9 : a + 1 < 10
  · rw [if_pos h9, if_pos (by rw [e]; exact e2.mpr h9), nI_succ]
  · rw [if_neg h9, if_neg (by rw [e]; exact fun q => h9 (e2.mp q))]; rfl
def asV (x : Int32) : Int32 := if x < 0 then 0 else if 99 < x then 99 else x
def landF (hi de ma : Nat → Int32) (lg dr : Int32) : Nat → Nat → Int32 → Int32 → Nat × Int32 × Int32
  | 0, a, _, sl => (a, 0, sl)
  | f + 1, a, v, sl => if asV (v - ma a) ≤ lg + de a then (a, asV (v - ma a), sl) else landF hi de ma lg dr f (a + 1) (asV (asV (v - ma a) + hi a - 2 * dr - 1)) (sl ||| 1 <<< (nI a &&& 31))
def turnF (n : Nat) (hi de ma : Nat → Int32) (lg st dr : Int32) (a : Nat) (v sl : Int32) : Nat × Int32 × Int32 :=
  if st ≤ v then landF hi de ma lg dr (n - (a + 1)) (a + 1) (asV (v - st + hi a - dr)) sl else (a, 0, sl)
def runF (n : Nat) (hi de ma : Nat → Int32) (lg st dr : Int32) : Nat → Nat → Int32 → Int32 → Int32 → Nat × Int32 × Int32 × Int32
  | 0, a, v, sl, c => (a, v, sl, c)
  | f + 1, a, v, sl, c => if 0 < v ∧ a < n then runF n hi de ma lg st dr f (turnF n hi de ma lg st dr a v sl).1 (turnF n hi de ma lg st dr a v sl).2.1 (turnF n hi de ma lg st dr a v sl).2.2 (c + 1) else (a, v, sl, c)
theorem landF_le {hi de ma : Nat → Int32} {lg dr : Int32} : ∀ (f a : Nat) (v sl : Int32), a ≤ (landF hi de ma lg dr f a v sl).1 ∧ (landF hi de ma lg dr f a v sl).1 ≤ a + f
  | 0, a, v, sl => ⟨Nat.le_refl _, Nat.le_refl _⟩
  | f + 1, a, v, sl => by
    unfold landF
    split
    · exact ⟨Nat.le_refl _, Nat.le_add_right _ _⟩
    · have := landF_le f (a + 1) (asV (asV (v - ma a) + hi a - 2 * dr - 1)) (sl ||| 1 <<< (nI a &&& 31)) (hi := hi) (de := de) (ma := ma) (lg := lg) (dr := dr)
      omega
theorem turnF_le {n : Nat} {hi de ma : Nat → Int32} {lg st dr : Int32} {a : Nat} {v sl : Int32} (h : a < n) : a ≤ (turnF n hi de ma lg st dr a v sl).1 ∧ (turnF n hi de ma lg st dr a v sl).1 ≤ n := by
  unfold turnF
  split
  · have := landF_le (n - (a + 1)) (a + 1) (asV (v - st + hi a - dr)) sl (hi := hi) (de := de) (ma := ma) (lg := lg) (dr := dr)
    omega
  · exact ⟨Nat.le_refl _, Nat.le_of_lt h⟩
theorem runF_le {n : Nat} {hi de ma : Nat → Int32} {lg st dr : Int32} : ∀ (f a : Nat) (v sl c : Int32), a ≤ n → (runF n hi de ma lg st dr f a v sl c).1 ≤ n
  | 0, a, v, sl, c, h => h
  | f + 1, a, v, sl, c, h => by
    unfold runF
    split
    · rename_i q
      exact runF_le f _ _ _ _ (turnF_le q.2).2
    · exact h
