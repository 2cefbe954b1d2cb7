theorem nx_mul (a b : Nat) : nI a * nI b = nI (a * b) := (Int32.ofNat_mul a b).symm
def Vok (v : Int32) : Prop := ∃ u : Nat, u < 100 ∧ v = nI u
theorem asV_ok (x : Int32) : Vok (asV x) := by
  unfold asV
  split
  · exact ⟨0, by decide, rfl⟩
  · split
    · exact ⟨99, by decide, rfl⟩
    · rename_i h1 h2
      obtain ⟨j, hj, rfl⟩ := nI_of h1
      refine ⟨j, ?_, rfl⟩
      have e : (99 : Int32) = nI 99 := rfl
      rw [e, nI_ltI (by decide) hj] at h2
      omega
theorem asV_nI {a : Nat} (h : a < 2 ^ 31) : asV (nI a) = nI (if 99 < a then 99 else a) := by
  unfold asV
  have e : (99 : Int32) = nI 99 := rfl
  have e0 : (0 : Int32) = nI 0 := rfl
  rw [e, e0, if_neg (by rw [nI_ltI h (by decide)]; omega)]
  by_cases h9 : 99 < a
  · rw [if_pos h9, if_pos ((nI_ltI (by decide) h).mpr h9)]
  · rw [if_neg h9, if_neg (fun q => h9 ((nI_ltI (by decide) h).mp q))]
theorem landF_ok {hi de ma : Nat → Int32} {lg dr : Int32} : ∀ (f a : Nat) (v sl : Int32), Vok (landF hi de ma lg dr f a v sl).2.1
  | 0, a, v, sl => ⟨0, by decide, rfl⟩
  | f + 1, a, v, sl => by
    unfold landF
    split
    · exact asV_ok _
    · exact landF_ok f _ _ _
theorem landF_sl {hi de ma : Nat → Int32} {lg dr : Int32} : ∀ (f a : Nat) (v sl sl' : Int32), (landF hi de ma lg dr f a v sl).1 = (landF hi de ma lg dr f a v sl').1 ∧ (landF hi de ma lg dr f a v sl).2.1 = (landF hi de ma lg dr f a v sl').2.1
  | 0, a, v, sl, sl' => ⟨rfl, rfl⟩
  | f + 1, a, v, sl, sl' => by
    unfold landF
    split
    · exact ⟨rfl, rfl⟩
    · exact landF_sl f _ _ _ _
section LST
variable {n : Nat} {hi de ma : Nat → Int32} {lg st dr : Int32}
theorem turnF_ok {a : Nat} {v sl : Int32} : Vok (turnF n hi de ma lg st dr a v sl).2.1 := by
  unfold turnF
  split
  · exact landF_ok _ _ _ _
  · exact ⟨0, by decide, rfl⟩
theorem turnF_sl {a : Nat} {v sl sl' : Int32} : (turnF n hi de ma lg st dr a v sl).1 = (turnF n hi de ma lg st dr a v sl').1 ∧ (turnF n hi de ma lg st dr a v sl).2.1 = (turnF n hi de ma lg st dr a v sl').2.1 := by
  unfold turnF
  split
  · exact landF_sl _ _ _ _ _
  · exact ⟨rfl, rfl⟩
theorem turnF_gt {a : Nat} {v sl : Int32} (h : st ≤ v) : a + 1 ≤ (turnF n hi de ma lg st dr a v sl).1 := by
  unfold turnF
  rw [if_pos h]
  exact (landF_le _ _ _ _).1
theorem landF_fl {hi de ma : Nat → Int32} {lg dr : Int32} : ∀ (f a : Nat) (v sl : Int32), (landF hi de ma lg dr f a v sl).1 = a + f → (landF hi de ma lg dr f a v sl).2.1 = 0
  | 0, a, v, sl, _ => rfl
  | f + 1, a, v, sl, h => by
    unfold landF at h ⊢
    split
    · rename_i q
      rw [if_pos q] at h
      have : a = a + (f + 1) := h
      omega
    · rename_i q
      rw [if_neg q] at h
      exact landF_fl f _ _ _ (by omega)
theorem turnF_fl {a : Nat} {v sl : Int32} (ha : a < n) (h : (turnF n hi de ma lg st dr a v sl).1 = n) : (turnF n hi de ma lg st dr a v sl).2.1 = 0 := by
  unfold turnF at h ⊢
  split
  · rename_i q
    rw [if_pos q] at h
    exact landF_fl _ _ _ _ (by omega)
  · rfl
def candF (n : Nat) (hi de ma : Nat → Int32) (lg st dr : Int32) (rec : Nat → Int32 → Nat) (a : Nat) (v : Int32) (j : Nat) : Option Nat :=
  if st ≤ asV (v + nI j) then some (j + rec (turnF n hi de ma lg st dr a (asV (v + nI j)) 0).1 (turnF n hi de ma lg st dr a (asV (v + nI j)) 0).2.1) else none
def bestD (c : Nat → Option Nat) : Nat → Nat × Nat → Nat × Nat
  | 0, b => b
  | m + 1, b => bestD c m (match c m with
    | some s => if s ≤ b.1 then (s, m) else b
    | none => b)
def leastF (n : Nat) (hi de ma : Nat → Int32) (lg st dr : Int32) : Nat → Nat → Int32 → Nat × Nat
  | 0, _, _ => (0, 0)
  | f + 1, a, v => if a < n then bestD (candF n hi de ma lg st dr (fun a v => (leastF n hi de ma lg st dr f a v).1) a v) 10 (99999, 0) else (0, 0)
theorem leastF_fuel : ∀ (f g a : Nat) (v : Int32), n - a ≤ f → n - a ≤ g → leastF n hi de ma lg st dr f a v = leastF n hi de ma lg st dr g a v
  | 0, g, a, v, h1, h2 => by
    have hn : ¬ a < n := by omega
    cases g with
    | zero => rfl
    | succ g => unfold leastF; rw [if_neg hn]
  | f + 1, 0, a, v, h1, h2 => by
    have hn : ¬ a < n := by omega
    unfold leastF; rw [if_neg hn]
  | f + 1, g + 1, a, v, h1, h2 => by
    unfold leastF
    by_cases ha : a < n
    · rw [if_pos ha, if_pos ha]
      congr 1
      funext j
      unfold candF
      by_cases hs : st ≤ asV (v + nI j)
      · rw [if_pos hs, if_pos hs]
        have h3 := turnF_gt (n := n) (hi := hi) (de := de) (ma := ma) (lg := lg) (dr := dr) (a := a) (sl := 0) hs
        dsimp only
        rw [leastF_fuel f g (turnF n hi de ma lg st dr a (asV (v + nI j)) 0).1 (turnF n hi de ma lg st dr a (asV (v + nI j)) 0).2.1 (by omega) (by omega)]
      · rw [if_neg hs, if_neg hs]
    · rw [if_neg ha, if_neg ha]
abbrev LL (n : Nat) (hi de ma : Nat → Int32) (lg st dr : Int32) (a : Nat) (v : Int32) : Nat × Nat := leastF n hi de ma lg st dr 9 a v
abbrev cand (n : Nat) (hi de ma : Nat → Int32) (lg st dr : Int32) (a : Nat) (v : Int32) (j : Nat) : Option Nat := candF n hi de ma lg st dr (fun a v => (LL n hi de ma lg st dr a v).1) a v j
theorem LL_eq {a : Nat} {v : Int32} (hn : n ≤ 9) (ha : a < n) : LL n hi de ma lg st dr a v = bestD (cand n hi de ma lg st dr a v) 10 (99999, 0) := by
  rw [show LL n hi de ma lg st dr a v = leastF n hi de ma lg st dr 10 a v from leastF_fuel 9 10 a v (by omega) (by omega)]
  unfold leastF
  rw [if_pos ha]
theorem LL_floor {a : Nat} {v : Int32} (ha : ¬ a < n) : LL n hi de ma lg st dr a v = (0, 0) := by
  show leastF n hi de ma lg st dr (8 + 1) a v = _
  unfold leastF
  rw [if_neg ha]
def isBest (c : Nat → Option Nat) (m : Nat) (b : Nat × Nat) : Prop := b.2 < m ∧ c b.2 = some b.1 ∧ ∀ i s, i < m → c i = some s → b.1 < s ∨ (b.1 = s ∧ b.2 ≤ i)
theorem isBest_unique {c : Nat → Option Nat} {m : Nat} {b b' : Nat × Nat} (h : isBest c m b) (h' : isBest c m b') : b = b' := by
  have h1 := h.2.2 b'.2 b'.1 h'.1 h'.2.1
  have h2 := h'.2.2 b.2 b.1 h.1 h.2.1
  have e1 : b.1 = b'.1 := by omega
  have e2 : b.2 = b'.2 := by omega
  exact Prod.ext e1 e2
theorem bestD_best {c : Nat → Option Nat} {N : Nat} (hb : ∀ i s, i < N → c i = some s → s ≤ 99999) (hex : ∃ i s, i < N ∧ c i = some s) : ∀ (m : Nat) (b : Nat × Nat), m ≤ N →
    ((m ≤ b.2 ∧ b.2 < N ∧ c b.2 = some b.1 ∧ ∀ i s, m ≤ i → i < N → c i = some s → b.1 < s ∨ (b.1 = s ∧ b.2 ≤ i)) ∨ (b.1 = 99999 ∧ ∀ i, m ≤ i → i < N → c i = none)) → isBest c N (bestD c m b)
  | 0, b, hm, h => by
    unfold bestD
    rcases h with h | h
    · exact ⟨h.2.1, h.2.2.1, fun i s h1 h2 => h.2.2.2 i s (Nat.zero_le _) h1 h2⟩
    · obtain ⟨i, s, h1, h2⟩ := hex
      rw [h.2 i (Nat.zero_le _) h1] at h2
      cases h2
  | m + 1, b, hm, h => by
    unfold bestD
    cases hc : c m with
    | none =>
      refine bestD_best hb hex m b (by omega) ?_
      rcases h with h | h
      · refine Or.inl ⟨by omega, h.2.1, h.2.2.1, fun i s h1 h2 h3 => ?_⟩
        by_cases hi : i = m
        · subst hi; rw [hc] at h3; cases h3
        · exact h.2.2.2 i s (by omega) h2 h3
      · refine Or.inr ⟨h.1, fun i h1 h2 => ?_⟩
        by_cases hi : i = m
        · subst hi; exact hc
        · exact h.2 i (by omega) h2
    | some s0 =>
      have hs0 := hb m s0 (by omega) hc
      show isBest c N (bestD c m (if s0 ≤ b.1 then (s0, m) else b))
      by_cases hle : s0 ≤ b.1
      · rw [if_pos hle]
        refine bestD_best hb hex m (s0, m) (by omega) (Or.inl ⟨Nat.le_refl _, by omega, hc, fun i s h1 h2 h3 => ?_⟩)
        by_cases hi : i = m
        · subst hi; rw [hc] at h3; cases h3; exact Or.inr ⟨rfl, Nat.le_refl _⟩
        · rcases h with h | h
          · have := h.2.2.2 i s (by omega) h2 h3
            show s0 < s ∨ (s0 = s ∧ m ≤ i)
            omega
          · rw [h.2 i (by omega) h2] at h3; cases h3
      · rw [if_neg hle]
        refine bestD_best hb hex m b (by omega) ?_
        rcases h with h | h
        · refine Or.inl ⟨by omega, h.2.1, h.2.2.1, fun i s h1 h2 h3 => ?_⟩
          by_cases hi : i = m
          · subst hi; rw [hc] at h3; cases h3; exact Or.inl (by omega)
          · exact h.2.2.2 i s (by omega) h2 h3
        · omega
theorem cand9 {rec : Nat → Int32 → Nat} {a : Nat} {v : Int32} (hst : st ≤ 9) (hv : Vok v) : ∃ s, candF n hi de ma lg st dr rec a v 9 = some s := by
  obtain ⟨u, hu, rfl⟩ := hv
  unfold candF
  rw [nI_add, asV_nI (by omega)]
  have : st ≤ nI (if 99 < u + 9 then 99 else u + 9) := by
    refine Int32.le_trans hst ?_
    show nI 9 ≤ _
    rw [nI_leI (by decide) (by split <;> omega)]
    split <;> omega
  rw [if_pos this]
  exact ⟨_, rfl⟩
theorem candF_le {rec : Nat → Int32 → Nat} {a j s : Nat} {v : Int32} (h : candF n hi de ma lg st dr rec a v j = some s) : ∃ (b : Nat) (w : Int32), Vok w ∧ s = j + rec b w := by
  unfold candF at h
  split at h
  · cases h
    exact ⟨_, _, turnF_ok, rfl⟩
  · cases h
theorem leastF_bd (hst : st ≤ 9) : ∀ (f a : Nat) (v : Int32), Vok v → f ≤ 9 → (leastF n hi de ma lg st dr f a v).1 ≤ 9 * f ∧ (leastF n hi de ma lg st dr f a v).2 < 10
  | 0, a, v, _, _ => ⟨Nat.le_refl _, Nat.zero_lt_succ 9⟩
  | f + 1, a, v, hv, hf => by
    unfold leastF
    split
    · obtain ⟨s9, h9⟩ := cand9 (n := n) (hi := hi) (de := de) (ma := ma) (lg := lg) (dr := dr) (rec := fun a v => (leastF n hi de ma lg st dr f a v).1) (a := a) hst hv
      have hbd : ∀ i s, i < 10 → candF n hi de ma lg st dr (fun a v => (leastF n hi de ma lg st dr f a v).1) a v i = some s → s ≤ i + 9 * f := by
        intro i s _ h
        obtain ⟨b, w, hw, rfl⟩ := candF_le h
        have := (leastF_bd hst f b w hw (by omega)).1
        show i + (leastF n hi de ma lg st dr f b w).1 ≤ i + 9 * f
        omega
      have hB := bestD_best (N := 10) (fun i s h1 h2 => by have := hbd i s h1 h2; omega) ⟨9, s9, by decide, h9⟩ 10 (99999, 0) (Nat.le_refl _) (Or.inr ⟨rfl, fun i h1 h2 => by omega⟩)
      have h99 := hB.2.2 9 s9 (by decide) h9
      have := hbd 9 s9 (by decide) h9
      exact ⟨by omega, hB.1⟩
    · exact ⟨Nat.zero_le _, by decide⟩
theorem LL_bd {a : Nat} {v : Int32} (hst : st ≤ 9) (hv : Vok v) : (LL n hi de ma lg st dr a v).1 ≤ 81 ∧ (LL n hi de ma lg st dr a v).2 < 10 := leastF_bd hst 9 a v hv (Nat.le_refl _)
theorem cand_bd {a j s : Nat} {v : Int32} (hst : st ≤ 9) (h : cand n hi de ma lg st dr a v j = some s) : j ≤ s ∧ s ≤ j + 81 := by
  obtain ⟨b, w, hw, rfl⟩ := candF_le h
  have := (LL_bd (n := n) (hi := hi) (de := de) (ma := ma) (lg := lg) (dr := dr) (a := b) hst hw).1
  show j ≤ j + (LL n hi de ma lg st dr b w).1 ∧ j + (LL n hi de ma lg st dr b w).1 ≤ j + 81
  omega
theorem LL_best {a : Nat} {v : Int32} (hn : n ≤ 9) (ha : a < n) (hst : st ≤ 9) (hv : Vok v) : isBest (cand n hi de ma lg st dr a v) 10 (LL n hi de ma lg st dr a v) := by
  rw [LL_eq hn ha]
  obtain ⟨s9, h9⟩ := cand9 (n := n) (hi := hi) (de := de) (ma := ma) (lg := lg) (dr := dr) (rec := fun a v => (LL n hi de ma lg st dr a v).1) (a := a) hst hv
  exact bestD_best (N := 10) (fun i s h1 h2 => by have := (cand_bd hst h2).2; omega) ⟨9, s9, by decide, h9⟩ 10 (99999, 0) (Nat.le_refl _) (Or.inr ⟨rfl, fun i h1 h2 => by omega⟩)
theorem LL_of_best {a : Nat} {v : Int32} {b : Nat × Nat} (hn : n ≤ 9) (ha : a < n) (hst : st ≤ 9) (hv : Vok v) (h : isBest (cand n hi de ma lg st dr a v) 10 b) : b = LL n hi de ma lg st dr a v := isBest_unique h (LL_best hn ha hst hv)
def LX (n : Nat) (hi de ma : Nat → Int32) (lg st dr : Int32) (a : Nat) (v : Int32) : Nat := 10 * (LL n hi de ma lg st dr a v).1 + (LL n hi de ma lg st dr a v).2
theorem LX_bd {a : Nat} {v : Int32} (hst : st ≤ 9) (hv : Vok v) : LX n hi de ma lg st dr a v < 1000 := by
  have := LL_bd (n := n) (hi := hi) (de := de) (ma := ma) (lg := lg) (dr := dr) (a := a) hst hv
  unfold LX
  omega
theorem LX_div {a : Nat} {v : Int32} (hst : st ≤ 9) (hv : Vok v) : LX n hi de ma lg st dr a v / 10 = (LL n hi de ma lg st dr a v).1 ∧ LX n hi de ma lg st dr a v % 10 = (LL n hi de ma lg st dr a v).2 := by
  have := LL_bd (n := n) (hi := hi) (de := de) (ma := ma) (lg := lg) (dr := dr) (a := a) hst hv
  unfold LX
  omega
def MemoOK (n : Nat) (hi de ma : Nat → Int32) (lg st dr : Int32) (fo : Nat → Int32) : Prop := ∀ a u, a < n → u < 100 → fo (a * 100 + u) = -1 ∨ fo (a * 100 + u) = nI (LX n hi de ma lg st dr a (nI u))
theorem MemoOK.upd {fo : Nat → Int32} {a u : Nat} (h : MemoOK n hi de ma lg st dr fo) (hu : u < 100) : MemoOK n hi de ma lg st dr (upd fo (a * 100 + u) (nI (LX n hi de ma lg st dr a (nI u)))) := by
  intro b w hb hw
  unfold Jvm.Pilot.CCoilStairsLaw_law_r7445_bf6b19.upd
  by_cases e : b * 100 + w = a * 100 + u
  · have e1 : b = a := by omega
    have e2 : w = u := by omega
    subst e1; subst e2
    rw [if_pos rfl]
    exact Or.inr rfl
  · rw [if_neg e]
    exact h b w hb hw
def upInv (c : Nat → Option Nat) (j b fi : Nat) : Prop := isBest c j (b, fi) ∨ (b = 1000 ∧ fi = 0 ∧ ∀ i, i < j → c i = none)
theorem upInv_0 (c : Nat → Option Nat) : upInv c 0 1000 0 := Or.inr ⟨rfl, rfl, fun i h => absurd h (by omega)⟩
theorem upInv_none {c : Nat → Option Nat} {j b fi : Nat} (h : upInv c j b fi) (hc : c j = none) : upInv c (j + 1) b fi := by
  rcases h with h | ⟨h1, h2, h3⟩
  · refine Or.inl ⟨by have := h.1; omega, h.2.1, fun i s hi hs => ?_⟩
    by_cases e : i = j
    · subst e; rw [hc] at hs; cases hs
    · exact h.2.2 i s (by omega) hs
  · refine Or.inr ⟨h1, h2, fun i hi => ?_⟩
    by_cases e : i = j
    · subst e; exact hc
    · exact h3 i (by omega)
theorem upInv_take {c : Nat → Option Nat} {j b fi s : Nat} (h : upInv c j b fi) (hc : c j = some s) (hl : s < b) : upInv c (j + 1) s j := by
  refine Or.inl ⟨by show j < j + 1; omega, hc, fun i t hi ht => ?_⟩
  show s < t ∨ (s = t ∧ j ≤ i)
  by_cases e : i = j
  · subst e; rw [hc] at ht; cases ht; omega
  · rcases h with h | ⟨h1, h2, h3⟩
    · have := h.2.2 i t (by omega) ht
      have h9 : b < t ∨ (b = t ∧ fi ≤ i) := this
      omega
    · rw [h3 i (by omega)] at ht; cases ht
theorem upInv_leave {c : Nat → Option Nat} {j b fi s : Nat} (h : upInv c j b fi) (hc : c j = some s) (hl : ¬ s < b) (hs : s < 1000) : upInv c (j + 1) b fi := by
  rcases h with h | ⟨h1, h2, h3⟩
  · refine Or.inl ⟨by have := h.1; omega, h.2.1, fun i t hi ht => ?_⟩
    show b < t ∨ (b = t ∧ fi ≤ i)
    by_cases e : i = j
    · subst e; rw [hc] at ht; cases ht
      have h9 : fi < i := h.1
      omega
    · have h9 : b < t ∨ (b = t ∧ fi ≤ i) := h.2.2 i t (by omega) ht
      exact h9
  · omega
theorem upInv_end {c : Nat → Option Nat} {j b fi : Nat} (hlow : ∀ i s, c i = some s → i ≤ s) (h9 : ∃ s, c 9 = some s) (h : upInv c j b fi) (hj : j ≤ 10) (he : j = 10 ∨ b ≤ j) : isBest c 10 (b, fi) := by
  rcases h with h | ⟨h1, h2, h3⟩
  · refine ⟨by have := h.1; omega, h.2.1, fun i t hi ht => ?_⟩
    show b < t ∨ (b = t ∧ fi ≤ i)
    by_cases e : i < j
    · exact h.2.2 i t e ht
    · have := hlow i t ht
      have h8 : fi < j := h.1
      omega
  · obtain ⟨s, hs⟩ := h9
    rcases he with he | he
    · rw [h3 9 (by omega)] at hs; cases hs
    · omega
end LST
