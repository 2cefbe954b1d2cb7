theorem gdL {l r : List Nat} {i : Nat} (h : i < l.length) : (l ++ r).getD i 0 = l.getD i 0 := by rw [List.getD_eq_getElem?_getD, List.getD_eq_getElem?_getD, List.getElem?_append_left h]
theorem gdR {l : List Nat} {x i : Nat} (h : i = l.length) : (l ++ [x]).getD i 0 = x := by
  subst h
  rw [List.getD_eq_getElem?_getD, List.getElem?_append_right (Nat.le_refl _), Nat.sub_self]
  rfl
def exB (n : Nat) (hi de ma : Nat → Int32) (lg : Int32) (bs : Nat → Nat) (e2 e3 : Nat → Int32) (st dr : Int32) : Nat → Nat → Bool
  | 0, _ => true
  | f + 1, i => if nI (runF n hi de ma lg st dr 9 (bs i) (e2 i) 0 0).1 = e3 i then exB n hi de ma lg bs e2 e3 st dr f (i + 1) else false
def wayL (W : Nat → Bool) : Nat → List Nat
  | 0 => []
  | j + 1 => if W j then wayL W j ++ [j] else wayL W j
theorem wayL_len (W : Nat → Bool) : ∀ j, (wayL W j).length ≤ j
  | 0 => Nat.le_refl _
  | j + 1 => by
    have := wayL_len W j
    unfold wayL
    split
    · rw [List.length_append]; show _ + 1 ≤ _; omega
    · omega
theorem wayL_lt (W : Nat → Bool) : ∀ j i, i < (wayL W j).length → (wayL W j).getD i 0 < j
  | 0, i, h => by exact absurd h (Nat.not_lt_zero _)
  | j + 1, i, h => by
    unfold wayL at h ⊢
    split
    · rename_i hW
      rw [if_pos hW, List.length_append] at h
      have h : i < (wayL W j).length + 1 := h
      by_cases hi : i < (wayL W j).length
      · rw [gdL hi]
        have := wayL_lt W j i hi
        omega
      · have e : i = (wayL W j).length := by omega
        subst e
        rw [gdR rfl]
        omega
    · rename_i hW
      rw [if_neg hW] at h
      have := wayL_lt W j i h
      omega
def wayInv (W : Nat → Bool) (j c : Nat) (f4 f5 : Nat → Int32) : Prop := c = (wayL W j).length ∧ ∀ i, i < c → f4 i = nI (1 + (wayL W j).getD i 0 / 4) ∧ f5 i = nI ((wayL W j).getD i 0 % 4)
theorem wayInv_0 (W : Nat → Bool) (f4 f5 : Nat → Int32) : wayInv W 0 0 f4 f5 := ⟨rfl, fun i h => absurd h (Nat.not_lt_zero _)⟩
theorem wayInv_no {W : Nat → Bool} {j c : Nat} {f4 f5 : Nat → Int32} (h : wayInv W j c f4 f5) (hW : ¬ W j = true) : wayInv W (j + 1) c f4 f5 := by
  unfold wayInv wayL
  rw [if_neg hW]
  exact h
theorem wayInv_yes {W : Nat → Bool} {j c : Nat} {f4 f5 : Nat → Int32} (h : wayInv W j c f4 f5) (hW : W j = true) : wayInv W (j + 1) (c + 1) (upd f4 c (nI (1 + j / 4))) (upd f5 c (nI (j % 4))) := by
  unfold wayInv wayL
  rw [if_pos hW, List.length_append]
  refine ⟨by rw [h.1]; rfl, fun i hi => ?_⟩
  unfold upd
  by_cases e : i = c
  · subst e
    rw [if_pos rfl, if_pos rfl]
    have : (wayL W j ++ [j]).getD i 0 = j := gdR h.1
    rw [this]
    exact ⟨rfl, rfl⟩
  · rw [if_neg e, if_neg e, gdL (by rw [← h.1]; omega)]
    exact h.2 i (by omega)
def updN (f : Nat → Nat) (k x : Nat) : Nat → Nat := fun j => if j = k then x else f j
def mostG (pl : Nat → Nat) : Nat → (Nat → Nat) × Nat
  | 0 => (fun _ => 0, 0)
  | i + 1 => (updN (mostG pl i).1 (pl i) ((mostG pl i).1 (pl i) + 1), if (mostG pl i).2 < (mostG pl i).1 (pl i) + 1 then (mostG pl i).1 (pl i) + 1 else (mostG pl i).2)
theorem mostG_le (pl : Nat → Nat) : ∀ i, (∀ p, (mostG pl i).1 p ≤ i) ∧ (mostG pl i).2 ≤ i
  | 0 => ⟨fun _ => Nat.le_refl _, Nat.le_refl _⟩
  | i + 1 => by
    obtain ⟨h1, h2⟩ := mostG_le pl i
    unfold mostG
    refine ⟨fun p => ?_, ?_⟩
    · show updN _ _ _ p ≤ _
      unfold updN
      have := h1 (pl i)
      have := h1 p
      split <;> omega
    · show (if (mostG pl i).2 < (mostG pl i).1 (pl i) + 1 then (mostG pl i).1 (pl i) + 1 else (mostG pl i).2) ≤ i + 1
      have := h1 (pl i)
      split <;> omega
theorem mostG_congr {pl pl' : Nat → Nat} : ∀ i, (∀ j, j < i → pl j = pl' j) → mostG pl i = mostG pl' i
  | 0, _ => rfl
  | i + 1, h => by
    unfold mostG
    rw [mostG_congr i (fun j hj => h j (by omega)), h i (by omega)]
def tryG (M : Nat → Nat) (f0 : Nat) : Nat → Nat × Int32
  | 0 => (f0, -9)
  | v + 1 => if M (v + 1) < (tryG M f0 v).1 then (M (v + 1), nI (v + 1)) else tryG M f0 v
theorem tryG_same {M : Nat → Nat} {f0 f1 : Nat} (h0 : M 1 < f0) (h1 : M 1 < f1) : ∀ v, tryG M f0 (v + 1) = tryG M f1 (v + 1)
  | 0 => by
    show (if M 1 < f0 then _ else _) = (if M 1 < f1 then _ else _)
    rw [if_pos h0, if_pos h1]
  | v + 1 => by
    rw [tryG, tryG_same h0 h1 v]
    rfl
theorem tryG_congr {M M' : Nat → Nat} {f0 : Nat} : ∀ v, (∀ j, 1 ≤ j → j ≤ v → M j = M' j) → tryG M f0 v = tryG M' f0 v
  | 0, _ => rfl
  | v + 1, h => by
    unfold tryG
    rw [tryG_congr v (fun j a b => h j a (by omega)), h (v + 1) (by omega) (by omega)]
theorem tryG_le {M : Nat → Nat} {f0 B : Nat} (hM : ∀ j, M j ≤ B) (h0 : f0 ≤ B) : ∀ v, (tryG M f0 v).1 ≤ B
  | 0 => h0
  | v + 1 => by
    unfold tryG
    split
    · exact hM _
    · exact tryG_le hM h0 v
abbrev WW (n : Nat) (hi de ma : Nat → Int32) (lg : Int32) (bs : Nat → Nat) (e2 e3 : Nat → Int32) (m : Nat) : Nat → Bool := fun j => exB n hi de ma lg bs e2 e3 (nI (1 + j / 4)) (nI (j % 4)) m 0
abbrev plF (n : Nat) (hi de ma : Nat → Int32) (lg : Int32) (W : Nat → Bool) (a : Nat) (v : Int32) : Nat → Nat := fun i => (runF n hi de ma lg (nI (1 + (wayL W 36).getD i 0 / 4)) (nI ((wayL W 36).getD i 0 % 4)) 9 a v 0 0).1
theorem nI_max {a b : Nat} (ha : a < 2 ^ 31) (hb : b < 2 ^ 31) : (if nI a < nI b then nI b else nI a) = nI (if a < b then b else a) := by
  by_cases q : a < b
  · rw [if_pos q, if_pos ((nI_ltI ha hb).mpr q)]
  · rw [if_neg q, if_neg (fun z => q ((nI_ltI ha hb).mp z))]
theorem mostG_step {pl : Nat → Nat} {i r n : Nat} {f6 : Nat → Int32} (hr : pl i = r) (h6 : ∀ p, p ≤ n → f6 p = nI ((mostG pl i).1 p)) : ∀ p, p ≤ n → upd f6 r (nI ((mostG pl i).1 r + 1)) p = nI ((mostG pl (i + 1)).1 p) := by
  subst hr
  intro p hp
  show (if p = pl i then nI ((mostG pl i).1 (pl i) + 1) else f6 p) = nI (if p = pl i then (mostG pl i).1 (pl i) + 1 else (mostG pl i).1 p)
  by_cases q : p = pl i
  · rw [if_pos q, if_pos q]
  · rw [if_neg q, if_neg q, h6 p hp]
theorem mostG_2 {pl : Nat → Nat} {i r : Nat} (hr : pl i = r) : (mostG pl (i + 1)).2 = if (mostG pl i).2 < (mostG pl i).1 r + 1 then (mostG pl i).1 r + 1 else (mostG pl i).2 := by subst hr; rfl
