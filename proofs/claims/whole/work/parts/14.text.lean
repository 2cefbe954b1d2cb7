def skp (tf : Nat → Int32) : Nat → Nat → Nat
  | 0, a => a
  | f + 1, a => if tf a = 32 then skp tf f (a + 1) else a
abbrev tk (tf : Nat → Int32) (le p : Nat) : Nat := skp tf (le - p) p
theorem skp_le (tf : Nat → Int32) : ∀ f a, a ≤ skp tf f a ∧ skp tf f a ≤ a + f
  | 0, a => ⟨Nat.le_refl _, Nat.le_refl _⟩
  | f + 1, a => by
    unfold skp
    split
    · have := skp_le tf f (a + 1); omega
    · omega
theorem tk_le {tf : Nat → Int32} {le p : Nat} (h : p ≤ le) : p ≤ tk tf le p ∧ tk tf le p ≤ le := by
  have := skp_le tf (le - p) p
  show p ≤ skp tf (le - p) p ∧ skp tf (le - p) p ≤ le
  omega
abbrev isD (x : Int32) : Prop := 48 ≤ x ∧ x ≤ 57
theorem isD_nat {x : Int32} (h : isD x) : ∃ e : Nat, e < 10 ∧ x = nI (48 + e) := by
  obtain ⟨h1, h2⟩ := h
  obtain ⟨j, hj, rfl⟩ := nI_of_le (Int32.le_trans (by decide : (0 : Int32) ≤ 48) h1)
  have a1 := (nI_leI (a := 48) (by decide) hj).mp h1
  have a2 := (nI_leI (b := 57) hj (by decide)).mp h2
  exact ⟨j - 48, by omega, by rw [show 48 + (j - 48) = j by omega]⟩
theorem d48 (e : Nat) : nI (48 + e) - 48 = nI e := by
  rw [show (48 : Int32) = nI 48 from rfl, pk_sub (by omega), show 48 + e - 48 = e by omega]
abbrev numOK (tf : Nat → Int32) (le a : Nat) (lo hh : Int32) : Prop := a < le ∧ isD (tf a) ∧ ¬ (a + 1 < le ∧ isD (tf (a + 1))) ∧ lo ≤ tf a - 48 ∧ tf a - 48 ≤ hh
def NumInv (tf : Nat → Int32) (s b vN : Nat) : Prop := s ≤ b ∧ (∀ i, s ≤ i → i < b → isD (tf i)) ∧ vN ≤ 100 ∧ (b = s → vN = 0) ∧ (b = s + 1 → nI vN = tf s - 48) ∧ (s < b → ¬ tf s = 48 → 1 ≤ vN) ∧ (s + 2 ≤ b → ¬ tf s = 48 → 10 ≤ vN)
theorem NumInv_0 (tf : Nat → Int32) (s : Nat) : NumInv tf s s 0 := ⟨Nat.le_refl _, fun i h1 h2 => by omega, by omega, fun _ => rfl, fun h => by omega, fun h => by omega, fun h => by omega⟩
theorem NumInv_1 {tf : Nat → Int32} {s b vN : Nat} (h : NumInv tf s b vN) (hd : isD (tf b)) : ∃ v2 : Nat, (if nI vN * 10 + (tf b - 48) < 100 then nI vN * 10 + (tf b - 48) else 100) = nI v2 ∧ NumInv tf s (b + 1) v2 := by
  obtain ⟨h1, h2, h3, h4, h5, h6, h7⟩ := h
  obtain ⟨e, he, hb⟩ := isD_nat hd
  have k1 : nI vN * 10 + (tf b - 48) = nI (vN * 10 + e) := by rw [hb, d48, show (10 : Int32) = nI 10 from rfl, pk_mul, nI_add]
  have k2 : (if nI vN * 10 + (tf b - 48) < 100 then nI vN * 10 + (tf b - 48) else 100) = nI (if vN * 10 + e < 100 then vN * 10 + e else 100) := by
    rw [k1]
    have q : (nI (vN * 10 + e) < 100) ↔ vN * 10 + e < 100 := nI_ltI (b := 100) (by omega) (by decide)
    by_cases z : vN * 10 + e < 100
    · rw [if_pos z, if_pos (q.mpr z)]
    · rw [if_neg z, if_neg (fun y => z (q.mp y))]; rfl
  have hs0 : b = s → ¬ tf s = 48 → 1 ≤ e := by
    intro q z
    subst q
    rw [hb, show (48 : Int32) = nI 48 from rfl, nI_eq (by omega) (by decide)] at z
    omega
  refine ⟨_, k2, by omega, fun i a1 a2 => ?_, by split <;> omega, fun q => by omega, fun q => ?_, fun _ z => ?_, fun q z => ?_⟩
  · by_cases q : i = b
    · subst q; exact hd
    · exact h2 i a1 (by omega)
  · have hbs : b = s := by omega
    have := h4 hbs
    subst hbs
    rw [hb, d48, this]
    rw [if_pos (by omega)]
    congr 1
    omega
  · by_cases q : b = s
    · have := hs0 q z
      split <;> omega
    · have := h6 (by omega) z
      split <;> omega
  · have := h6 (by omega) z
    split <;> omega
theorem num_ok {tf : Nat → Int32} {le s b vN : Nat} {lo hh : Int32} (h : NumInv tf s b vN) (hb : b ≤ le) (hend : ¬ (b < le ∧ isD (tf b))) (hpl : b = s + 1 ∨ (s < b ∧ ¬ tf s = 48)) (hw : lo ≤ nI vN ∧ nI vN ≤ hh) (hh9 : hh ≤ 9) : numOK tf le s lo hh ∧ nI vN = tf s - 48 ∧ b = s + 1 := by
  obtain ⟨h1, h2, h3, h4, h5, h6, h7⟩ := h
  have v9 : vN ≤ 9 := (nI_leI (b := 9) (by omega) (by decide)).mp (Int32.le_trans hw.2 hh9)
  have hb1 : b = s + 1 := by
    rcases hpl with q | ⟨q1, q2⟩
    · exact q
    · by_cases q3 : s + 2 ≤ b
      · have := h7 q3 q2; omega
      · omega
  have hv := h5 hb1
  subst hb1
  exact ⟨⟨by omega, h2 s (Nat.le_refl _) (by omega), hend, by rw [← hv]; exact hw.1, by rw [← hv]; exact hw.2⟩, hv, rfl⟩
theorem num_no {tf : Nat → Int32} {le s b vN : Nat} {lo hh : Int32} (h : NumInv tf s b vN) (hb : b ≤ le) (hend : ¬ (b < le ∧ isD (tf b))) (hno : ¬ (b = s + 1 ∨ (s < b ∧ ¬ tf s = 48)) ∨ ¬ (lo ≤ nI vN ∧ nI vN ≤ hh)) : ¬ numOK tf le s lo hh := by
  obtain ⟨h1, h2, h3, h4, h5, h6, h7⟩ := h
  rintro ⟨k1, k2, k3, k4, k5⟩
  have hb1 : b = s + 1 := by
    by_cases q : b = s
    · subst q; exact absurd ⟨k1, k2⟩ hend
    · by_cases q2 : s + 2 ≤ b
      · exact absurd ⟨by omega, h2 (s + 1) (by omega) (by omega)⟩ k3
      · omega
  rcases hno with q | q
  · exact q (Or.inl hb1)
  · rw [h5 hb1] at q
    exact q ⟨k4, k5⟩
abbrev PSt : Type := Nat × (Nat → Int32) × (Nat → Int32) × (Nat → Int32) × (Nat → Int32)
abbrev P0 (hi de ma : Nat → Int32) : PSt := (0, hi, de, ma, fun _ => -1)
def endF (tf : Nat → Int32) (le p : Nat) (s : PSt) : Nat ⊕ (Nat × PSt) := if tk tf le p < le ∧ tf (tk tf le p) = 59 then .inr (tk tf le p + 1, s) else .inl (tk tf le p)
def stepF (tf : Nat → Int32) (le p : Nat) (s : PSt) : Nat ⊕ (Nat × PSt) :=
  if numOK tf le (tk tf le p) 1 9 then
    if numOK tf le (tk tf le (tk tf le p + 1)) 1 9 then
      if numOK tf le (tk tf le (tk tf le (tk tf le p + 1) + 1)) 0 5 then
        endF tf le (tk tf le (tk tf le (tk tf le p + 1) + 1) + 1) (s.1 + 1, upd s.2.1 s.1 (tf (tk tf le p) - 48), upd s.2.2.1 s.1 (tf (tk tf le (tk tf le p + 1)) - 48), upd s.2.2.2.1 s.1 (tf (tk tf le (tk tf le (tk tf le p + 1) + 1)) - 48), s.2.2.2.2)
      else .inl (tk tf le (tk tf le (tk tf le p + 1) + 1))
    else .inl (tk tf le (tk tf le p + 1))
  else .inl (tk tf le p)
def coilF (tf : Nat → Int32) (le p : Nat) (s : PSt) (w : Nat) (lo hh : Int32) : Nat ⊕ (Nat × PSt) :=
  if numOK tf le (tk tf le p) lo hh then endF tf le (tk tf le p + 1) (s.1, s.2.1, s.2.2.1, s.2.2.2.1, upd s.2.2.2.2 w (tf (tk tf le p) - 48)) else .inl (tk tf le p)
abbrev mayB (c : Int32) (n : Nat) (co : Nat → Int32) : Prop := (c = 115 ∧ n < 9) ∨ (c = 108 ∧ co 0 < 0) ∨ (c = 102 ∧ co 1 < 0) ∨ (c = 100 ∧ co 2 < 0)
def itemF (tf : Nat → Int32) (le a : Nat) (s : PSt) : Nat ⊕ (Nat × PSt) :=
  if mayB (tf a) s.1 s.2.2.2.2 then
    if tf a = 115 then stepF tf le (a + 1) s else if tf a = 108 then coilF tf le (a + 1) s 0 0 9 else if tf a = 102 then coilF tf le (a + 1) s 1 1 9 else coilF tf le (a + 1) s 2 0 3
  else .inl a
def parseF (tf : Nat → Int32) (le : Nat) : Nat → Nat → Nat → PSt → Nat ⊕ (Nat × PSt)
  | 0, _, it, s => .inr (it, s)
  | f + 1, p, it, s => if tk tf le p < le then (match itemF tf le (tk tf le p) s with
    | .inl e => .inl e
    | .inr (p', s') => parseF tf le f p' (it + 1) s') else .inr (it, s)
theorem endF_le {tf : Nat → Int32} {le p : Nat} {s : PSt} (hp : p ≤ le) : (∀ e, endF tf le p s = .inl e → e ≤ le) ∧ ∀ p' s', endF tf le p s = .inr (p', s') → p < p' ∧ p' ≤ le ∧ s' = s := by
  have := tk_le (tf := tf) hp
  unfold endF
  split
  · rename_i q
    refine ⟨fun e h => (by cases h), fun p' s' h => ?_⟩
    cases h
    exact ⟨by omega, by omega, rfl⟩
  · refine ⟨fun e h => (by cases h; exact this.2), fun p' s' h => (by cases h)⟩
theorem coilF_le {tf : Nat → Int32} {le p : Nat} {s : PSt} {w : Nat} {lo hh : Int32} (hp : p ≤ le) : (∀ e, coilF tf le p s w lo hh = .inl e → e ≤ le) ∧ ∀ p' s', coilF tf le p s w lo hh = .inr (p', s') → p < p' ∧ p' ≤ le ∧ numOK tf le (tk tf le p) lo hh ∧ s' = (s.1, s.2.1, s.2.2.1, s.2.2.2.1, upd s.2.2.2.2 w (tf (tk tf le p) - 48)) := by
  have h1 := tk_le (tf := tf) hp
  unfold coilF
  split
  · rename_i q
    have h2 := endF_le (tf := tf) (le := le) (p := tk tf le p + 1) (s := (s.1, s.2.1, s.2.2.1, s.2.2.2.1, upd s.2.2.2.2 w (tf (tk tf le p) - 48))) (by have := q.1; omega)
    exact ⟨h2.1, fun p' s' h => by have := h2.2 p' s' h; exact ⟨by omega, this.2.1, q, this.2.2⟩⟩
  · refine ⟨fun e h => (by cases h; exact h1.2), fun p' s' h => (by cases h)⟩
theorem stepF_le {tf : Nat → Int32} {le p : Nat} {s : PSt} (hp : p ≤ le) : (∀ e, stepF tf le p s = .inl e → e ≤ le) ∧ ∀ p' s', stepF tf le p s = .inr (p', s') → p < p' ∧ p' ≤ le ∧ ∃ x y z, (1 ≤ x ∧ x ≤ 9) ∧ (1 ≤ y ∧ y ≤ 9) ∧ (0 ≤ z ∧ z ≤ 5) ∧ s' = (s.1 + 1, upd s.2.1 s.1 x, upd s.2.2.1 s.1 y, upd s.2.2.2.1 s.1 z, s.2.2.2.2) := by
  have h1 := tk_le (tf := tf) hp
  unfold stepF
  split
  · rename_i q1
    have h2 := tk_le (tf := tf) (le := le) (p := tk tf le p + 1) (by have := q1.1; omega)
    split
    · rename_i q2
      have h3 := tk_le (tf := tf) (le := le) (p := tk tf le (tk tf le p + 1) + 1) (by have := q2.1; omega)
      split
      · rename_i q3
        have h4 := endF_le (tf := tf) (le := le) (p := tk tf le (tk tf le (tk tf le p + 1) + 1) + 1) (s := (s.1 + 1, upd s.2.1 s.1 (tf (tk tf le p) - 48), upd s.2.2.1 s.1 (tf (tk tf le (tk tf le p + 1)) - 48), upd s.2.2.2.1 s.1 (tf (tk tf le (tk tf le (tk tf le p + 1) + 1)) - 48), s.2.2.2.2)) (by have := q3.1; omega)
        exact ⟨h4.1, fun p' s' h => by have := h4.2 p' s' h; exact ⟨by omega, this.2.1, _, _, _, q1.2.2.2, q2.2.2.2, q3.2.2.2, this.2.2⟩⟩
      · refine ⟨fun e h => (by cases h; exact h3.2), fun p' s' h => (by cases h)⟩
    · refine ⟨fun e h => (by cases h; exact h2.2), fun p' s' h => (by cases h)⟩
  · refine ⟨fun e h => (by cases h; exact h1.2), fun p' s' h => (by cases h)⟩
def POK (s : PSt) : Prop := s.1 ≤ 9 ∧ (∀ i, i < s.1 → (1 ≤ s.2.1 i ∧ s.2.1 i ≤ 9) ∧ (1 ≤ s.2.2.1 i ∧ s.2.2.1 i ≤ 9) ∧ (0 ≤ s.2.2.2.1 i ∧ s.2.2.2.1 i ≤ 5)) ∧ (s.2.2.2.2 0 = -1 ∨ (0 ≤ s.2.2.2.2 0 ∧ s.2.2.2.2 0 ≤ 9)) ∧ (s.2.2.2.2 1 = -1 ∨ (1 ≤ s.2.2.2.2 1 ∧ s.2.2.2.2 1 ≤ 9)) ∧ (s.2.2.2.2 2 = -1 ∨ (0 ≤ s.2.2.2.2 2 ∧ s.2.2.2.2 2 ≤ 3))
theorem itemF_le {tf : Nat → Int32} {le a : Nat} {s : PSt} (ha : a < le) (hs : POK s) : (∀ e, itemF tf le a s = .inl e → e ≤ le) ∧ ∀ p' s', itemF tf le a s = .inr (p', s') → a < p' ∧ p' ≤ le ∧ POK s' := by
  obtain ⟨k1, k2, k3, k4, k5⟩ := hs
  unfold itemF
  split
  · rename_i hm
    split
    · rename_i q
      have h := stepF_le (tf := tf) (le := le) (p := a + 1) (s := s) ha
      refine ⟨h.1, fun p' s' e => ?_⟩
      obtain ⟨e1, e2, x, y, z, hx, hy, hz, rfl⟩ := h.2 p' s' e
      have hn9 : s.1 < 9 := by
        rw [q] at hm
        rcases hm with hm | hm | hm | hm
        · exact hm.2
        · exact absurd hm.1 (by decide)
        · exact absurd hm.1 (by decide)
        · exact absurd hm.1 (by decide)
      refine ⟨by omega, e2, by show s.1 + 1 ≤ 9; omega, fun i hi => ?_, k3, k4, k5⟩
      show (1 ≤ upd s.2.1 s.1 x i ∧ upd s.2.1 s.1 x i ≤ 9) ∧ (1 ≤ upd s.2.2.1 s.1 y i ∧ upd s.2.2.1 s.1 y i ≤ 9) ∧ (0 ≤ upd s.2.2.2.1 s.1 z i ∧ upd s.2.2.2.1 s.1 z i ≤ 5)
      unfold upd
      by_cases w : i = s.1
      · rw [if_pos w, if_pos w, if_pos w]; exact ⟨hx, hy, hz⟩
      · rw [if_neg w, if_neg w, if_neg w]
        have hi : i < s.1 + 1 := hi
        exact k2 i (by omega)
    · split
      · have h := coilF_le (tf := tf) (le := le) (p := a + 1) (s := s) (w := 0) (lo := 0) (hh := 9) ha
        refine ⟨h.1, fun p' s' e => ?_⟩
        obtain ⟨e1, e2, hk, rfl⟩ := h.2 p' s' e
        exact ⟨by omega, e2, k1, k2, Or.inr hk.2.2.2, k4, k5⟩
      · split
        · have h := coilF_le (tf := tf) (le := le) (p := a + 1) (s := s) (w := 1) (lo := 1) (hh := 9) ha
          refine ⟨h.1, fun p' s' e => ?_⟩
          obtain ⟨e1, e2, hk, rfl⟩ := h.2 p' s' e
          exact ⟨by omega, e2, k1, k2, k3, Or.inr hk.2.2.2, k5⟩
        · have h := coilF_le (tf := tf) (le := le) (p := a + 1) (s := s) (w := 2) (lo := 0) (hh := 3) ha
          refine ⟨h.1, fun p' s' e => ?_⟩
          obtain ⟨e1, e2, hk, rfl⟩ := h.2 p' s' e
          exact ⟨by omega, e2, k1, k2, k3, k4, Or.inr hk.2.2.2⟩
  · refine ⟨fun e h => (by cases h; omega), fun p' s' h => (by cases h)⟩
abbrev lgC (co : Nat → Int32) : Int32 := if co 0 < 0 then 4 else co 0
abbrev sfC (co : Nat → Int32) : Int32 := if co 1 < 0 then 3 else co 1
abbrev dgC (co : Nat → Int32) : Int32 := if co 2 < 0 then 1 else co 2
theorem mb115 {x : Int32} {n : Nat} {co : Nat → Int32} (h : x = 115) : mayB x n co ↔ n < 9 := by
  subst h
  constructor
  · rintro (q | q | q | q)
    · exact q.2
    · exact absurd q.1 (by decide)
    · exact absurd q.1 (by decide)
    · exact absurd q.1 (by decide)
  · exact fun q => Or.inl ⟨rfl, q⟩
theorem mb108 {x : Int32} {n : Nat} {co : Nat → Int32} (h : x = 108) : mayB x n co ↔ co 0 < 0 := by
  subst h
  constructor
  · rintro (q | q | q | q)
    · exact absurd q.1 (by decide)
    · exact q.2
    · exact absurd q.1 (by decide)
    · exact absurd q.1 (by decide)
  · exact fun q => Or.inr (Or.inl ⟨rfl, q⟩)
theorem mb102 {x : Int32} {n : Nat} {co : Nat → Int32} (h : x = 102) : mayB x n co ↔ co 1 < 0 := by
  subst h
  constructor
  · rintro (q | q | q | q)
    · exact absurd q.1 (by decide)
    · exact absurd q.1 (by decide)
    · exact q.2
    · exact absurd q.1 (by decide)
  · exact fun q => Or.inr (Or.inr (Or.inl ⟨rfl, q⟩))
theorem mb100 {x : Int32} {n : Nat} {co : Nat → Int32} (h : x = 100) : mayB x n co ↔ co 2 < 0 := by
  subst h
  constructor
  · rintro (q | q | q | q)
    · exact absurd q.1 (by decide)
    · exact absurd q.1 (by decide)
    · exact absurd q.1 (by decide)
    · exact q.2
  · exact fun q => Or.inr (Or.inr (Or.inr ⟨rfl, q⟩))
theorem mbNo {x : Int32} {n : Nat} {co : Nat → Int32} (h1 : ¬ x = 100) (h2 : ¬ x = 102) (h3 : ¬ x = 108) (h4 : ¬ x = 115) : ¬ mayB x n co := by
  rintro (q | q | q | q)
  · exact h4 q.1
  · exact h3 q.1
  · exact h2 q.1
  · exact h1 q.1
