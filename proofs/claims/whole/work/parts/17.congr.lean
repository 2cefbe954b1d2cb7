theorem cpy_lt {f g : Nat → Int32} {s : Nat} (h : s < 9) : va_cpy f g 0 0 9 s = f s := by
  rw [pk_cpy_in (Nat.zero_le _) (by omega)]
  congr 1
  omega
section CG2
variable {n : Nat} {hi de ma hi' de' ma' : Nat → Int32} {lg st dr : Int32}
theorem candF_congr {rec rec' : Nat → Int32 → Nat} (h : ∀ s, s < n → hi s = hi' s ∧ de s = de' s ∧ ma s = ma' s) (hr : ∀ a v, rec a v = rec' a v) {a : Nat} (ha : a < n) (v : Int32) (j : Nat) : candF n hi de ma lg st dr rec a v j = candF n hi' de' ma' lg st dr rec' a v j := by
  unfold candF
  rw [turnF_congr h ha, hr]
theorem leastF_congr (h : ∀ s, s < n → hi s = hi' s ∧ de s = de' s ∧ ma s = ma' s) : ∀ (f a : Nat) (v : Int32), leastF n hi de ma lg st dr f a v = leastF n hi' de' ma' lg st dr f a v
  | 0, a, v => rfl
  | f + 1, a, v => by
    unfold leastF
    by_cases ha : a < n
    · rw [if_pos ha, if_pos ha]
      congr 1
      funext j
      exact candF_congr h (fun b w => by rw [leastF_congr h f b w]) ha v j
    · rw [if_neg ha, if_neg ha]
theorem LX_congr (h : ∀ s, s < n → hi s = hi' s ∧ de s = de' s ∧ ma s = ma' s) (a : Nat) (v : Int32) : LX n hi de ma lg st dr a v = LX n hi' de' ma' lg st dr a v := by
  unfold LX LL
  rw [leastF_congr h]
theorem exB_congr {bs bs' : Nat → Nat} {e2 e3 e2' e3' : Nat → Int32} {m : Nat} (h : ∀ s, s < n → hi s = hi' s ∧ de s = de' s ∧ ma s = ma' s) (he : ∀ j, j < m → bs j = bs' j ∧ e2 j = e2' j ∧ e3 j = e3' j) : ∀ (f i : Nat), i + f ≤ m → exB n hi de ma lg bs e2 e3 st dr f i = exB n hi' de' ma' lg bs' e2' e3' st dr f i
  | 0, i, _ => rfl
  | f + 1, i, hi_ => by
    unfold exB
    obtain ⟨h1, h2, h3⟩ := he i (by omega)
    rw [runF_congr h, h1, h2, h3, exB_congr h he f (i + 1) (by omega)]
theorem WW_congr {bs bs' : Nat → Nat} {e2 e3 e2' e3' : Nat → Int32} {m : Nat} (h : ∀ s, s < n → hi s = hi' s ∧ de s = de' s ∧ ma s = ma' s) (he : ∀ j, j < m → bs j = bs' j ∧ e2 j = e2' j ∧ e3 j = e3' j) : WW n hi de ma lg bs e2 e3 m = WW n hi' de' ma' lg bs' e2' e3' m := by
  funext j
  exact exB_congr h he m 0 (by omega)
theorem plF_congr {W : Nat → Bool} (h : ∀ s, s < n → hi s = hi' s ∧ de s = de' s ∧ ma s = ma' s) (a : Nat) (v : Int32) : plF n hi de ma lg W a v = plF n hi' de' ma' lg W a v := by
  funext i
  show (runF _ _ _ _ _ _ _ _ _ _ _ _).1 = _
  rw [runF_congr h]
theorem tmF_congr {M : List Nat} {mm ma0 ma0' : Nat → Int32} {a : Nat} {vg : Int32} {x : Nat} (h : ∀ s, s < n → ma0 s = ma0' s) : tmF n hi de M mm ma0 lg st dr a vg x = tmF n hi de M mm ma0' lg st dr a vg x := by
  funext g
  unfold tmF
  rw [runF_congr (fun s hs => ⟨rfl, rfl, remF_all (fun s hs _ => h s hs) s hs⟩)]
end CG2
def pushF (R : Nat → Nat) (j : Nat) : Nat → Nat → Int32
  | 0, _ => -9
  | f + 1, i => if R i = j then nI i else pushF R j f (i + 1)
theorem pushF_congr {R R' : Nat → Nat} {j : Nat} (h : ∀ i, R i = R' i) : ∀ f i, pushF R j f i = pushF R' j f i
  | 0, i => rfl
  | f + 1, i => by
    unfold pushF
    rw [h i, pushF_congr h f (i + 1)]
