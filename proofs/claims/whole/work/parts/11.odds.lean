theorem lx_div {a b : Nat} (ha : a < 2 ^ 31) (hb : b < 2 ^ 31) : lN a / lN b = lN (a / b) := by
  apply Int64.toInt_inj.mp
  have h1 : a / b < 2 ^ 31 := Nat.lt_of_le_of_lt (Nat.div_le_self a b) ha
  have h9 : Int64.minValue.toInt = -9223372036854775808 := by decide
  rw [Int64.toInt_div_of_ne_left _ _ (fun e => by have := congrArg Int64.toInt e; rw [lN_toInt ha, h9] at this; omega), lN_toInt ha, lN_toInt hb, lN_toInt h1]
  exact (Int.ofNat_tdiv a b).symm
theorem lx_rem {a b : Nat} (ha : a < 2 ^ 31) (hb : b < 2 ^ 31) : lN a - lN a / lN b * lN b = lN (a % b) := by
  rw [lx_div ha hb, lN_mul, lN_sub (Nat.div_mul_le_self a b)]
  congr 1
  have := Nat.mod_add_div a b
  rw [Nat.mul_comm] at this
  omega
theorem sh_smod : ∀ i : Fin 16, ((nI i.val &&& 31).toBitVec.smod 32).toNat = i.val := by decide +kernel
theorem sh_one : ∀ i : Fin 16, (1 : Int32) <<< (nI i.val &&& 31) = nI (2 ^ i.val) := by decide +kernel
theorem sh_one' {i : Nat} (h : i < 16) : (1 : Int32) <<< (nI i &&& 31) = nI (2 ^ i) := sh_one ⟨i, h⟩
theorem sh_bit {g i : Nat} (hg : g < 65536) (hi : i < 16) : (nI g >>> (nI i &&& 31)) &&& 1 = nI (g / 2 ^ i % 2) := by
  rw [pk_shrN (by omega) _ i (sh_smod ⟨i, hi⟩), pk_andN (by have := Nat.div_le_self g (2 ^ i); omega) 1 (by decide)]
theorem sh_bit1 {g i : Nat} (hg : g < 65536) (hi : i < 16) : ((nI g >>> (nI i &&& 31)) &&& 1 = 1) ↔ g.testBit i = true := by
  rw [sh_bit hg hi, Nat.testBit_eq_decide_div_mod_eq, decide_eq_true_eq, show (1 : Int32) = nI 1 from rfl, nI_eq (by omega) (by decide)]
def matL (ma : Nat → Int32) : Nat → Nat → List Nat
  | 0, _ => []
  | f + 1, s => if 0 < ma s then s :: matL ma f (s + 1) else matL ma f (s + 1)
theorem matL_mem {ma : Nat → Int32} : ∀ (f s x : Nat), x ∈ matL ma f s → s ≤ x ∧ x < s + f
  | 0, s, x, h => by cases h
  | f + 1, s, x, h => by
    unfold matL at h
    split at h
    · rcases List.mem_cons.mp h with rfl | h
      · omega
      · have := matL_mem f (s + 1) x h; omega
    · have := matL_mem f (s + 1) x h; omega
theorem matL_len {ma : Nat → Int32} : ∀ (f s : Nat), (matL ma f s).length ≤ f
  | 0, s => Nat.le_refl _
  | f + 1, s => by
    unfold matL
    have := matL_len f (s + 1) (ma := ma)
    split
    · show _ + 1 ≤ _; omega
    · omega
theorem gd_mem {l : List Nat} {i : Nat} (h : i < l.length) : l.getD i 0 ∈ l := by
  rw [List.getD_eq_getElem?_getD, List.getElem?_eq_getElem h]
  exact List.getElem_mem h
def wN (x : Nat) : Nat → Nat → Nat
  | 0, _ => 1
  | m + 1, g => wN x m g * (if g.testBit m then x else 10 - x)
theorem wN_le {x : Nat} (hx : x ≤ 10) : ∀ m g, wN x m g ≤ 10 ^ m
  | 0, g => Nat.le_refl _
  | m + 1, g => by
    unfold wN
    rw [Nat.pow_succ]
    exact Nat.mul_le_mul (wN_le hx m g) (by split <;> omega)
def remF (M : List Nat) (ma : Nat → Int32) (g : Nat) : Nat → (Nat → Int32) → (Nat → Int32)
  | 0, wm => wm
  | i + 1, wm => upd (remF M ma g i wm) (M.getD i 0) (if g.testBit i then 0 else ma (M.getD i 0))
def sumN (t : Nat → Nat) : Nat → Nat
  | 0 => 0
  | g + 1 => sumN t g + t g
theorem sumN_add (t : Nat → Nat) (a : Nat) : ∀ b, sumN t (a + b) = sumN t a + sumN (fun g => t (a + g)) b
  | 0 => rfl
  | b + 1 => by
    show sumN t (a + b) + t (a + b) = _
    rw [sumN_add t a b]
    show _ = sumN t a + (sumN _ b + t (a + b))
    omega
theorem sumN_congr {t t' : Nat → Nat} : ∀ b, (∀ g, g < b → t g = t' g) → sumN t b = sumN t' b
  | 0, _ => rfl
  | b + 1, h => by
    unfold sumN
    rw [sumN_congr b (fun g hg => h g (by omega)), h b (by omega)]
theorem sumN_mul (t : Nat → Nat) (c : Nat) : ∀ b, sumN (fun g => t g * c) b = sumN t b * c
  | 0 => (Nat.zero_mul c).symm
  | b + 1 => by
    unfold sumN
    rw [sumN_mul t c b, Nat.add_mul]
theorem sumN_le {t t' : Nat → Nat} : ∀ b, (∀ g, g < b → t g ≤ t' g) → sumN t b ≤ sumN t' b
  | 0, _ => Nat.le_refl _
  | b + 1, h => by
    unfold sumN
    exact Nat.add_le_add (sumN_le b (fun g hg => h g (by omega))) (h b (by omega))
theorem sumN_mono {t : Nat → Nat} {a b : Nat} (h : a ≤ b) : sumN t a ≤ sumN t b := by
  obtain ⟨c, rfl⟩ := Nat.exists_eq_add_of_le h
  rw [sumN_add]
  exact Nat.le_add_right _ _
theorem tb_low {m i g : Nat} (h : i < m) : (2 ^ m + g).testBit i = g.testBit i := Nat.testBit_two_pow_add_gt h g
theorem tb_top {m g : Nat} (h : g < 2 ^ m) : (2 ^ m + g).testBit m = true := by rw [Nat.testBit_two_pow_add_eq, Nat.testBit_lt_two_pow h]; rfl
theorem wN_low {x m : Nat} : ∀ (i g : Nat), i ≤ m → wN x i (2 ^ m + g) = wN x i g
  | 0, g, _ => rfl
  | i + 1, g, h => by
    unfold wN
    rw [wN_low i g (by omega), tb_low (by omega)]
theorem wN_sum {x : Nat} (hx : x ≤ 10) : ∀ m, sumN (fun g => wN x m g) (2 ^ m) = 10 ^ m
  | 0 => rfl
  | m + 1 => by
    rw [show 2 ^ (m + 1) = 2 ^ m + 2 ^ m by rw [Nat.pow_succ]; omega, sumN_add]
    have h1 : sumN (fun g => wN x (m + 1) g) (2 ^ m) = sumN (fun g => wN x m g) (2 ^ m) * (10 - x) := by
      rw [← sumN_mul]
      refine sumN_congr _ (fun g hg => ?_)
      show wN x m g * _ = wN x m g * _
      rw [Nat.testBit_lt_two_pow hg]
      rfl
    have h2 : sumN (fun g => wN x (m + 1) (2 ^ m + g)) (2 ^ m) = sumN (fun g => wN x m g) (2 ^ m) * x := by
      rw [← sumN_mul]
      refine sumN_congr _ (fun g hg => ?_)
      show wN x m (2 ^ m + g) * _ = wN x m g * _
      rw [tb_top hg, wN_low m g (Nat.le_refl _)]
      rfl
    rw [h1, h2, wN_sum hx m, ← Nat.mul_add, Nat.sub_add_cancel hx, Nat.pow_succ]
def eucF : Nat → Nat → Nat → Nat × Nat
  | 0, a, b => (a, b)
  | f + 1, a, b => if b = 0 then (a, b) else eucF f b (a % b)
theorem eucF_gcd : ∀ (k f a b : Nat), b < 2 ^ k → 2 * k + 1 ≤ f → eucF f a b = (Nat.gcd b a, 0)
  | 0, f, a, b, hb, hf => by
    have e : b = 0 := by rw [Nat.pow_zero] at hb; omega
    subst e
    cases f with
    | zero => omega
    | succ f => unfold eucF; rw [if_pos rfl, Nat.gcd_zero_left]
  | k + 1, f, a, b, hb, hf => by
    cases f with
    | zero => omega
    | succ f =>
      unfold eucF
      by_cases h0 : b = 0
      · subst h0; rw [if_pos rfl, Nat.gcd_zero_left]
      · rw [if_neg h0]
        cases f with
        | zero => omega
        | succ f =>
          unfold eucF
          by_cases h1 : a % b = 0
          · rw [if_pos h1]
            have : Nat.gcd b a = b := by rw [Nat.gcd_rec, h1, Nat.gcd_zero_left]
            rw [this, h1]
          · rw [if_neg h1]
            have hlt := Nat.mod_lt a (Nat.pos_of_ne_zero h0)
            have hm := Nat.mod_lt b (Nat.pos_of_ne_zero h1)
            have hhalf : b % (a % b) < 2 ^ k := by
              have h2 : 2 ^ (k + 1) = 2 ^ k + 2 ^ k := by rw [Nat.pow_succ]; omega
              have h3 : a % b + b % (a % b) ≤ b := by
                have := Nat.mod_add_div b (a % b)
                have h4 : 1 ≤ b / (a % b) := (Nat.one_le_div_iff (Nat.pos_of_ne_zero h1)).mpr (Nat.le_of_lt hlt)
                have h5 : a % b * 1 ≤ a % b * (b / (a % b)) := Nat.mul_le_mul_left _ h4
                omega
              omega
            rw [eucF_gcd k f (a % b) (b % (a % b)) hhalf (by omega)]
            congr 1
            rw [← Nat.gcd_rec (a % b) b, ← Nat.gcd_rec b a]
theorem eucF_1000 {a b : Nat} (hb : b < 2 ^ 31) : eucF 1000 a b = (Nat.gcd b a, 0) := eucF_gcd 31 1000 a b hb (by decide)
section CNG
theorem landF_congr {n : Nat} {hi de ma hi' de' ma' : Nat → Int32} {lg dr : Int32} (h : ∀ s, s < n → hi s = hi' s ∧ de s = de' s ∧ ma s = ma' s) : ∀ (f a : Nat) (v sl : Int32), a + f = n → landF hi de ma lg dr f a v sl = landF hi' de' ma' lg dr f a v sl
  | 0, a, v, sl, _ => rfl
  | f + 1, a, v, sl, hf => by
    unfold landF
    obtain ⟨h1, h2, h3⟩ := h a (by omega)
    rw [h1, h2, h3, landF_congr h f (a + 1) _ _ (by omega)]
theorem turnF_congr {n : Nat} {hi de ma hi' de' ma' : Nat → Int32} {lg st dr : Int32} (h : ∀ s, s < n → hi s = hi' s ∧ de s = de' s ∧ ma s = ma' s) {a : Nat} (ha : a < n) (v sl : Int32) : turnF n hi de ma lg st dr a v sl = turnF n hi' de' ma' lg st dr a v sl := by
  unfold turnF
  rw [(h a ha).1, landF_congr h _ _ _ _ (by omega)]
theorem runF_congr {n : Nat} {hi de ma hi' de' ma' : Nat → Int32} {lg st dr : Int32} (h : ∀ s, s < n → hi s = hi' s ∧ de s = de' s ∧ ma s = ma' s) : ∀ (f a : Nat) (v sl c : Int32), runF n hi de ma lg st dr f a v sl c = runF n hi' de' ma' lg st dr f a v sl c
  | 0, a, v, sl, c => rfl
  | f + 1, a, v, sl, c => by
    unfold runF
    by_cases q : 0 < v ∧ a < n
    · rw [if_pos q, if_pos q, turnF_congr h q.2, runF_congr h f]
    · rw [if_neg q, if_neg q]
theorem landF_below {hi de ma ma' : Nat → Int32} {lg dr : Int32} {b : Nat} (h : ∀ s, b < s → ma s = ma' s) : ∀ (f a : Nat) (v sl : Int32), b < a → landF hi de ma lg dr f a v sl = landF hi de ma' lg dr f a v sl
  | 0, a, v, sl, _ => rfl
  | f + 1, a, v, sl, hf => by
    unfold landF
    rw [h a hf, landF_below h f (a + 1) _ _ (by omega)]
theorem turnF_below {n : Nat} {hi de ma ma' : Nat → Int32} {lg st dr : Int32} {b : Nat} (h : ∀ s, b < s → ma s = ma' s) {a : Nat} (ha : b ≤ a) (v sl : Int32) : turnF n hi de ma lg st dr a v sl = turnF n hi de ma' lg st dr a v sl := by
  unfold turnF
  rw [landF_below h _ _ _ _ (by omega)]
theorem runF_below {n : Nat} {hi de ma ma' : Nat → Int32} {lg st dr : Int32} {b : Nat} (h : ∀ s, b < s → ma s = ma' s) : ∀ (f a : Nat) (v sl c : Int32), b ≤ a → runF n hi de ma lg st dr f a v sl c = runF n hi de ma' lg st dr f a v sl c
  | 0, a, v, sl, c, _ => rfl
  | f + 1, a, v, sl, c, hb => by
    unfold runF
    by_cases q : 0 < v ∧ a < n
    · rw [if_pos q, if_pos q, turnF_below h hb, runF_below h f]
      exact Nat.le_trans hb (turnF_le q.2).1
    · rw [if_neg q, if_neg q]
end CNG
theorem remF_agree {M : List Nat} {ma : Nat → Int32} {g n : Nat} {wm wm' : Nat → Int32} (h : ∀ s, s < n → s ∉ M → wm s = wm' s) : ∀ i, i ≤ M.length → ∀ s, s < n → (s ∉ M ∨ ∃ j, j < i ∧ M.getD j 0 = s) → remF M ma g i wm s = remF M ma g i wm' s
  | 0, _, s, hs, hm => by
    rcases hm with hm | ⟨j, hj, _⟩
    · exact h s hs hm
    · omega
  | i + 1, hi, s, hs, hm => by
    show upd _ _ _ s = upd _ _ _ s
    unfold upd
    by_cases e : s = M.getD i 0
    · rw [if_pos e, if_pos e]
    · rw [if_neg e, if_neg e]
      refine remF_agree h i (by omega) s hs ?_
      rcases hm with hm | ⟨j, hj, ej⟩
      · exact Or.inl hm
      · refine Or.inr ⟨j, ?_, ej⟩
        by_cases q : j = i
        · subst q; exact absurd ej.symm e
        · omega
theorem remF_all {M : List Nat} {ma : Nat → Int32} {g n : Nat} {wm wm' : Nat → Int32} (h : ∀ s, s < n → s ∉ M → wm s = wm' s) : ∀ s, s < n → remF M ma g M.length wm s = remF M ma g M.length wm' s := by
  intro s hs
  refine remF_agree h _ (Nat.le_refl _) s hs ?_
  by_cases q : s ∈ M
  · obtain ⟨i, hi, e⟩ := List.mem_iff_getElem.mp q
    exact Or.inr ⟨i, hi, by rw [List.getD_eq_getElem?_getD, List.getElem?_eq_getElem hi]; exact e⟩
  · exact Or.inl q
theorem remF_off {M : List Nat} {ma : Nat → Int32} {g : Nat} {wm : Nat → Int32} {s : Nat} (h : s ∉ M) : ∀ i, i ≤ M.length → remF M ma g i wm s = wm s
  | 0, _ => rfl
  | i + 1, hi => by
    show upd _ _ _ s = _
    unfold upd
    rw [if_neg (fun e => h (by rw [e]; exact gd_mem (by omega)))]
    exact remF_off h i (by omega)
