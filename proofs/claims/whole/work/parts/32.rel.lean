def dnF (ro : (Nat → Int32) → Nat) (x : Nat) (c : Nat → Int32) : Nat → (Nat → Int32) → Nat
  | 0, m => ro m
  | k + 1, m => if c k = 0 then dnF ro x c k m else dnF ro x c k m * (10 - x) + dnF ro x c k (upd m k 0) * x
def dcF (ro : (Nat → Int32) → Nat) (x : Nat) (c : Nat → Int32) (s : Nat) : Nat → (Nat → Int32) → Nat
  | 0, m => ro m
  | f + 1, m => if 0 < c (s + f) then dcF ro x c s f m * (10 - x) + dcF ro x c s f (upd m (s + f) 0) * x else dcF ro x c s f m
theorem p2s (k : Nat) : 2 ^ (k + 1) = 2 ^ k + 2 ^ k := by rw [Nat.pow_succ]; omega
theorem goM_z {m : Nat → Int32} {g : Nat} : goM m g 0 = m := by
  funext i
  exact goM_0 m g i
theorem goM_f {m : Nat → Int32} {g k : Nat} (h : g < 2 ^ k) : goM m g (k + 1) = goM m g k := by
  funext i
  unfold goM
  by_cases q : i < k ∧ g.testBit i = true
  · rw [if_pos q, if_pos ⟨by omega, q.2⟩]
  · rw [if_neg q, if_neg]
    rintro ⟨q1, q2⟩
    by_cases e : i = k
    · subst e
      rw [Nat.testBit_lt_two_pow h] at q2
      cases q2
    · exact q ⟨by omega, q2⟩
theorem goM_t {m : Nat → Int32} {g k : Nat} (h : g < 2 ^ k) : goM m (2 ^ k + g) (k + 1) = goM (upd m k 0) g k := by
  funext i
  unfold goM
  by_cases e : i = k
  · subst e
    rw [if_pos ⟨by omega, tb_top h⟩]
    by_cases q : i < i ∧ g.testBit i = true
    · exact absurd q.1 (Nat.lt_irrefl _)
    · rw [if_neg q, pk_us]
  · rw [pk_un e]
    by_cases q : i < k
    · rw [tb_low q]
      by_cases z : g.testBit i = true
      · rw [if_pos ⟨by omega, z⟩, if_pos ⟨q, z⟩]
      · rw [if_neg (fun y => z y.2), if_neg (fun y => z y.2)]
    · rw [if_neg (fun y => by omega), if_neg (fun y => q y.1)]
theorem dn_model {ro : (Nat → Int32) → Nat} {x : Nat} {c : Nat → Int32} : ∀ (k : Nat) (m : Nat → Int32), sumN (fun g => wM x c k g * ro (goM m g k)) (2 ^ k) = dnF ro x c k m
  | 0, m => by
    show 0 + 1 * ro (goM m 0 0) = ro m
    rw [goM_z, Nat.one_mul, Nat.zero_add]
  | k + 1, m => by
    rw [p2s, sumN_add]
    have h1 : sumN (fun g => wM x c (k + 1) g * ro (goM m g (k + 1))) (2 ^ k) = sumN (fun g => wM x c k g * ro (goM m g k)) (2 ^ k) * (if c k = 0 then 1 else 10 - x) := by
      rw [← sumN_mul]
      refine sumN_congr _ (fun g hg => ?_)
      show wM x c k g * _ * _ = wM x c k g * _ * _
      rw [goM_f hg, Nat.testBit_lt_two_pow hg, Nat.mul_right_comm]
      rfl
    have h2 : sumN (fun g => wM x c (k + 1) (2 ^ k + g) * ro (goM m (2 ^ k + g) (k + 1))) (2 ^ k) = sumN (fun g => wM x c k g * ro (goM (upd m k 0) g k)) (2 ^ k) * (if c k = 0 then 0 else x) := by
      rw [← sumN_mul]
      refine sumN_congr _ (fun g hg => ?_)
      show wM x c k (2 ^ k + g) * _ * _ = wM x c k g * _ * _
      rw [goM_t hg, tb_top hg, wM_low k g (Nat.le_refl _), Nat.mul_right_comm]
      rfl
    rw [h1, h2, dn_model k m, dn_model k (upd m k 0)]
    show _ = if c k = 0 then dnF ro x c k m else dnF ro x c k m * (10 - x) + dnF ro x c k (upd m k 0) * x
    by_cases z : c k = 0
    · rw [if_pos z, if_pos z, if_pos z, Nat.mul_one, Nat.mul_zero, Nat.add_zero]
    · rw [if_neg z, if_neg z, if_neg z]
theorem matL_snoc {ma : Nat → Int32} : ∀ (f s : Nat), matL ma (f + 1) s = matL ma f s ++ (if 0 < ma (s + f) then [s + f] else [])
  | 0, s => by
    show (if 0 < ma s then s :: matL ma 0 (s + 1) else matL ma 0 (s + 1)) = [] ++ (if 0 < ma (s + 0) then [s + 0] else [])
    rfl
  | f + 1, s => by
    have h := matL_snoc (ma := ma) f (s + 1)
    have e : s + 1 + f = s + (f + 1) := by omega
    rw [e] at h
    show (if 0 < ma s then s :: matL ma (f + 1) (s + 1) else matL ma (f + 1) (s + 1)) = (if 0 < ma s then s :: matL ma f (s + 1) else matL ma f (s + 1)) ++ _
    by_cases q : 0 < ma s
    · rw [if_pos q, if_pos q, h]
      rfl
    · rw [if_neg q, if_neg q, h]
theorem gd_app {M : List Nat} {k i : Nat} (h : i < M.length) : (M ++ [k]).getD i 0 = M.getD i 0 := by
  rw [List.getD_eq_getElem?_getD, List.getD_eq_getElem?_getD, List.getElem?_append_left h]
theorem gd_last {M : List Nat} {k : Nat} : (M ++ [k]).getD M.length 0 = k := by
  rw [List.getD_eq_getElem?_getD, List.getElem?_append_right (Nat.le_refl _), Nat.sub_self]
  rfl
theorem remF_app {M : List Nat} {ma : Nat → Int32} {g k : Nat} {m : Nat → Int32} : ∀ i, i ≤ M.length → remF (M ++ [k]) ma g i m = remF M ma g i m
  | 0, _ => rfl
  | i + 1, h => by
    show upd (remF (M ++ [k]) ma g i m) ((M ++ [k]).getD i 0) _ = upd (remF M ma g i m) (M.getD i 0) _
    rw [remF_app i (by omega), gd_app (by omega)]
theorem upd_comm {f : Nat → Int32} {j k : Nat} {v w : Int32} (h : ¬ k = j) : upd (upd f j w) k v = upd (upd f k v) j w := by
  funext i
  unfold upd
  by_cases e : i = k
  · rw [if_pos e, if_neg (fun q => h (e.symm.trans q)), if_pos e]
  · rw [if_neg e]
    by_cases e2 : i = j
    · rw [if_pos e2, if_pos e2]
    · rw [if_neg e2, if_neg e2, if_neg e]
theorem upd_id {f : Nat → Int32} {k : Nat} : upd f k (f k) = f := by
  funext i
  unfold upd
  by_cases e : i = k
  · rw [if_pos e, e]
  · rw [if_neg e]
theorem remF_upd {M : List Nat} {ma : Nat → Int32} {g k : Nat} {m : Nat → Int32} {v : Int32} (hk : k ∉ M) : ∀ i, i ≤ M.length → upd (remF M ma g i m) k v = remF M ma g i (upd m k v)
  | 0, _ => rfl
  | i + 1, h => by
    show upd (upd (remF M ma g i m) (M.getD i 0) _) k v = upd (remF M ma g i (upd m k v)) (M.getD i 0) _
    rw [← remF_upd hk i (by omega)]
    exact upd_comm (fun e => hk (by rw [e]; exact gd_mem (by omega)))
theorem remF_low {M : List Nat} {ma : Nat → Int32} {g j : Nat} {m : Nat → Int32} : ∀ i, i ≤ j → remF M ma (2 ^ j + g) i m = remF M ma g i m
  | 0, _ => rfl
  | i + 1, h => by
    show upd (remF M ma (2 ^ j + g) i m) _ (if (2 ^ j + g).testBit i then _ else _) = upd (remF M ma g i m) _ _
    rw [remF_low i (by omega), tb_low (by omega)]
theorem dn_class {ro : (Nat → Int32) → Nat} {x : Nat} {ma : Nat → Int32} {s : Nat} : ∀ (f : Nat) (m : Nat → Int32), (∀ i, s ≤ i → i < s + f → m i = ma i) → sumN (fun g => wN x (matL ma f s).length g * ro (remF (matL ma f s) ma g (matL ma f s).length m)) (2 ^ (matL ma f s).length) = dcF ro x ma s f m
  | 0, m, _ => by
    show 0 + 1 * ro m = ro m
    rw [Nat.one_mul, Nat.zero_add]
  | f + 1, m, hm => by
    rw [matL_snoc]
    show _ = if 0 < ma (s + f) then dcF ro x ma s f m * (10 - x) + dcF ro x ma s f (upd m (s + f) 0) * x else dcF ro x ma s f m
    by_cases q : 0 < ma (s + f)
    · rw [if_pos q, if_pos q]
      have hk : s + f ∉ matL ma f s := fun h => by have := matL_mem f s (s + f) h; omega
      have r1 := dn_class (ro := ro) (x := x) f m (fun i h1 h2 => hm i h1 (by omega))
      have r2 := dn_class (ro := ro) (x := x) f (upd m (s + f) 0) (fun i h1 h2 => (show upd m (s + f) 0 i = m i from pk_un (by omega)).trans (hm i h1 (by omega)))
      generalize matL ma f s = M at *
      rw [← r1, ← r2, List.length_append]
      show sumN _ (2 ^ (M.length + 1)) = _
      rw [p2s, sumN_add, ← sumN_mul, ← sumN_mul]
      congr 1
      · refine sumN_congr _ (fun g hg => ?_)
        show wN x M.length g * _ * ro (upd (remF (M ++ [s + f]) ma g M.length m) ((M ++ [s + f]).getD M.length 0) (if g.testBit M.length then 0 else ma ((M ++ [s + f]).getD M.length 0))) = _
        rw [Nat.testBit_lt_two_pow hg, gd_last, remF_app _ (Nat.le_refl _), remF_upd hk _ (Nat.le_refl _), Nat.mul_right_comm]
        have e : upd m (s + f) (if false = true then 0 else ma (s + f)) = m := by
          rw [if_neg (by decide), ← hm (s + f) (by omega) (by omega)]
          exact upd_id
        rw [e]
        rfl
      · refine sumN_congr _ (fun g hg => ?_)
        show wN x M.length (2 ^ M.length + g) * _ * ro (upd (remF (M ++ [s + f]) ma (2 ^ M.length + g) M.length m) ((M ++ [s + f]).getD M.length 0) (if (2 ^ M.length + g).testBit M.length then 0 else ma ((M ++ [s + f]).getD M.length 0))) = _
        rw [tb_top hg, gd_last, remF_app _ (Nat.le_refl _), remF_upd hk _ (Nat.le_refl _), remF_low _ (Nat.le_refl _), wN_low _ _ (Nat.le_refl _), Nat.mul_right_comm]
        rfl
    · rw [if_neg q, if_neg q, List.append_nil]
      exact dn_class f m (fun i h1 h2 => hm i h1 (by omega))
theorem dn_above {ro : (Nat → Int32) → Nat} {x a : Nat} {c : Nat → Int32} (hx : x ≤ 10) (hr : ∀ m m' : Nat → Int32, (∀ s, a < s → m s = m' s) → ro m = ro m') : ∀ (k : Nat) (m : Nat → Int32), k ≤ a + 1 → dnF ro x c k m = tensM c k * ro m
  | 0, m, _ => (Nat.one_mul _).symm
  | k + 1, m, h => by
    show (if c k = 0 then dnF ro x c k m else dnF ro x c k m * (10 - x) + dnF ro x c k (upd m k 0) * x) = tensM c k * (if c k = 0 then 1 else 10) * ro m
    rw [dn_above hx hr k m (by omega), dn_above hx hr k (upd m k 0) (by omega), hr (upd m k 0) m (fun s hs => pk_un (by omega))]
    by_cases z : c k = 0
    · rw [if_pos z, if_pos z, Nat.mul_one]
    · rw [if_neg z, if_neg z, ← Nat.mul_add, Nat.sub_add_cancel hx, Nat.mul_right_comm]
theorem dn_split {ro : (Nat → Int32) → Nat} {x a : Nat} {c ma : Nat → Int32} (hx : x ≤ 10) (hr : ∀ m m' : Nat → Int32, (∀ s, a < s → m s = m' s) → ro m = ro m') : ∀ (f : Nat) (m : Nat → Int32), (∀ i, i < a + 1 + f → (c i = 0 ↔ ¬ 0 < ma i)) → dnF ro x c (a + 1 + f) m = tensM c (a + 1) * dcF ro x ma (a + 1) f m
  | 0, m, _ => dn_above hx hr (a + 1) m (Nat.le_refl _)
  | f + 1, m, h => by
    show (if c (a + 1 + f) = 0 then dnF ro x c (a + 1 + f) m else dnF ro x c (a + 1 + f) m * (10 - x) + dnF ro x c (a + 1 + f) (upd m (a + 1 + f) 0) * x) = tensM c (a + 1) * (if 0 < ma (a + 1 + f) then _ else _)
    rw [dn_split hx hr f m (fun i hi => h i (by omega)), dn_split hx hr f (upd m (a + 1 + f) 0) (fun i hi => h i (by omega))]
    by_cases z : c (a + 1 + f) = 0
    · rw [if_pos z, if_neg ((h (a + 1 + f) (by omega)).mp z)]
    · rw [if_neg z, if_pos (Decidable.byContradiction fun q => z ((h (a + 1 + f) (by omega)).mpr q)), Nat.mul_add, Nat.mul_assoc, Nat.mul_assoc]
theorem tens_split {a : Nat} {c ma : Nat → Int32} : ∀ (f : Nat), (∀ i, i < a + 1 + f → (c i = 0 ↔ ¬ 0 < ma i)) → tensM c (a + 1 + f) = tensM c (a + 1) * 10 ^ (matL ma f (a + 1)).length
  | 0, _ => (Nat.mul_one _).symm
  | f + 1, h => by
    show tensM c (a + 1 + f) * (if c (a + 1 + f) = 0 then 1 else 10) = _
    rw [tens_split f (fun i hi => h i (by omega)), matL_snoc, List.length_append]
    by_cases z : c (a + 1 + f) = 0
    · rw [if_pos z, if_neg ((h (a + 1 + f) (by omega)).mp z), Nat.mul_one]
      rfl
    · rw [if_neg z, if_pos (Decidable.byContradiction fun q => z ((h (a + 1 + f) (by omega)).mpr q)), Nat.mul_assoc]
      rfl
theorem wM_congr {x : Nat} {c c' : Nat → Int32} : ∀ (k g : Nat), (∀ s, s < k → c s = c' s) → wM x c k g = wM x c' k g
  | 0, g, _ => rfl
  | k + 1, g, h => by
    unfold wM
    rw [wM_congr k g (fun s hs => h s (by omega)), h k (by omega)]
theorem odds_rel {n a x : Nat} {hi de ma hi' de' mm : Nat → Int32} {lg sf dg v : Int32} (hx : x ≤ 10) (ha : a ≤ n) (hc : ∀ s, s < n → hi s = hi' s ∧ de s = de' s ∧ ma s = mm s) (h0 : ∀ s, s < n → 0 ≤ ma s) :
    ∃ T : Nat, 0 < T ∧ sumN (tmM n hi' de' mm lg sf dg a v x) (2 ^ n) = T * sumN (tmF n hi de (matL ma (n - (a + 1)) (a + 1)) ma ma lg sf dg a v x) (2 ^ (matL ma (n - (a + 1)) (a + 1)).length) ∧ sumN (fun gq => wM x mm n gq) (2 ^ n) = T * 10 ^ (matL ma (n - (a + 1)) (a + 1)).length := by
  obtain ⟨ro, hro⟩ : ∃ ro : (Nat → Int32) → Nat, ∀ m, ro m = if (runF n hi de m lg sf dg 9 a v 0 0).1 = n then 1 else 0 := ⟨_, fun _ => rfl⟩
  have hr : ∀ m m' : Nat → Int32, (∀ s, a < s → m s = m' s) → ro m = ro m' := fun m m' h => by
    rw [hro, hro, runF_below h 9 a v 0 0 (Nat.le_refl _)]
  have hsg : ∀ i, i < n → (mm i = 0 ↔ ¬ 0 < ma i) := fun i hi_ => by
    rw [← (hc i hi_).2.2]
    constructor
    · intro e q
      rw [e] at q
      exact absurd q (by decide)
    · intro q
      exact Int32.le_antisymm (Int32.not_lt.mp q) (h0 i hi_)
  have hM : sumN (tmM n hi' de' mm lg sf dg a v x) (2 ^ n) = dnF ro x mm n mm := by
    rw [← dn_model]
    refine sumN_congr _ (fun g _ => ?_)
    unfold tmM
    rw [hro, runF_congr (hi := hi') (de := de') (hi' := hi) (de' := de) (ma' := goM mm g n) (fun s hs => ⟨(hc s hs).1.symm, (hc s hs).2.1.symm, rfl⟩)]
    by_cases q : (runF n hi de (goM mm g n) lg sf dg 9 a v 0 0).1 = n
    · rw [if_pos q, Nat.mul_one]
      by_cases z : 0 < wM x mm n g
      · rw [if_pos ⟨z, q⟩]
      · rw [if_neg (fun y => z y.1)]; omega
    · rw [if_neg q, if_neg (fun y => q y.2), Nat.mul_zero]
  have hC : ∀ M : List Nat, sumN (tmF n hi de M ma ma lg sf dg a v x) (2 ^ M.length) = sumN (fun g => wN x M.length g * ro (remF M ma g M.length mm)) (2 ^ M.length) := fun M => by
    rw [tmF_congr (fun s hs => (hc s hs).2.2)]
    refine sumN_congr _ (fun g _ => ?_)
    unfold tmF
    rw [hro]
    have hle := runF_le (n := n) (hi := hi) (de := de) (ma := remF M ma g M.length mm) (lg := lg) (st := sf) (dr := dg) 9 a v 0 0 ha
    by_cases q : (runF n hi de (remF M ma g M.length mm) lg sf dg 9 a v 0 0).1 = n
    · rw [if_pos q, Nat.mul_one]
      by_cases z : 0 < wN x M.length g
      · rw [if_pos ⟨z, by omega⟩]
      · rw [if_neg (fun y => z y.1)]; omega
    · rw [if_neg q, if_neg (fun y => by omega), Nat.mul_zero]
  rw [hM, wM_sum hx, hC]
  by_cases q : a < n
  · obtain ⟨f, rfl⟩ : ∃ f, n = a + 1 + f := ⟨n - (a + 1), by omega⟩
    rw [show a + 1 + f - (a + 1) = f by omega]
    refine ⟨tensM mm (a + 1), (tensM_le _).1, ?_, tens_split f hsg⟩
    rw [dn_class f mm (fun i _ h2 => (hc i h2).2.2.symm)]
    exact dn_split hx hr f mm hsg
  · have e : n - (a + 1) = 0 := by omega
    rw [e]
    refine ⟨tensM mm n, (tensM_le _).1, ?_, (Nat.mul_one _).symm⟩
    rw [dn_class 0 mm (fun i _ h2 => by omega)]
    exact dn_above hx hr n mm (by omega)
theorem gcd_sc {A B U L T : Nat} (hT : 0 < T) (hA : A = T * U) (hB : B = T * L) : A / Nat.gcd B A = U / Nat.gcd U L ∧ B / Nat.gcd B A = L / Nat.gcd U L := by
  subst hA hB
  rw [Nat.gcd_mul_left, Nat.mul_div_mul_left _ _ hT, Nat.mul_div_mul_left _ _ hT, Nat.gcd_comm L U]
  exact ⟨rfl, rfl⟩
def PR (s t : PSt) : Prop := s.1 = t.1 ∧ (∀ i, i < s.1 → s.2.1 i = t.2.1 i ∧ s.2.2.1 i = t.2.2.1 i ∧ s.2.2.2.1 i = t.2.2.2.1 i) ∧ s.2.2.2.2 0 = t.2.2.2.2 0 ∧ s.2.2.2.2 1 = t.2.2.2.2 1 ∧ s.2.2.2.2 2 = t.2.2.2.2 2
def PRel (r t : Nat ⊕ (Nat × PSt)) : Prop := (∃ e, r = .inl e ∧ t = .inl e) ∨ ∃ p s s', r = .inr (p, s) ∧ t = .inr (p, s') ∧ PR s s'
theorem endF_rel {tf : Nat → Int32} {le p : Nat} {s t : PSt} (h : PR s t) : PRel (endF tf le p s) (endF tf le p t) := by
  unfold endF
  by_cases q : tk tf le p < le ∧ tf (tk tf le p) = 59
  · rw [if_pos q, if_pos q]; exact Or.inr ⟨_, _, _, rfl, rfl, h⟩
  · rw [if_neg q, if_neg q]; exact Or.inl ⟨_, rfl, rfl⟩
theorem upd_rel {f g : Nat → Int32} {n : Nat} {x : Int32} (h : ∀ i, i < n → f i = g i) : ∀ i, i < n + 1 → upd f n x i = upd g n x i := by
  intro i hi
  unfold upd
  by_cases e : i = n
  · rw [if_pos e, if_pos e]
  · rw [if_neg e, if_neg e]; exact h i (by omega)
theorem stepF_rel {tf : Nat → Int32} {le p : Nat} {s t : PSt} (h : PR s t) : PRel (stepF tf le p s) (stepF tf le p t) := by
  unfold stepF
  split
  · split
    · split
      · refine endF_rel ⟨by show s.1 + 1 = t.1 + 1; rw [h.1], fun i hi => ?_, h.2.2⟩
        rw [← h.1]
        exact ⟨upd_rel (fun i hi => (h.2.1 i hi).1) i hi, upd_rel (fun i hi => (h.2.1 i hi).2.1) i hi, upd_rel (fun i hi => (h.2.1 i hi).2.2) i hi⟩
      · exact Or.inl ⟨_, rfl, rfl⟩
    · exact Or.inl ⟨_, rfl, rfl⟩
  · exact Or.inl ⟨_, rfl, rfl⟩
theorem upd_eq {f g : Nat → Int32} {w i : Nat} {x : Int32} (h : f i = g i) : upd f w x i = upd g w x i := by
  unfold upd
  rw [h]
theorem coilF_rel {tf : Nat → Int32} {le p w : Nat} {lo hh : Int32} {s t : PSt} (h : PR s t) : PRel (coilF tf le p s w lo hh) (coilF tf le p t w lo hh) := by
  unfold coilF
  split
  · exact endF_rel ⟨h.1, h.2.1, upd_eq h.2.2.1, upd_eq h.2.2.2.1, upd_eq h.2.2.2.2⟩
  · exact Or.inl ⟨_, rfl, rfl⟩
theorem itemF_rel {tf : Nat → Int32} {le a : Nat} {s t : PSt} (h : PR s t) : PRel (itemF tf le a s) (itemF tf le a t) := by
  unfold itemF
  have hm : mayB (tf a) s.1 s.2.2.2.2 ↔ mayB (tf a) t.1 t.2.2.2.2 := by
    unfold mayB
    rw [h.1, h.2.2.1, h.2.2.2.1, h.2.2.2.2]
  by_cases q : mayB (tf a) s.1 s.2.2.2.2
  · rw [if_pos q, if_pos (hm.mp q)]
    split
    · exact stepF_rel h
    · split
      · exact coilF_rel h
      · split
        · exact coilF_rel h
        · exact coilF_rel h
  · rw [if_neg q, if_neg (fun z => q (hm.mpr z))]
    exact Or.inl ⟨_, rfl, rfl⟩
theorem parseF_rel {tf : Nat → Int32} {le : Nat} : ∀ (f p it : Nat) (s t : PSt), PR s t → PRel (parseF tf le f p it s) (parseF tf le f p it t)
  | 0, p, it, s, t, h => Or.inr ⟨_, _, _, rfl, rfl, h⟩
  | f + 1, p, it, s, t, h => by
    unfold parseF
    by_cases q : tk tf le p < le
    · rw [if_pos q, if_pos q]
      rcases itemF_rel (tf := tf) (le := le) (a := tk tf le p) h with ⟨e, h1, h2⟩ | ⟨p', s', t', h1, h2, h3⟩
      · rw [h1, h2]; exact Or.inl ⟨_, rfl, rfl⟩
      · rw [h1, h2]; exact parseF_rel f p' (it + 1) s' t' h3
    · rw [if_neg q, if_neg q]; exact Or.inr ⟨_, _, _, rfl, rfl, h⟩
theorem parse_rel {tf hi de ma hi' de' ma' co : Nat → Int32} {le : Nat} : PRel (parseF tf le 100 0 0 (0, hi, de, ma, fun _ => -1)) (parseF tf le 100 0 0 (0, hi', de', ma', CO3 co)) :=
  parseF_rel 100 0 0 _ _ ⟨rfl, fun i h => absurd h (Nat.not_lt_zero _), rfl, rfl, rfl⟩
def PT (n : Nat) (p v f : Int32) (mat rf : Nat → Int32) (B : Nat) : Prop := ∃ a u fl : Nat, (a ≤ n ∧ u < 100 ∧ fl ≤ 999 ∧ (a = n → u = 0)) ∧ (p = nI a ∧ v = nI u ∧ f = nI fl) ∧ (rf B = nI a ∧ rf (B + 1) = nI u ∧ rf (B + 2) = nI fl) ∧ ∀ s, s < n → (0 ≤ mat s ∧ mat s ≤ 5) ∧ rf (B + 3 + s) = mat s
theorem PT.at {n : Nat} {p v f : Int32} {mat mat2 rf rf2 : Nat → Int32} {B B2 : Nat} (h : PT n p v f mat rf B) (hn : n ≤ 9) (hr : ∀ i, i < 12 → rf2 (B2 + i) = rf (B + i)) (hm : ∀ s, s < n → mat2 s = mat s) : PT n p v f mat2 rf2 B2 := by
  obtain ⟨a, u, fl, h1, h2, ⟨h3, h4, h5⟩, h6⟩ := h
  refine ⟨a, u, fl, h1, h2, ⟨(hr 0 (by omega)).trans h3, (hr 1 (by omega)).trans h4, (hr 2 (by omega)).trans h5⟩, fun s hs => ?_⟩
  rw [hm s hs, Nat.add_assoc, hr (3 + s) (by omega), ← Nat.add_assoc]
  exact h6 s hs
abbrev rsl (fr i : Nat) : Nat := (fr + 9 - i) % 10
def LR (n : Nat) (hi de : Nat → Int32) (sf pl vg fp : Int32) (ma : Nat → Int32) (kn fr : Nat) (hp hv hf : Nat → Int32) (hm : Nat → Nat → Int32) (ip0 iv0 if0 : Int32) (ia0 : Nat → Int32) (ip1 iv1 if1 : Int32) (ia1 kf : Nat → Int32) (m : Nat) (e1 : Nat → Int32) (le : Nat) (rf nh nd : Nat → Int32) : Prop :=
  (n ≤ 9 ∧ sf ≤ 9 ∧ (kn ≤ 10 ∧ fr < 10) ∧ le ≤ 100) ∧ (∀ s, s < n → nh s = hi s ∧ nd s = de s) ∧ PT n pl vg fp ma rf 0 ∧ (∀ i, i < kn → PT n (hp (rsl fr i)) (hv (rsl fr i)) (hf (rsl fr i)) (hm (rsl fr i)) rf (12 + 12 * (kn - 1 - i))) ∧ (¬ kf 0 = 0 → PT n ip0 iv0 if0 ia0 rf 132) ∧ (¬ kf 1 = 0 → PT n ip1 iv1 if1 ia1 rf 144) ∧ (m ≤ 6 ∧ ∀ j, j < m → ∃ b, b < n ∧ e1 j = nI b)
section LRS
variable {n : Nat} {hi de : Nat → Int32} {sf pl vg fp : Int32} {ma : Nat → Int32} {kn fr : Nat} {hp hv hf : Nat → Int32} {hm : Nat → Nat → Int32} {ip0 iv0 if0 : Int32} {ia0 : Nat → Int32} {ip1 iv1 if1 : Int32} {ia1 kf : Nat → Int32} {m : Nat} {e1 : Nat → Int32} {le : Nat} {rf nh nd : Nat → Int32}
theorem LR.row {rf2 : Nat → Int32} (h : LR n hi de sf pl vg fp ma kn fr hp hv hf hm ip0 iv0 if0 ia0 ip1 iv1 if1 ia1 kf m e1 le rf nh nd) (hr : ∀ i, i < 156 → rf2 i = rf i) : LR n hi de sf pl vg fp ma kn fr hp hv hf hm ip0 iv0 if0 ia0 ip1 iv1 if1 ia1 kf m e1 le rf2 nh nd := by
  obtain ⟨h1, h2, h3, h4, h5, h6, h7⟩ := h
  have hk := h1.2.2.1.1
  exact ⟨h1, h2, h3.at h1.1 (fun i hi_ => hr _ (by omega)) (fun _ _ => rfl), fun i hi_ => (h4 i hi_).at h1.1 (fun q hq => hr _ (by omega)) (fun _ _ => rfl), fun z => (h5 z).at h1.1 (fun q hq => hr _ (by omega)) (fun _ _ => rfl), fun z => (h6 z).at h1.1 (fun q hq => hr _ (by omega)) (fun _ _ => rfl), h7⟩
theorem kpF_hi {w i : Nat} (hw : w ≤ 10) (h : 132 ≤ i) : kpF rf w i = rf i := by
  unfold kpF
  split
  · exact cpyR_out (by omega)
  · rw [cpyR_out (by omega), cpyR_out (by omega)]
theorem kpN_eq {w : Nat} (hw : w ≤ 10) : kpN w = if w + 1 < 10 then w + 1 else 10 := by
  unfold kpN
  by_cases h : w < 10
  · rw [if_pos h]
    by_cases q : w + 1 < 10
    · rw [if_pos q]
    · rw [if_neg q]; omega
  · rw [if_neg h, if_neg (by omega)]
theorem kpN_le {w : Nat} (hw : w ≤ 10) : kpN w ≤ 10 := by
  unfold kpN
  split <;> omega
theorem LR.keepH (h : LR n hi de sf pl vg fp ma kn fr hp hv hf hm ip0 iv0 if0 ia0 ip1 iv1 if1 ia1 kf m e1 le rf nh nd) {mc0 : Nat → Int32} : ∀ i, i < kpN kn → PT n (upd hp fr pl (rsl ((fr + 1) % 10) i)) (upd hv fr vg (rsl ((fr + 1) % 10) i)) (upd hf fr fp (rsl ((fr + 1) % 10) i)) (updA hm fr (va_cpy ma mc0 0 0 9) (rsl ((fr + 1) % 10) i)) (kpF rf kn) (12 + 12 * (kpN kn - 1 - i)) := by
  obtain ⟨⟨hn, -, ⟨hk, hfr⟩, -⟩, -, h3, h4, -⟩ := h
  intro i hi_
  have hN : kpN kn = if kn < 10 then kn + 1 else 10 := rfl
  cases i with
  | zero =>
    have e : rsl ((fr + 1) % 10) 0 = fr := by show ((fr + 1) % 10 + 9 - 0) % 10 = fr; omega
    rw [e, upd_self, upd_self, upd_self, show updA hm fr (va_cpy ma mc0 0 0 9) fr = va_cpy ma mc0 0 0 9 from if_pos rfl]
    refine h3.at hn (fun q hq => ?_) (fun s hs => cpy_lt (by omega))
    rw [Nat.zero_add]
    unfold kpF
    by_cases z : kn < 10
    · rw [if_pos z, hN, if_pos z, show kn + 1 - 1 - 0 = kn by omega, cpyR_in hq, Nat.zero_add]
    · rw [if_neg z, hN, if_neg z, cpyR_in hq, Nat.zero_add]
      exact cpyR_out (by omega)
  | succ i =>
    have hi2 : i < kn ∧ i + 1 < 10 := by
      rw [hN] at hi_
      split at hi_ <;> omega
    have e : rsl ((fr + 1) % 10) (i + 1) = rsl fr i := by show ((fr + 1) % 10 + 9 - (i + 1)) % 10 = (fr + 9 - i) % 10; omega
    have ne : ¬ rsl fr i = fr := by show ¬ (fr + 9 - i) % 10 = fr; omega
    rw [e, pk_un ne, pk_un ne, pk_un ne, show updA hm fr (va_cpy ma mc0 0 0 9) (rsl fr i) = hm (rsl fr i) from if_neg ne]
    refine (h4 i hi2.1).at hn (fun q hq => ?_) (fun s hs => rfl)
    unfold kpF
    by_cases z : kn < 10
    · rw [if_pos z, hN, if_pos z, show kn + 1 - 1 - (i + 1) = kn - 1 - i by omega]
      exact cpyR_out (by omega)
    · have e10 : kn = 10 := by omega
      rw [if_neg z, hN, if_neg z, cpyR_out (by omega), show 12 + 12 * (10 - 1 - (i + 1)) + q = 12 + (12 * (8 - i) + q) by omega, cpyR_in (by omega)]
      congr 1
      omega
end LRS
theorem bump_nI {fl : Nat} (h : fl < 999) : bump (nI fl) = nI (fl + 1) := by
  unfold bump
  rw [if_neg (fun q => by have := (nI_leI (a := 999) (by decide) (by omega)).mp q; omega)]
  exact nI_1 fl
