def wM (x : Nat) (mm : Nat → Int32) : Nat → Nat → Nat
  | 0, _ => 1
  | s + 1, g => wM x mm s g * (if mm s = 0 then (if g.testBit s then 0 else 1) else if g.testBit s then x else 10 - x)
def tensM (mm : Nat → Int32) : Nat → Nat
  | 0 => 1
  | s + 1 => tensM mm s * (if mm s = 0 then 1 else 10)
theorem tensM_le {mm : Nat → Int32} : ∀ s, 1 ≤ tensM mm s ∧ tensM mm s ≤ 10 ^ s
  | 0 => ⟨Nat.le_refl _, Nat.le_refl _⟩
  | s + 1 => by
    obtain ⟨h1, h2⟩ := tensM_le s (mm := mm)
    unfold tensM
    rw [Nat.pow_succ]
    split
    · omega
    · omega
theorem wM_le {x : Nat} {mm : Nat → Int32} (hx : x ≤ 10) : ∀ s g, wM x mm s g ≤ 10 ^ s
  | 0, g => Nat.le_refl _
  | s + 1, g => by
    unfold wM
    rw [Nat.pow_succ]
    exact Nat.mul_le_mul (wM_le hx s g) (by split <;> split <;> omega)
theorem wM_low {x m : Nat} {mm : Nat → Int32} : ∀ (i g : Nat), i ≤ m → wM x mm i (2 ^ m + g) = wM x mm i g
  | 0, g, _ => rfl
  | i + 1, g, h => by
    unfold wM
    rw [wM_low i g (by omega), tb_low (by omega)]
theorem wM_sum {x : Nat} {mm : Nat → Int32} (hx : x ≤ 10) : ∀ s, sumN (fun g => wM x mm s g) (2 ^ s) = tensM mm s
  | 0 => rfl
  | s + 1 => by
    rw [show 2 ^ (s + 1) = 2 ^ s + 2 ^ s by rw [Nat.pow_succ]; omega, sumN_add]
    have h1 : sumN (fun g => wM x mm (s + 1) g) (2 ^ s) = sumN (fun g => wM x mm s g) (2 ^ s) * (if mm s = 0 then 1 else 10 - x) := by
      rw [← sumN_mul]
      refine sumN_congr _ (fun g hg => ?_)
      show wM x mm s g * _ = wM x mm s g * _
      rw [Nat.testBit_lt_two_pow hg]
      rfl
    have h2 : sumN (fun g => wM x mm (s + 1) (2 ^ s + g)) (2 ^ s) = sumN (fun g => wM x mm s g) (2 ^ s) * (if mm s = 0 then 0 else x) := by
      rw [← sumN_mul]
      refine sumN_congr _ (fun g hg => ?_)
      show wM x mm s (2 ^ s + g) * _ = wM x mm s g * _
      rw [tb_top hg, wM_low s g (Nat.le_refl _)]
      rfl
    rw [h1, h2, wM_sum hx s, ← Nat.mul_add]
    show _ = tensM mm s * (if mm s = 0 then 1 else 10)
    congr 1
    by_cases z : mm s = 0
    · rw [if_pos z, if_pos z, if_pos z]
    · rw [if_neg z, if_neg z, if_neg z]; omega
def goM (mm : Nat → Int32) (g s : Nat) : Nat → Int32 := fun i => if i < s ∧ g.testBit i = true then 0 else mm i
theorem goM_0 (mm : Nat → Int32) (g i : Nat) : goM mm g 0 i = mm i := if_neg (fun q => absurd q.1 (Nat.not_lt_zero _))
theorem goM_1 {mm rf : Nat → Int32} {g s : Nat} {z : Int32} (hz : z = if g.testBit s then 0 else mm s) (h : ∀ i, i < 9 → rf (159 + i) = goM mm g s i) : ∀ i, i < 9 → upd rf (159 + s) z (159 + i) = goM mm g (s + 1) i := by
  intro i hi
  by_cases e : i = s
  · subst e
    rw [pk_us, hz]
    unfold goM
    by_cases q : g.testBit i = true
    · rw [if_pos q, if_pos ⟨by omega, q⟩]
    · rw [if_neg q, if_neg (fun y => q y.2)]
  · rw [pk_un (by omega), h i hi]
    unfold goM
    by_cases q : i < s ∧ g.testBit i = true
    · rw [if_pos q, if_pos ⟨by omega, q.2⟩]
    · rw [if_neg q, if_neg (fun y => q ⟨by omega, y.2⟩)]
def tmM (n : Nat) (hi de mm : Nat → Int32) (lg st dr : Int32) (a : Nat) (vg : Int32) (x : Nat) : Nat → Nat := fun g => if 0 < wM x mm n g ∧ (runF n hi de (goM mm g n) lg st dr 9 a vg 0 0).1 = n then wM x mm n g else 0
theorem tmM_le {n : Nat} {hi de mm : Nat → Int32} {lg st dr : Int32} {a : Nat} {vg : Int32} {x : Nat} (hx : x ≤ 10) : sumN (tmM n hi de mm lg st dr a vg x) (2 ^ n) ≤ tensM mm n := by
  rw [← wM_sum hx n]
  refine sumN_le _ (fun g _ => ?_)
  unfold tmM
  split
  · exact Nat.le_refl _
  · exact Nat.zero_le _
theorem runF_cg9 {n : Nat} {hi de mm mm' : Nat → Int32} {lg st dr : Int32} (hn : n ≤ 9) (h : ∀ i, i < 9 → mm i = mm' i) (f a : Nat) (v sl c : Int32) : runF n hi de mm lg st dr f a v sl c = runF n hi de mm' lg st dr f a v sl c := runF_congr (fun s hs => ⟨rfl, rfl, h s (by omega)⟩) f a v sl c

set_option maxHeartbeats 4000000 in
set_option maxRecDepth 100000 in
theorem lpe_X9_odds {k : KX} {E : EX} (C : Cx k E cX9_odds RX9 (rmL 5 0 0)) (hnl : ∀ j : Nat, j < 13 → j < k.nL) {mo : Nat} {rw : Nat} {mh : Nat} {md : Nat} {mk : Nat} {mt : Nat} {z1 : Nat} {z2 : Nat} {z3 : Nat} {y1 : Nat} {y2 : Nat} {y3 : Nat} {y4 : Nat} {ya : Nat} {yw : Nat} {yp : Nat} {lg : Int32} {sf : Int32} {dg : Int32} {un : Int32} {le : Int32} {sm : Int32} {tr : Int64} {at_ : Int32} {be : Int32} {rs : Int32} {nu : Int32} {fpu : Int32} {wn : Int32} {n : Nat} {hi : Nat → Int32} {de : Nat → Int32} {mm : Nat → Int32} {a : Nat} {u : Nat} {x : Nat} {y : Int32} (hn : n ≤ 9) (ha : a ≤ n) (hfl : a = n → u = 0) (hx10 : x ≤ 10) {rz : Nat → Int32} (hR : Rt k E (fun (rv_ : Option Value) (rw_ : va_W) => ∃ (rf2 : Nat → Int32) (os2 : Int32) (od2 : Int32) (sl2 : Int32), rv_ = some (.int (if y = 0 then nI ((sumN (tmM n hi de mm lg sf dg a (nI u) x) (2 ^ n)) / Nat.gcd (sumN (fun gq => wM x mm n gq) (2 ^ n)) (sumN (tmM n hi de mm lg sf dg a (nI u) x) (2 ^ n))) else nI ((sumN (fun gq => wM x mm n gq) (2 ^ n)) / Nat.gcd (sumN (fun gq => wM x mm n gq) (2 ^ n)) (sumN (tmM n hi de mm lg sf dg a (nI u) x) (2 ^ n))))) ∧ rw_ = [(mo, .inr (9, [.ref rw, .int (nI n), .int lg, .int sf, .int dg, .ref mh, .ref md, .int un, .ref mk, .ref mt, .int le, .int sm, .ref z1, .ref z2, .ref z3, .long tr, .int at_, .int be, .int rs, .ref y1, .ref y2, .ref y3, .ref y4, .int nu, .int os2, .int od2, .int sl2, .ref ya, .int fpu, .ref yw, .int wn, .ref yp])), aI E rw 168 rf2, aI E mh 9 hi, aI E md 9 de] ∧ (∀ i, i < 156 → rf2 i = rz i)) 0 0 (some .int)) : ∀ (f p1 p2 : Nat) (rf : Nat → Int32) (os od sl : Int32), p1 < 2 ^ 31 → p2 < 2 ^ 31 → eucF f p1 p2 = (Nat.gcd (sumN (fun gq => wM x mm n gq) (2 ^ n)) (sumN (tmM n hi de mm lg sf dg a (nI u) x) (2 ^ n)), 0) → (∀ i, i < 156 → rf i = rz i) → G k E 0 0 213 [some (.ref mo), some (.int (nI x)), some (.int y), some (.long (lN (sumN (tmM n hi de mm lg sf dg a (nI u) x) (2 ^ n)))), none, some (.long (lN (sumN (fun gq => wM x mm n gq) (2 ^ n)))), none, some (.long (lN p1)), none, some (.long (lN p2)), none, none, none] [] [(mo, .inr (9, [.ref rw, .int (nI n), .int lg, .int sf, .int dg, .ref mh, .ref md, .int un, .ref mk, .ref mt, .int le, .int sm, .ref z1, .ref z2, .ref z3, .long tr, .int at_, .int be, .int rs, .ref y1, .ref y2, .ref y3, .ref y4, .int nu, .int os, .int od, .int sl, .ref ya, .int fpu, .ref yw, .int wn, .ref yp])), aI E rw 168 rf, aI E mh 9 hi, aI E md 9 de] := by
  have hB1 : 1 ≤ sumN (fun gq => wM x mm n gq) (2 ^ n) := by rw [wM_sum hx10]; exact (tensM_le n).1
  have hB2 : sumN (fun gq => wM x mm n gq) (2 ^ n) < 2 ^ 31 := by rw [wM_sum hx10]; exact Nat.lt_of_le_of_lt (tensM_le n).2 (ten9 hn)
  have hA2 : sumN (tmM n hi de mm lg sf dg a (nI u) x) (2 ^ n) < 2 ^ 31 := Nat.lt_of_le_of_lt (tmM_le hx10) (Nat.lt_of_le_of_lt (tensM_le n).2 (ten9 hn))
  have hgp : 0 < Nat.gcd (sumN (fun gq => wM x mm n gq) (2 ^ n)) (sumN (tmM n hi de mm lg sf dg a (nI u) x) (2 ^ n)) := Nat.gcd_pos_of_pos_left _ hB1
  have hgl : Nat.gcd (sumN (fun gq => wM x mm n gq) (2 ^ n)) (sumN (tmM n hi de mm lg sf dg a (nI u) x) (2 ^ n)) ≤ sumN (fun gq => wM x mm n gq) (2 ^ n) := Nat.gcd_le_left _ hB1
  intro f
  induction f with
  | zero =>
    intro p1 p2 rf os od sl hp1 hp2 he hrz
    have e1 : p1 = Nat.gcd (sumN (fun gq => wM x mm n gq) (2 ^ n)) (sumN (tmM n hi de mm lg sf dg a (nI u) x) (2 ^ n)) := congrArg Prod.fst he
    have e2 : p2 = 0 := congrArg Prod.snd he
    subst e1
    subst e2
    refine g_lload C dX9_odds_213 rfl ?_
    refine g_lconst (v := 0) C dX9_odds_215 rfl ?_
    refine g_lcmp C dX9_odds_216 ?_
    refine g_if_eq (tgt := 238) C dX9_odds_217 (by decide) (fun c217 => ?_) (fun c217 => ?_)
    · skip
      refine g_iload_n C dX9_odds_238 rfl ?_
      refine g_if_ne (tgt := 249) C dX9_odds_239 (by decide) (fun c239 => ?_) (fun c239 => ?_)
      · skip
        refine g_lload C dX9_odds_249 rfl ?_
        refine g_lload C dX9_odds_251 rfl ?_
        refine g_ldiv C dX9_odds_253 (fun q => absurd ((lN_eq (b := 0) (by omega) (by decide)).mp q) (by omega)) ?_
        refine g_topl (v := lN ((sumN (fun gq => wM x mm n gq) (2 ^ n)) / Nat.gcd (sumN (fun gq => wM x mm n gq) (2 ^ n)) (sumN (tmM n hi de mm lg sf dg a (nI u) x) (2 ^ n)))) (lx_div hB2 (by omega)) ?_
        refine g_l2i (v := nI ((sumN (fun gq => wM x mm n gq) (2 ^ n)) / Nat.gcd (sumN (fun gq => wM x mm n gq) (2 ^ n)) (sumN (tmM n hi de mm lg sf dg a (nI u) x) (2 ^ n)))) C dX9_odds_254 (lN_i _) ?_
        exact g_iret C hR (⟨_, _, _, _, by rw [if_neg c239], rfl, hrz⟩) dX9_odds_255
      · skip
        refine g_lload_n C dX9_odds_242 rfl ?_
        refine g_lload C dX9_odds_243 rfl ?_
        refine g_ldiv C dX9_odds_245 (fun q => absurd ((lN_eq (b := 0) (by omega) (by decide)).mp q) (by omega)) ?_
        refine g_topl (v := lN ((sumN (tmM n hi de mm lg sf dg a (nI u) x) (2 ^ n)) / Nat.gcd (sumN (fun gq => wM x mm n gq) (2 ^ n)) (sumN (tmM n hi de mm lg sf dg a (nI u) x) (2 ^ n)))) (lx_div hA2 (by omega)) ?_
        refine g_goto (tgt := 254) C dX9_odds_246 (by decide) ?_
        refine g_l2i (v := nI ((sumN (tmM n hi de mm lg sf dg a (nI u) x) (2 ^ n)) / Nat.gcd (sumN (fun gq => wM x mm n gq) (2 ^ n)) (sumN (tmM n hi de mm lg sf dg a (nI u) x) (2 ^ n)))) C dX9_odds_254 (lN_i _) ?_
        exact g_iret C hR (⟨_, _, _, _, by rw [if_pos c239], rfl, hrz⟩) dX9_odds_255
    · skip
      exact absurd ((lg_cmp_eq _ _).mpr rfl) c217
  | succ f ih =>
    intro p1 p2 rf os od sl hp1 hp2 he hrz
    unfold eucF at he
    refine g_lload C dX9_odds_213 rfl ?_
    refine g_lconst (v := 0) C dX9_odds_215 rfl ?_
    refine g_lcmp C dX9_odds_216 ?_
    refine g_if_eq (tgt := 238) C dX9_odds_217 (by decide) (fun c217 => ?_) (fun c217 => ?_)
    · skip
      have hb0 : p2 = 0 := (lN_eq hp2 (by decide)).mp ((lg_cmp_eq _ _).mp c217)
      rw [if_pos hb0] at he
      have e1 : p1 = Nat.gcd (sumN (fun gq => wM x mm n gq) (2 ^ n)) (sumN (tmM n hi de mm lg sf dg a (nI u) x) (2 ^ n)) := congrArg Prod.fst he
      subst e1
      refine g_iload_n C dX9_odds_238 rfl ?_
      refine g_if_ne (tgt := 249) C dX9_odds_239 (by decide) (fun c239 => ?_) (fun c239 => ?_)
      · skip
        refine g_lload C dX9_odds_249 rfl ?_
        refine g_lload C dX9_odds_251 rfl ?_
        refine g_ldiv C dX9_odds_253 (fun q => absurd ((lN_eq (b := 0) (by omega) (by decide)).mp q) (by omega)) ?_
        refine g_topl (v := lN ((sumN (fun gq => wM x mm n gq) (2 ^ n)) / Nat.gcd (sumN (fun gq => wM x mm n gq) (2 ^ n)) (sumN (tmM n hi de mm lg sf dg a (nI u) x) (2 ^ n)))) (lx_div hB2 (by omega)) ?_
        refine g_l2i (v := nI ((sumN (fun gq => wM x mm n gq) (2 ^ n)) / Nat.gcd (sumN (fun gq => wM x mm n gq) (2 ^ n)) (sumN (tmM n hi de mm lg sf dg a (nI u) x) (2 ^ n)))) C dX9_odds_254 (lN_i _) ?_
        exact g_iret C hR (⟨_, _, _, _, by rw [if_neg c239], rfl, hrz⟩) dX9_odds_255
      · skip
        refine g_lload_n C dX9_odds_242 rfl ?_
        refine g_lload C dX9_odds_243 rfl ?_
        refine g_ldiv C dX9_odds_245 (fun q => absurd ((lN_eq (b := 0) (by omega) (by decide)).mp q) (by omega)) ?_
        refine g_topl (v := lN ((sumN (tmM n hi de mm lg sf dg a (nI u) x) (2 ^ n)) / Nat.gcd (sumN (fun gq => wM x mm n gq) (2 ^ n)) (sumN (tmM n hi de mm lg sf dg a (nI u) x) (2 ^ n)))) (lx_div hA2 (by omega)) ?_
        refine g_goto (tgt := 254) C dX9_odds_246 (by decide) ?_
        refine g_l2i (v := nI ((sumN (tmM n hi de mm lg sf dg a (nI u) x) (2 ^ n)) / Nat.gcd (sumN (fun gq => wM x mm n gq) (2 ^ n)) (sumN (tmM n hi de mm lg sf dg a (nI u) x) (2 ^ n)))) C dX9_odds_254 (lN_i _) ?_
        exact g_iret C hR (⟨_, _, _, _, by rw [if_pos c239], rfl, hrz⟩) dX9_odds_255
    · skip
      have hb0 : ¬ p2 = 0 := fun q => c217 ((lg_cmp_eq _ _).mpr (by rw [q]; rfl))
      rw [if_neg hb0] at he
      refine g_lload C dX9_odds_220 rfl ?_
      refine g_lload C dX9_odds_222 rfl ?_
      refine g_lrem C dX9_odds_224 (fun q => hb0 ((lN_eq hp2 (by decide)).mp q)) ?_
      refine g_topl (v := lN (p1 % p2)) (lx_rem hp1 hp2) ?_
      refine g_lstore (lv' := [some (.ref mo), some (.int (nI x)), some (.int y), some (.long (lN (sumN (tmM n hi de mm lg sf dg a (nI u) x) (2 ^ n)))), none, some (.long (lN (sumN (fun gq => wM x mm n gq) (2 ^ n)))), none, some (.long (lN p1)), none, some (.long (lN p2)), none, some (.long (lN (p1 % p2))), none]) C dX9_odds_225 (hnl 12 (by decide)) rfl rfl ?_
      refine g_lload C dX9_odds_227 rfl ?_
      refine g_lstore (lv' := [some (.ref mo), some (.int (nI x)), some (.int y), some (.long (lN (sumN (tmM n hi de mm lg sf dg a (nI u) x) (2 ^ n)))), none, some (.long (lN (sumN (fun gq => wM x mm n gq) (2 ^ n)))), none, some (.long (lN p2)), none, some (.long (lN p2)), none, some (.long (lN (p1 % p2))), none]) C dX9_odds_229 (hnl 8 (by decide)) rfl rfl ?_
      refine g_lload C dX9_odds_231 rfl ?_
      refine g_lstore (lv' := [some (.ref mo), some (.int (nI x)), some (.int y), some (.long (lN (sumN (tmM n hi de mm lg sf dg a (nI u) x) (2 ^ n)))), none, some (.long (lN (sumN (fun gq => wM x mm n gq) (2 ^ n)))), none, some (.long (lN p2)), none, some (.long (lN (p1 % p2))), none, some (.long (lN (p1 % p2))), none]) C dX9_odds_233 (hnl 10 (by decide)) rfl rfl ?_
      refine g_goto (tgt := 213) C dX9_odds_235 (by decide) ?_
      refine g_kill 11 (lv' := [some (.ref mo), some (.int (nI x)), some (.int y), some (.long (lN (sumN (tmM n hi de mm lg sf dg a (nI u) x) (2 ^ n)))), none, some (.long (lN (sumN (fun gq => wM x mm n gq) (2 ^ n)))), none, some (.long (lN p2)), none, some (.long (lN (p1 % p2))), none, none, none]) rfl ?_
      exact ih p2 (p1 % p2) _ _ _ _ hp2 (Nat.lt_trans (Nat.mod_lt p1 (Nat.pos_of_ne_zero hb0)) hp2) he hrz

set_option maxHeartbeats 4000000 in
set_option maxRecDepth 100000 in
theorem lps_X9_odds {k : KX} {E : EX} (C : Cx k E cX9_odds RX9 (rmL 5 0 0)) (hnl : ∀ j : Nat, j < 13 → j < k.nL) {mo : Nat} {rw : Nat} {mh : Nat} {md : Nat} {mk : Nat} {mt : Nat} {z1 : Nat} {z2 : Nat} {z3 : Nat} {y1 : Nat} {y2 : Nat} {y3 : Nat} {y4 : Nat} {ya : Nat} {yw : Nat} {yp : Nat} {lg : Int32} {sf : Int32} {dg : Int32} {un : Int32} {le : Int32} {sm : Int32} {tr : Int64} {at_ : Int32} {be : Int32} {rs : Int32} {nu : Int32} {fpu : Int32} {wn : Int32} {n : Nat} {hi : Nat → Int32} {de : Nat → Int32} {mm : Nat → Int32} {a : Nat} {u : Nat} {x : Nat} {y : Int32} (hn : n ≤ 9) (ha : a ≤ n) (hfl : a = n → u = 0) (hx10 : x ≤ 10) {rz : Nat → Int32} {g : Nat} (hg : g < 65536) {ab be0 : Int64} (kout : ∀ (rf : Nat → Int32), rf 0 = nI a → rf 1 = nI u → (∀ s, s < 9 → rf (3 + s) = mm s) → rf 156 = nI a → rf 157 = nI u → (∀ i, i < 9 → rf (159 + i) = goM mm g n i) → (∀ i, i < 156 → rf i = rz i) → G k E 0 0 157 [some (.ref mo), some (.int (nI x)), some (.int y), some (.long ab), none, some (.long be0), none, some (.int (nI g)), some (.long (lN (wM x mm n g))), none, some (.int (nI n)), none, none] [] [(mo, .inr (9, [.ref rw, .int (nI n), .int lg, .int sf, .int dg, .ref mh, .ref md, .int un, .ref mk, .ref mt, .int le, .int sm, .ref z1, .ref z2, .ref z3, .long tr, .int at_, .int be, .int rs, .ref y1, .ref y2, .ref y3, .ref y4, .int nu, .int sf, .int dg, .int 0, .ref ya, .int fpu, .ref yw, .int wn, .ref yp])), aI E rw 168 rf, aI E mh 9 hi, aI E md 9 de]) : ∀ (f s : Nat) (rf : Nat → Int32), s + f = n → rf 0 = nI a → rf 1 = nI u → (∀ s, s < 9 → rf (3 + s) = mm s) → rf 156 = nI a → rf 157 = nI u → (∀ i, i < 9 → rf (159 + i) = goM mm g s i) → (∀ i, i < 156 → rf i = rz i) → G k E 0 0 50 [some (.ref mo), some (.int (nI x)), some (.int y), some (.long ab), none, some (.long be0), none, some (.int (nI g)), some (.long (lN (wM x mm s g))), none, some (.int (nI s)), none, none] [] [(mo, .inr (9, [.ref rw, .int (nI n), .int lg, .int sf, .int dg, .ref mh, .ref md, .int un, .ref mk, .ref mt, .int le, .int sm, .ref z1, .ref z2, .ref z3, .long tr, .int at_, .int be, .int rs, .ref y1, .ref y2, .ref y3, .ref y4, .int nu, .int sf, .int dg, .int 0, .ref ya, .int fpu, .ref yw, .int wn, .ref yp])), aI E rw 168 rf, aI E mh 9 hi, aI E md 9 de] := by
  intro f
  induction f with
  | zero =>
    intro s rf hs h0 h1 hmm h2 h3 h4 hrz
    have e : s = n := by omega
    subst e
    refine g_iload C dX9_odds_50 rfl ?_
    refine g_aload_n C dX9_odds_52 rfl ?_
    refine g_get C kwX9 0 rfl rfl 1 (by decide) kfX9_66 rfl dX9_odds_53 ?_
    refine g_icmp_ge (tgt := 157) C dX9_odds_56 (by decide) (fun c56 => ?_) (fun c56 => ?_)
    · skip
      exact kout rf h0 h1 hmm h2 h3 h4 hrz
    · skip
      exact absurd (Int32.le_refl _) c56
  | succ f ih =>
    intro s rf hs h0 h1 hmm h2 h3 h4 hrz
    refine g_iload C dX9_odds_50 rfl ?_
    refine g_aload_n C dX9_odds_52 rfl ?_
    refine g_get C kwX9 0 rfl rfl 1 (by decide) kfX9_66 rfl dX9_odds_53 ?_
    refine g_icmp_ge (tgt := 157) C dX9_odds_56 (by decide) (fun c56 => ?_) (fun c56 => ?_)
    · skip
      exact absurd (nx_ge (by omega) (by omega) c56) (by omega)
    · skip
      refine g_iload C dX9_odds_59 rfl ?_
      refine g_iload C dX9_odds_61 rfl ?_
      refine g_ishr C dX9_odds_63 ?_
      refine g_iconst (v := 1) C dX9_odds_64 (by decide) ?_
      refine g_iand C dX9_odds_65 ?_
      refine g_iconst (v := 1) C dX9_odds_66 (by decide) ?_
      refine g_icmp_ne (tgt := 74) C dX9_odds_67 (by decide) (fun c67 => ?_) (fun c67 => ?_)
      · skip
        have hb : ¬ g.testBit s = true := fun q => c67 ((sh_bit1 hg (by omega)).mpr q)
        refine g_iconst (v := 0) C dX9_odds_74 (by decide) ?_
        refine g_istore (lv' := [some (.ref mo), some (.int (nI x)), some (.int y), some (.long ab), none, some (.long be0), none, some (.int (nI g)), some (.long (lN (wM x mm s g))), none, some (.int (nI s)), some (.int 0), none]) C dX9_odds_75 (hnl 11 (by decide)) rfl rfl ?_
        refine g_lload C dX9_odds_77 rfl ?_
        refine g_aload_n C dX9_odds_79 rfl ?_
        refine g_get C kwX9 0 rfl rfl 0 (by decide) kfX9_7 rfl dX9_odds_80 ?_
        refine g_iconst (v := 3) C dX9_odds_83 (by decide) ?_
        refine g_iload C dX9_odds_84 rfl ?_
        refine g_iadd C dX9_odds_86 ?_
        refine g_topi (v := nI (3 + s)) (nI_add 3 _) ?_
        refine g_iald C 1 (3 + s) rfl (rfl) (by omega) (by decide) dX9_odds_87 ?_
        refine g_topi (v := mm s) (hmm s (by omega)) ?_
        refine g_if_ne (tgt := 104) C dX9_odds_88 (by decide) (fun c88 => ?_) (fun c88 => ?_)
        · skip
          have hz := c88
          refine g_iload C dX9_odds_104 rfl ?_
          refine g_if_eq (tgt := 114) C dX9_odds_106 (by decide) (fun c106 => ?_) (fun c106 => ?_)
          · skip
            refine g_bipush (v := 10) C dX9_odds_114 (by decide) ?_
            refine g_iload_n C dX9_odds_116 rfl ?_
            refine g_isub C dX9_odds_117 ?_
            refine g_topi (v := nI (10 - x)) (pk_sub hx10) ?_
            refine g_i2l (v := lN (10 - x)) C dX9_odds_118 (nI_l (by omega)) ?_
            refine g_lmul C dX9_odds_119 ?_
            refine g_topl (v := lN (wM x mm (s + 1) g)) (by rw [wM, if_neg hz, if_neg hb]; exact lN_mul _ _) ?_
            refine g_lstore (lv' := [some (.ref mo), some (.int (nI x)), some (.int y), some (.long ab), none, some (.long be0), none, some (.int (nI g)), some (.long (lN (wM x mm (s + 1) g))), none, some (.int (nI s)), some (.int 0), none]) C dX9_odds_120 (hnl 9 (by decide)) rfl rfl ?_
            refine g_aload_n C dX9_odds_122 rfl ?_
            refine g_get C kwX9 0 rfl rfl 0 (by decide) kfX9_7 rfl dX9_odds_123 ?_
            refine g_sipush (v := 159) C dX9_odds_126 (by decide) ?_
            refine g_iload C dX9_odds_129 rfl ?_
            refine g_iadd C dX9_odds_131 ?_
            refine g_topi (v := nI (159 + s)) (nI_add 159 _) ?_
            refine g_iload C dX9_odds_132 rfl ?_
            refine g_if_eq (tgt := 141) C dX9_odds_134 (by decide) (fun c134 => ?_) (fun c134 => ?_)
            · skip
              refine g_aload_n C dX9_odds_141 rfl ?_
              refine g_get C kwX9 0 rfl rfl 0 (by decide) kfX9_7 rfl dX9_odds_142 ?_
              refine g_iconst (v := 3) C dX9_odds_145 (by decide) ?_
              refine g_iload C dX9_odds_146 rfl ?_
              refine g_iadd C dX9_odds_148 ?_
              refine g_topi (v := nI (3 + s)) (nI_add 3 _) ?_
              refine g_iald C 1 (3 + s) rfl (rfl) (by omega) (by decide) dX9_odds_149 ?_
              refine g_topi (v := mm s) (hmm s (by omega)) ?_
              refine g_iast (ws' := [(mo, .inr (9, [.ref rw, .int (nI n), .int lg, .int sf, .int dg, .ref mh, .ref md, .int un, .ref mk, .ref mt, .int le, .int sm, .ref z1, .ref z2, .ref z3, .long tr, .int at_, .int be, .int rs, .ref y1, .ref y2, .ref y3, .ref y4, .int nu, .int sf, .int dg, .int 0, .ref ya, .int fpu, .ref yw, .int wn, .ref yp])), aI E rw 168 (upd rf (159 + s) (mm s)), aI E mh 9 hi, aI E md 9 de]) C 1 (159 + s) rfl (rfl) (by omega) (by decide) rfl dX9_odds_150 ?_
              refine g_iinc (v := nI (s + 1)) (lv' := [some (.ref mo), some (.int (nI x)), some (.int y), some (.long ab), none, some (.long be0), none, some (.int (nI g)), some (.long (lN (wM x mm (s + 1) g))), none, some (.int (nI (s + 1))), some (.int 0), none]) C dX9_odds_151 rfl (nI_add _ 1) (hnl 10 (by decide)) rfl rfl ?_
              refine g_goto (tgt := 50) C dX9_odds_154 (by decide) ?_
              refine g_kill 11 (lv' := [some (.ref mo), some (.int (nI x)), some (.int y), some (.long ab), none, some (.long be0), none, some (.int (nI g)), some (.long (lN (wM x mm (s + 1) g))), none, some (.int (nI (s + 1))), none, none]) rfl ?_
              exact ih (s + 1) _ (by omega) (by rw [pk_un (by omega)]; exact h0) (by rw [pk_un (by omega)]; exact h1) (fun i hi => by rw [pk_un (by omega)]; exact hmm i hi) (by rw [pk_un (by omega)]; exact h2) (by rw [pk_un (by omega)]; exact h3) (goM_1 (by rw [if_neg hb]) h4) (fun i q => by rw [pk_un (by omega)]; exact hrz i q)
            · skip
              exact absurd rfl c134
          · skip
            exact absurd rfl c106
        · skip
          have hz := c88
          refine g_iload C dX9_odds_91 rfl ?_
          refine g_if_eq (tgt := 100) C dX9_odds_93 (by decide) (fun c93 => ?_) (fun c93 => ?_)
          · skip
            refine g_lconst (v := 1) C dX9_odds_100 rfl ?_
            refine g_goto (tgt := 119) C dX9_odds_101 (by decide) ?_
            refine g_lmul C dX9_odds_119 ?_
            refine g_topl (v := lN (wM x mm (s + 1) g)) (by rw [wM, if_pos hz, if_neg hb]; exact lN_mul _ _) ?_
            refine g_lstore (lv' := [some (.ref mo), some (.int (nI x)), some (.int y), some (.long ab), none, some (.long be0), none, some (.int (nI g)), some (.long (lN (wM x mm (s + 1) g))), none, some (.int (nI s)), some (.int 0), none]) C dX9_odds_120 (hnl 9 (by decide)) rfl rfl ?_
            refine g_aload_n C dX9_odds_122 rfl ?_
            refine g_get C kwX9 0 rfl rfl 0 (by decide) kfX9_7 rfl dX9_odds_123 ?_
            refine g_sipush (v := 159) C dX9_odds_126 (by decide) ?_
            refine g_iload C dX9_odds_129 rfl ?_
            refine g_iadd C dX9_odds_131 ?_
            refine g_topi (v := nI (159 + s)) (nI_add 159 _) ?_
            refine g_iload C dX9_odds_132 rfl ?_
            refine g_if_eq (tgt := 141) C dX9_odds_134 (by decide) (fun c134 => ?_) (fun c134 => ?_)
            · skip
              refine g_aload_n C dX9_odds_141 rfl ?_
              refine g_get C kwX9 0 rfl rfl 0 (by decide) kfX9_7 rfl dX9_odds_142 ?_
              refine g_iconst (v := 3) C dX9_odds_145 (by decide) ?_
              refine g_iload C dX9_odds_146 rfl ?_
              refine g_iadd C dX9_odds_148 ?_
              refine g_topi (v := nI (3 + s)) (nI_add 3 _) ?_
              refine g_iald C 1 (3 + s) rfl (rfl) (by omega) (by decide) dX9_odds_149 ?_
              refine g_topi (v := mm s) (hmm s (by omega)) ?_
              refine g_iast (ws' := [(mo, .inr (9, [.ref rw, .int (nI n), .int lg, .int sf, .int dg, .ref mh, .ref md, .int un, .ref mk, .ref mt, .int le, .int sm, .ref z1, .ref z2, .ref z3, .long tr, .int at_, .int be, .int rs, .ref y1, .ref y2, .ref y3, .ref y4, .int nu, .int sf, .int dg, .int 0, .ref ya, .int fpu, .ref yw, .int wn, .ref yp])), aI E rw 168 (upd rf (159 + s) (mm s)), aI E mh 9 hi, aI E md 9 de]) C 1 (159 + s) rfl (rfl) (by omega) (by decide) rfl dX9_odds_150 ?_
              refine g_iinc (v := nI (s + 1)) (lv' := [some (.ref mo), some (.int (nI x)), some (.int y), some (.long ab), none, some (.long be0), none, some (.int (nI g)), some (.long (lN (wM x mm (s + 1) g))), none, some (.int (nI (s + 1))), some (.int 0), none]) C dX9_odds_151 rfl (nI_add _ 1) (hnl 10 (by decide)) rfl rfl ?_
              refine g_goto (tgt := 50) C dX9_odds_154 (by decide) ?_
              refine g_kill 11 (lv' := [some (.ref mo), some (.int (nI x)), some (.int y), some (.long ab), none, some (.long be0), none, some (.int (nI g)), some (.long (lN (wM x mm (s + 1) g))), none, some (.int (nI (s + 1))), none, none]) rfl ?_
              exact ih (s + 1) _ (by omega) (by rw [pk_un (by omega)]; exact h0) (by rw [pk_un (by omega)]; exact h1) (fun i hi => by rw [pk_un (by omega)]; exact hmm i hi) (by rw [pk_un (by omega)]; exact h2) (by rw [pk_un (by omega)]; exact h3) (goM_1 (by rw [if_neg hb]) h4) (fun i q => by rw [pk_un (by omega)]; exact hrz i q)
            · skip
              exact absurd rfl c134
          · skip
            exact absurd rfl c93
      · skip
        have hb := (sh_bit1 hg (by omega)).mp c67
        refine g_iconst (v := 1) C dX9_odds_70 (by decide) ?_
        refine g_goto (tgt := 75) C dX9_odds_71 (by decide) ?_
        refine g_istore (lv' := [some (.ref mo), some (.int (nI x)), some (.int y), some (.long ab), none, some (.long be0), none, some (.int (nI g)), some (.long (lN (wM x mm s g))), none, some (.int (nI s)), some (.int 1), none]) C dX9_odds_75 (hnl 11 (by decide)) rfl rfl ?_
        refine g_lload C dX9_odds_77 rfl ?_
        refine g_aload_n C dX9_odds_79 rfl ?_
        refine g_get C kwX9 0 rfl rfl 0 (by decide) kfX9_7 rfl dX9_odds_80 ?_
        refine g_iconst (v := 3) C dX9_odds_83 (by decide) ?_
        refine g_iload C dX9_odds_84 rfl ?_
        refine g_iadd C dX9_odds_86 ?_
        refine g_topi (v := nI (3 + s)) (nI_add 3 _) ?_
        refine g_iald C 1 (3 + s) rfl (rfl) (by omega) (by decide) dX9_odds_87 ?_
        refine g_topi (v := mm s) (hmm s (by omega)) ?_
        refine g_if_ne (tgt := 104) C dX9_odds_88 (by decide) (fun c88 => ?_) (fun c88 => ?_)
        · skip
          have hz := c88
          refine g_iload C dX9_odds_104 rfl ?_
          refine g_if_eq (tgt := 114) C dX9_odds_106 (by decide) (fun c106 => ?_) (fun c106 => ?_)
          · skip
            exact absurd c106 (by decide)
          · skip
            refine g_iload_n C dX9_odds_109 rfl ?_
            refine g_i2l (v := lN x) C dX9_odds_110 (nI_l (by omega)) ?_
            refine g_goto (tgt := 119) C dX9_odds_111 (by decide) ?_
            refine g_lmul C dX9_odds_119 ?_
            refine g_topl (v := lN (wM x mm (s + 1) g)) (by rw [wM, if_neg hz, if_pos hb]; exact lN_mul _ _) ?_
            refine g_lstore (lv' := [some (.ref mo), some (.int (nI x)), some (.int y), some (.long ab), none, some (.long be0), none, some (.int (nI g)), some (.long (lN (wM x mm (s + 1) g))), none, some (.int (nI s)), some (.int 1), none]) C dX9_odds_120 (hnl 9 (by decide)) rfl rfl ?_
            refine g_aload_n C dX9_odds_122 rfl ?_
            refine g_get C kwX9 0 rfl rfl 0 (by decide) kfX9_7 rfl dX9_odds_123 ?_
            refine g_sipush (v := 159) C dX9_odds_126 (by decide) ?_
            refine g_iload C dX9_odds_129 rfl ?_
            refine g_iadd C dX9_odds_131 ?_
            refine g_topi (v := nI (159 + s)) (nI_add 159 _) ?_
            refine g_iload C dX9_odds_132 rfl ?_
            refine g_if_eq (tgt := 141) C dX9_odds_134 (by decide) (fun c134 => ?_) (fun c134 => ?_)
            · skip
              exact absurd c134 (by decide)
            · skip
              refine g_iconst (v := 0) C dX9_odds_137 (by decide) ?_
              refine g_goto (tgt := 150) C dX9_odds_138 (by decide) ?_
              refine g_iast (ws' := [(mo, .inr (9, [.ref rw, .int (nI n), .int lg, .int sf, .int dg, .ref mh, .ref md, .int un, .ref mk, .ref mt, .int le, .int sm, .ref z1, .ref z2, .ref z3, .long tr, .int at_, .int be, .int rs, .ref y1, .ref y2, .ref y3, .ref y4, .int nu, .int sf, .int dg, .int 0, .ref ya, .int fpu, .ref yw, .int wn, .ref yp])), aI E rw 168 (upd rf (159 + s) 0), aI E mh 9 hi, aI E md 9 de]) C 1 (159 + s) rfl (rfl) (by omega) (by decide) rfl dX9_odds_150 ?_
              refine g_iinc (v := nI (s + 1)) (lv' := [some (.ref mo), some (.int (nI x)), some (.int y), some (.long ab), none, some (.long be0), none, some (.int (nI g)), some (.long (lN (wM x mm (s + 1) g))), none, some (.int (nI (s + 1))), some (.int 1), none]) C dX9_odds_151 rfl (nI_add _ 1) (hnl 10 (by decide)) rfl rfl ?_
              refine g_goto (tgt := 50) C dX9_odds_154 (by decide) ?_
              refine g_kill 11 (lv' := [some (.ref mo), some (.int (nI x)), some (.int y), some (.long ab), none, some (.long be0), none, some (.int (nI g)), some (.long (lN (wM x mm (s + 1) g))), none, some (.int (nI (s + 1))), none, none]) rfl ?_
              exact ih (s + 1) _ (by omega) (by rw [pk_un (by omega)]; exact h0) (by rw [pk_un (by omega)]; exact h1) (fun i hi => by rw [pk_un (by omega)]; exact hmm i hi) (by rw [pk_un (by omega)]; exact h2) (by rw [pk_un (by omega)]; exact h3) (goM_1 (by rw [if_pos hb]) h4) (fun i q => by rw [pk_un (by omega)]; exact hrz i q)
        · skip
          have hz := c88
          refine g_iload C dX9_odds_91 rfl ?_
          refine g_if_eq (tgt := 100) C dX9_odds_93 (by decide) (fun c93 => ?_) (fun c93 => ?_)
          · skip
            exact absurd c93 (by decide)
          · skip
            refine g_lconst (v := 0) C dX9_odds_96 rfl ?_
            refine g_goto (tgt := 119) C dX9_odds_97 (by decide) ?_
            refine g_lmul C dX9_odds_119 ?_
            refine g_topl (v := lN (wM x mm (s + 1) g)) (by rw [wM, if_pos hz, if_pos hb]; exact lN_mul _ _) ?_
            refine g_lstore (lv' := [some (.ref mo), some (.int (nI x)), some (.int y), some (.long ab), none, some (.long be0), none, some (.int (nI g)), some (.long (lN (wM x mm (s + 1) g))), none, some (.int (nI s)), some (.int 1), none]) C dX9_odds_120 (hnl 9 (by decide)) rfl rfl ?_
            refine g_aload_n C dX9_odds_122 rfl ?_
            refine g_get C kwX9 0 rfl rfl 0 (by decide) kfX9_7 rfl dX9_odds_123 ?_
            refine g_sipush (v := 159) C dX9_odds_126 (by decide) ?_
            refine g_iload C dX9_odds_129 rfl ?_
            refine g_iadd C dX9_odds_131 ?_
            refine g_topi (v := nI (159 + s)) (nI_add 159 _) ?_
            refine g_iload C dX9_odds_132 rfl ?_
            refine g_if_eq (tgt := 141) C dX9_odds_134 (by decide) (fun c134 => ?_) (fun c134 => ?_)
            · skip
              exact absurd c134 (by decide)
            · skip
              refine g_iconst (v := 0) C dX9_odds_137 (by decide) ?_
              refine g_goto (tgt := 150) C dX9_odds_138 (by decide) ?_
              refine g_iast (ws' := [(mo, .inr (9, [.ref rw, .int (nI n), .int lg, .int sf, .int dg, .ref mh, .ref md, .int un, .ref mk, .ref mt, .int le, .int sm, .ref z1, .ref z2, .ref z3, .long tr, .int at_, .int be, .int rs, .ref y1, .ref y2, .ref y3, .ref y4, .int nu, .int sf, .int dg, .int 0, .ref ya, .int fpu, .ref yw, .int wn, .ref yp])), aI E rw 168 (upd rf (159 + s) 0), aI E mh 9 hi, aI E md 9 de]) C 1 (159 + s) rfl (rfl) (by omega) (by decide) rfl dX9_odds_150 ?_
              refine g_iinc (v := nI (s + 1)) (lv' := [some (.ref mo), some (.int (nI x)), some (.int y), some (.long ab), none, some (.long be0), none, some (.int (nI g)), some (.long (lN (wM x mm (s + 1) g))), none, some (.int (nI (s + 1))), some (.int 1), none]) C dX9_odds_151 rfl (nI_add _ 1) (hnl 10 (by decide)) rfl rfl ?_
              refine g_goto (tgt := 50) C dX9_odds_154 (by decide) ?_
              refine g_kill 11 (lv' := [some (.ref mo), some (.int (nI x)), some (.int y), some (.long ab), none, some (.long be0), none, some (.int (nI g)), some (.long (lN (wM x mm (s + 1) g))), none, some (.int (nI (s + 1))), none, none]) rfl ?_
              exact ih (s + 1) _ (by omega) (by rw [pk_un (by omega)]; exact h0) (by rw [pk_un (by omega)]; exact h1) (fun i hi => by rw [pk_un (by omega)]; exact hmm i hi) (by rw [pk_un (by omega)]; exact h2) (by rw [pk_un (by omega)]; exact h3) (goM_1 (by rw [if_pos hb]) h4) (fun i q => by rw [pk_un (by omega)]; exact hrz i q)

set_option maxHeartbeats 4000000 in
set_option maxRecDepth 100000 in
theorem lpg_X9_odds {k : KX} {E : EX} (C : Cx k E cX9_odds RX9 (rmL 5 0 0)) (hnl : ∀ j : Nat, j < 13 → j < k.nL) {mo : Nat} {rw : Nat} {mh : Nat} {md : Nat} {mk : Nat} {mt : Nat} {z1 : Nat} {z2 : Nat} {z3 : Nat} {y1 : Nat} {y2 : Nat} {y3 : Nat} {y4 : Nat} {ya : Nat} {yw : Nat} {yp : Nat} {lg : Int32} {sf : Int32} {dg : Int32} {un : Int32} {le : Int32} {sm : Int32} {tr : Int64} {at_ : Int32} {be : Int32} {rs : Int32} {nu : Int32} {fpu : Int32} {wn : Int32} {n : Nat} {hi : Nat → Int32} {de : Nat → Int32} {mm : Nat → Int32} {a : Nat} {u : Nat} {x : Nat} {y : Int32} (hn : n ≤ 9) (ha : a ≤ n) (hfl : a = n → u = 0) (hx10 : x ≤ 10) {rz : Nat → Int32} (hR : Rt k E (fun (rv_ : Option Value) (rw_ : va_W) => ∃ (rf2 : Nat → Int32) (os2 : Int32) (od2 : Int32) (sl2 : Int32), rv_ = some (.int (if y = 0 then nI ((sumN (tmM n hi de mm lg sf dg a (nI u) x) (2 ^ n)) / Nat.gcd (sumN (fun gq => wM x mm n gq) (2 ^ n)) (sumN (tmM n hi de mm lg sf dg a (nI u) x) (2 ^ n))) else nI ((sumN (fun gq => wM x mm n gq) (2 ^ n)) / Nat.gcd (sumN (fun gq => wM x mm n gq) (2 ^ n)) (sumN (tmM n hi de mm lg sf dg a (nI u) x) (2 ^ n))))) ∧ rw_ = [(mo, .inr (9, [.ref rw, .int (nI n), .int lg, .int sf, .int dg, .ref mh, .ref md, .int un, .ref mk, .ref mt, .int le, .int sm, .ref z1, .ref z2, .ref z3, .long tr, .int at_, .int be, .int rs, .ref y1, .ref y2, .ref y3, .ref y4, .int nu, .int os2, .int od2, .int sl2, .ref ya, .int fpu, .ref yw, .int wn, .ref yp])), aI E rw 168 rf2, aI E mh 9 hi, aI E md 9 de] ∧ (∀ i, i < 156 → rf2 i = rz i)) 0 0 (some .int)) : ∀ (f g : Nat) (rf : Nat → Int32) (os od sl : Int32), g + f = 2 ^ n → rf 0 = nI a → rf 1 = nI u → (∀ s, s < 9 → rf (3 + s) = mm s) → (∀ i, i < 156 → rf i = rz i) → G k E 0 0 29 [some (.ref mo), some (.int (nI x)), some (.int y), some (.long (lN (sumN (tmM n hi de mm lg sf dg a (nI u) x) g))), none, some (.long (lN (sumN (fun gq => wM x mm n gq) g))), none, some (.int (nI g)), none, none, none, none, none] [] [(mo, .inr (9, [.ref rw, .int (nI n), .int lg, .int sf, .int dg, .ref mh, .ref md, .int un, .ref mk, .ref mt, .int le, .int sm, .ref z1, .ref z2, .ref z3, .long tr, .int at_, .int be, .int rs, .ref y1, .ref y2, .ref y3, .ref y4, .int nu, .int os, .int od, .int sl, .ref ya, .int fpu, .ref yw, .int wn, .ref yp])), aI E rw 168 rf, aI E mh 9 hi, aI E md 9 de] := by
  have h512 := two9 hn
  have hA2 : sumN (tmM n hi de mm lg sf dg a (nI u) x) (2 ^ n) < 2 ^ 31 := Nat.lt_of_le_of_lt (tmM_le hx10) (Nat.lt_of_le_of_lt (tensM_le n).2 (ten9 hn))
  have hB2 : sumN (fun gq => wM x mm n gq) (2 ^ n) < 2 ^ 31 := by rw [wM_sum hx10]; exact Nat.lt_of_le_of_lt (tensM_le n).2 (ten9 hn)
  intro f
  induction f with
  | zero =>
    intro g rf os od sl hg h0 h1 hmm hrz
    have e : g = 2 ^ n := by omega
    subst e
    refine g_iload C dX9_odds_29 rfl ?_
    refine g_iconst (v := 1) C dX9_odds_31 (by decide) ?_
    refine g_aload_n C dX9_odds_32 rfl ?_
    refine g_get C kwX9 0 rfl rfl 1 (by decide) kfX9_66 rfl dX9_odds_33 ?_
    refine g_ishl C dX9_odds_36 ?_
    refine g_topi (v := nI (2 ^ n)) (sh_one' (by omega)) ?_
    refine g_icmp_ge (tgt := 206) C dX9_odds_37 (by decide) (fun c37 => ?_) (fun c37 => ?_)
    · skip
      refine g_lload_n C dX9_odds_206 rfl ?_
      refine g_lstore (lv' := [some (.ref mo), some (.int (nI x)), some (.int y), some (.long (lN (sumN (tmM n hi de mm lg sf dg a (nI u) x) (2 ^ n)))), none, some (.long (lN (sumN (fun gq => wM x mm n gq) (2 ^ n)))), none, some (.long (lN (sumN (tmM n hi de mm lg sf dg a (nI u) x) (2 ^ n)))), none, none, none, none, none]) C dX9_odds_207 (hnl 8 (by decide)) rfl rfl ?_
      refine g_lload C dX9_odds_209 rfl ?_
      refine g_lstore (lv' := [some (.ref mo), some (.int (nI x)), some (.int y), some (.long (lN (sumN (tmM n hi de mm lg sf dg a (nI u) x) (2 ^ n)))), none, some (.long (lN (sumN (fun gq => wM x mm n gq) (2 ^ n)))), none, some (.long (lN (sumN (tmM n hi de mm lg sf dg a (nI u) x) (2 ^ n)))), none, some (.long (lN (sumN (fun gq => wM x mm n gq) (2 ^ n)))), none, none, none]) C dX9_odds_211 (hnl 10 (by decide)) rfl rfl ?_
      exact lpe_X9_odds C hnl hn ha hfl hx10 hR 63 _ _ rf os od sl hA2 hB2 (eucF_gcd 31 63 _ _ hB2 (by decide)) hrz
    · skip
      exact absurd (Int32.le_refl _) c37
  | succ f ih =>
    intro g rf os od sl hg h0 h1 hmm hrz
    have hwb : wM x mm n g < 2 ^ 31 := Nat.lt_of_le_of_lt (wM_le hx10 _ _) (ten9 hn)
    have hr := runF_le (n := n) (hi := hi) (de := de) (ma := goM mm g n) (lg := lg) (st := sf) (dr := dg) 9 a (nI u) 0 0 ha
    refine g_iload C dX9_odds_29 rfl ?_
    refine g_iconst (v := 1) C dX9_odds_31 (by decide) ?_
    refine g_aload_n C dX9_odds_32 rfl ?_
    refine g_get C kwX9 0 rfl rfl 1 (by decide) kfX9_66 rfl dX9_odds_33 ?_
    refine g_ishl C dX9_odds_36 ?_
    refine g_topi (v := nI (2 ^ n)) (sh_one' (by omega)) ?_
    refine g_icmp_ge (tgt := 206) C dX9_odds_37 (by decide) (fun c37 => ?_) (fun c37 => ?_)
    · skip
      exact absurd ((nI_leI (by omega) (by omega)).mp c37) (by omega)
    · skip
      refine g_lconst (v := 1) C dX9_odds_40 rfl ?_
      refine g_lstore (lv' := [some (.ref mo), some (.int (nI x)), some (.int y), some (.long (lN (sumN (tmM n hi de mm lg sf dg a (nI u) x) g))), none, some (.long (lN (sumN (fun gq => wM x mm n gq) g))), none, some (.int (nI g)), some (.long 1), none, none, none, none]) C dX9_odds_41 (hnl 9 (by decide)) rfl rfl ?_
      refine g_aload_n C dX9_odds_43 rfl ?_
      refine g_callV C (c_X9_layTried k.l E mo rw mh md mk mt z1 z2 z3 y1 y2 y3 y4 ya yw yp (nI n) lg sf dg un le sm tr at_ be rs nu os od sl fpu wn rf) kmX9_163 kiX9_layTried ksX9_layTried knX9 kcX9_layTried ⟨rfl, rfl⟩ ⟨rfl, kdX9_layTried⟩ ⟨by decide, by decide⟩ ⟨by decide, by decide⟩ [0, 1] [2, 3] rfl (wr := [aI E mh 9 hi, aI E md 9 de]) rfl (by decide +kernel) (by decide +kernel) (by decide +kernel) 0 9 rfl rfl rfl (As := []) (rest := []) rfl (Nat.le_of_ble_eq_true rfl) dX9_odds_44 (fun rv_ rw_ hp_ => ?_)
      obtain ⟨rfl, rfl⟩ := hp_
      refine g_rep [2, 3, 0, 1] (ws' := [(mo, .inr (9, [.ref rw, .int (nI n), .int lg, .int sf, .int dg, .ref mh, .ref md, .int un, .ref mk, .ref mt, .int le, .int sm, .ref z1, .ref z2, .ref z3, .long tr, .int at_, .int be, .int rs, .ref y1, .ref y2, .ref y3, .ref y4, .int nu, .int sf, .int dg, .int 0, .ref ya, .int fpu, .ref yw, .int wn, .ref yp])), aI E rw 168 (va_cpy rf rf 0 156 12), aI E mh 9 hi, aI E md 9 de]) (st' := []) (n' := 0) (z' := 0) (pc' := 47) rfl rfl rfl rfl (by decide +kernel) rfl ?_
      refine g_iconst (v := 0) C dX9_odds_47 (by decide) ?_
      refine g_istore (lv' := [some (.ref mo), some (.int (nI x)), some (.int y), some (.long (lN (sumN (tmM n hi de mm lg sf dg a (nI u) x) g))), none, some (.long (lN (sumN (fun gq => wM x mm n gq) g))), none, some (.int (nI g)), some (.long 1), none, some (.int 0), none, none]) C dX9_odds_48 (hnl 10 (by decide)) rfl rfl ?_
      refine lps_X9_odds (mm := mm) (rz := rz) C hnl hn ha hfl hx10 (g := g) (by omega) (fun rf h0 h1 hmm h2 h3 h4 hrz => ?_) n 0 _ (by omega) (by rw [cpyR_out (by decide)]; exact h0) (by rw [cpyR_out (by decide)]; exact h1) (fun s hs => by rw [cpyR_out (by omega)]; exact hmm s hs) (by rw [show (156 : Nat) = 156 + 0 from rfl, cpyR_in (by decide)]; exact h0) (by rw [show (157 : Nat) = 156 + 1 from rfl, cpyR_in (by decide)]; exact h1) (fun i hi => by rw [goM_0, show 159 + i = 156 + (3 + i) by omega, cpyR_in (by omega), show 0 + (3 + i) = 3 + i by omega]; exact hmm i hi) (fun i q => by rw [cpyR_out (by omega)]; exact hrz i q)
      refine g_lload C dX9_odds_157 rfl ?_
      refine g_lconst (v := 0) C dX9_odds_159 rfl ?_
      refine g_lcmp C dX9_odds_160 ?_
      refine g_if_le (tgt := 200) C dX9_odds_161 (by decide) (fun c161 => ?_) (fun c161 => ?_)
      · skip
        have hw0 : wM x mm n g = 0 := by have := (lN_le (b := 0) hwb (by decide)).mp ((lg_cmp_le _ _).mp c161); omega
        have sA : sumN (tmM n hi de mm lg sf dg a (nI u) x) (g + 1) = sumN (tmM n hi de mm lg sf dg a (nI u) x) g := by
          show sumN _ g + (tmM n hi de mm lg sf dg a (nI u) x) g = _
          rw [show (tmM n hi de mm lg sf dg a (nI u) x) g = 0 from if_neg (fun q => by have := q.1; omega)]
          rfl
        have sB : sumN (fun gq => wM x mm n gq) (g + 1) = sumN (fun gq => wM x mm n gq) g := by
          show sumN _ g + wM x mm n g = _
          rw [hw0]
          rfl
        refine g_iinc (v := nI (g + 1)) (lv' := [some (.ref mo), some (.int (nI x)), some (.int y), some (.long (lN (sumN (tmM n hi de mm lg sf dg a (nI u) x) g))), none, some (.long (lN (sumN (fun gq => wM x mm n gq) g))), none, some (.int (nI (g + 1))), some (.long (lN (wM x mm n g))), none, some (.int (nI n)), none, none]) C dX9_odds_200 rfl (nI_add _ 1) (hnl 7 (by decide)) rfl rfl ?_
        refine g_goto (tgt := 29) C dX9_odds_203 (by decide) ?_
        refine g_kill 10 (lv' := [some (.ref mo), some (.int (nI x)), some (.int y), some (.long (lN (sumN (tmM n hi de mm lg sf dg a (nI u) x) g))), none, some (.long (lN (sumN (fun gq => wM x mm n gq) g))), none, some (.int (nI (g + 1))), some (.long (lN (wM x mm n g))), none, none, none, none]) rfl ?_
        refine g_kill 8 (lv' := [some (.ref mo), some (.int (nI x)), some (.int y), some (.long (lN (sumN (tmM n hi de mm lg sf dg a (nI u) x) g))), none, some (.long (lN (sumN (fun gq => wM x mm n gq) g))), none, some (.int (nI (g + 1))), none, none, none, none, none]) rfl ?_
        have hi2 := fun a b c d => ih (g + 1) a b c d (by omega)
        simp only [sA, sB] at hi2
        exact hi2 _ _ _ _ h0 h1 hmm hrz
      · skip
        have hwp : 0 < wM x mm n g := Nat.pos_of_ne_zero (fun q => c161 ((lg_cmp_le _ _).mpr (by rw [q]; exact Int64.le_refl _)))
        have sB : sumN (fun gq => wM x mm n gq) (g + 1) = sumN (fun gq => wM x mm n gq) g + wM x mm n g := rfl
        refine g_aload_n C dX9_odds_164 rfl ?_
        refine g_callV C (c_X9_runs k.l E mo rw mh md mk mt z1 z2 z3 y1 y2 y3 y4 ya yw yp lg sf dg un le sm tr at_ be rs nu sf dg 0 fpu wn n hi de rf (goM mm g n) a (nI u) (by first | assumption | omega) (by first | assumption | omega) (h2) (h3) (h4) (fun q => by rw [hfl q]; rfl)) kmX9_166 kiX9_runs ksX9_runs knX9 kcX9_runs ⟨rfl, rfl⟩ ⟨rfl, kdX9_runs⟩ ⟨by decide, by decide⟩ ⟨by decide, by decide⟩ [0, 1, 2, 3] [] rfl (wr := []) rfl (by decide +kernel) (by decide +kernel) (by decide +kernel) 0 9 rfl rfl rfl (As := []) (rest := []) rfl (Nat.le_of_ble_eq_true rfl) dX9_odds_165 (fun rv_ rw_ hp_ => ?_)
        obtain ⟨rf2_1, rfl, rfl, g0, g2⟩ := hp_
        refine g_rep [0, 1, 2, 3] (ws' := [(mo, .inr (9, [.ref rw, .int (nI n), .int lg, .int sf, .int dg, .ref mh, .ref md, .int un, .ref mk, .ref mt, .int le, .int sm, .ref z1, .ref z2, .ref z3, .long tr, .int at_, .int be, .int rs, .ref y1, .ref y2, .ref y3, .ref y4, .int nu, .int sf, .int dg, .int ((runF n hi de (goM mm g n) lg sf dg 9 a (nI u) 0 0).2.2.1), .ref ya, .int fpu, .ref yw, .int wn, .ref yp])), aI E rw 168 rf2_1, aI E mh 9 hi, aI E md 9 de]) (st' := [.int ((runF n hi de (goM mm g n) lg sf dg 9 a (nI u) 0 0).2.2.2)]) (n' := 0) (z' := 0) (pc' := 168) rfl rfl rfl rfl (by decide +kernel) rfl ?_
        refine g_pop C dX9_odds_168 rfl ?_
        refine g_lload_n C dX9_odds_169 rfl ?_
        refine g_aload_n C dX9_odds_170 rfl ?_
        refine g_get C kwX9 0 rfl rfl 0 (by decide) kfX9_7 rfl dX9_odds_171 ?_
        refine g_sipush (v := 156) C dX9_odds_174 (by decide) ?_
        refine g_iald C 1 156 rfl (rfl) (by decide) (by decide) dX9_odds_177 ?_
        refine g_topi (v := nI (runF n hi de (goM mm g n) lg sf dg 9 a (nI u) 0 0).1) (g0) ?_
        refine g_aload_n C dX9_odds_178 rfl ?_
        refine g_get C kwX9 0 rfl rfl 1 (by decide) kfX9_66 rfl dX9_odds_179 ?_
        refine g_icmp_ne (tgt := 190) C dX9_odds_182 (by decide) (fun c182 => ?_) (fun c182 => ?_)
        · skip
          have hne : ¬ (runF n hi de (goM mm g n) lg sf dg 9 a (nI u) 0 0).1 = n := fun q => c182 (by rw [q])
          have sA : sumN (tmM n hi de mm lg sf dg a (nI u) x) (g + 1) = sumN (tmM n hi de mm lg sf dg a (nI u) x) g := by
            show sumN _ g + (tmM n hi de mm lg sf dg a (nI u) x) g = _
            rw [show (tmM n hi de mm lg sf dg a (nI u) x) g = 0 from if_neg (fun q => hne q.2)]
            rfl
          refine g_lconst (v := 0) C dX9_odds_190 rfl ?_
          refine g_ladd C dX9_odds_191 ?_
          refine g_topl (v := lN (sumN (tmM n hi de mm lg sf dg a (nI u) x) g)) (Int64.add_zero _) ?_
          refine g_lstore_n (lv' := [some (.ref mo), some (.int (nI x)), some (.int y), some (.long (lN (sumN (tmM n hi de mm lg sf dg a (nI u) x) g))), none, some (.long (lN (sumN (fun gq => wM x mm n gq) g))), none, some (.int (nI g)), some (.long (lN (wM x mm n g))), none, some (.int (nI n)), none, none]) C dX9_odds_192 (hnl 4 (by decide)) rfl rfl ?_
          refine g_lload C dX9_odds_193 rfl ?_
          refine g_lload C dX9_odds_195 rfl ?_
          refine g_ladd C dX9_odds_197 ?_
          refine g_topl (v := lN (sumN (fun gq => wM x mm n gq) g + wM x mm n g)) (lN_add _ _) ?_
          refine g_lstore (lv' := [some (.ref mo), some (.int (nI x)), some (.int y), some (.long (lN (sumN (tmM n hi de mm lg sf dg a (nI u) x) g))), none, some (.long (lN (sumN (fun gq => wM x mm n gq) g + wM x mm n g))), none, some (.int (nI g)), some (.long (lN (wM x mm n g))), none, some (.int (nI n)), none, none]) C dX9_odds_198 (hnl 6 (by decide)) rfl rfl ?_
          refine g_iinc (v := nI (g + 1)) (lv' := [some (.ref mo), some (.int (nI x)), some (.int y), some (.long (lN (sumN (tmM n hi de mm lg sf dg a (nI u) x) g))), none, some (.long (lN (sumN (fun gq => wM x mm n gq) g + wM x mm n g))), none, some (.int (nI (g + 1))), some (.long (lN (wM x mm n g))), none, some (.int (nI n)), none, none]) C dX9_odds_200 rfl (nI_add _ 1) (hnl 7 (by decide)) rfl rfl ?_
          refine g_goto (tgt := 29) C dX9_odds_203 (by decide) ?_
          refine g_kill 10 (lv' := [some (.ref mo), some (.int (nI x)), some (.int y), some (.long (lN (sumN (tmM n hi de mm lg sf dg a (nI u) x) g))), none, some (.long (lN (sumN (fun gq => wM x mm n gq) g + wM x mm n g))), none, some (.int (nI (g + 1))), some (.long (lN (wM x mm n g))), none, none, none, none]) rfl ?_
          refine g_kill 8 (lv' := [some (.ref mo), some (.int (nI x)), some (.int y), some (.long (lN (sumN (tmM n hi de mm lg sf dg a (nI u) x) g))), none, some (.long (lN (sumN (fun gq => wM x mm n gq) g + wM x mm n g))), none, some (.int (nI (g + 1))), none, none, none, none, none]) rfl ?_
          have hi2 := fun a b c d => ih (g + 1) a b c d (by omega)
          simp only [sA, sB] at hi2
          exact hi2 _ _ _ _ (by rw [g2 _ (Or.inl (by decide))]; exact h0) (by rw [g2 _ (Or.inl (by decide))]; exact h1) (fun s hs => by rw [g2 _ (Or.inl (by omega))]; exact hmm s hs) (fun i q => by rw [g2 _ (Or.inl q)]; exact hrz i q)
        · skip
          have heq : (runF n hi de (goM mm g n) lg sf dg 9 a (nI u) 0 0).1 = n := (nI_eq (by omega) (by omega)).mp c182
          have sA : sumN (tmM n hi de mm lg sf dg a (nI u) x) (g + 1) = sumN (tmM n hi de mm lg sf dg a (nI u) x) g + wM x mm n g := by
            show sumN _ g + (tmM n hi de mm lg sf dg a (nI u) x) g = _
            rw [show (tmM n hi de mm lg sf dg a (nI u) x) g = wM x mm n g from if_pos ⟨hwp, heq⟩]
          refine g_lload C dX9_odds_185 rfl ?_
          refine g_goto (tgt := 191) C dX9_odds_187 (by decide) ?_
          refine g_ladd C dX9_odds_191 ?_
          refine g_topl (v := lN (sumN (tmM n hi de mm lg sf dg a (nI u) x) g + wM x mm n g)) (lN_add _ _) ?_
          refine g_lstore_n (lv' := [some (.ref mo), some (.int (nI x)), some (.int y), some (.long (lN (sumN (tmM n hi de mm lg sf dg a (nI u) x) g + wM x mm n g))), none, some (.long (lN (sumN (fun gq => wM x mm n gq) g))), none, some (.int (nI g)), some (.long (lN (wM x mm n g))), none, some (.int (nI n)), none, none]) C dX9_odds_192 (hnl 4 (by decide)) rfl rfl ?_
          refine g_lload C dX9_odds_193 rfl ?_
          refine g_lload C dX9_odds_195 rfl ?_
          refine g_ladd C dX9_odds_197 ?_
          refine g_topl (v := lN (sumN (fun gq => wM x mm n gq) g + wM x mm n g)) (lN_add _ _) ?_
          refine g_lstore (lv' := [some (.ref mo), some (.int (nI x)), some (.int y), some (.long (lN (sumN (tmM n hi de mm lg sf dg a (nI u) x) g + wM x mm n g))), none, some (.long (lN (sumN (fun gq => wM x mm n gq) g + wM x mm n g))), none, some (.int (nI g)), some (.long (lN (wM x mm n g))), none, some (.int (nI n)), none, none]) C dX9_odds_198 (hnl 6 (by decide)) rfl rfl ?_
          refine g_iinc (v := nI (g + 1)) (lv' := [some (.ref mo), some (.int (nI x)), some (.int y), some (.long (lN (sumN (tmM n hi de mm lg sf dg a (nI u) x) g + wM x mm n g))), none, some (.long (lN (sumN (fun gq => wM x mm n gq) g + wM x mm n g))), none, some (.int (nI (g + 1))), some (.long (lN (wM x mm n g))), none, some (.int (nI n)), none, none]) C dX9_odds_200 rfl (nI_add _ 1) (hnl 7 (by decide)) rfl rfl ?_
          refine g_goto (tgt := 29) C dX9_odds_203 (by decide) ?_
          refine g_kill 10 (lv' := [some (.ref mo), some (.int (nI x)), some (.int y), some (.long (lN (sumN (tmM n hi de mm lg sf dg a (nI u) x) g + wM x mm n g))), none, some (.long (lN (sumN (fun gq => wM x mm n gq) g + wM x mm n g))), none, some (.int (nI (g + 1))), some (.long (lN (wM x mm n g))), none, none, none, none]) rfl ?_
          refine g_kill 8 (lv' := [some (.ref mo), some (.int (nI x)), some (.int y), some (.long (lN (sumN (tmM n hi de mm lg sf dg a (nI u) x) g + wM x mm n g))), none, some (.long (lN (sumN (fun gq => wM x mm n gq) g + wM x mm n g))), none, some (.int (nI (g + 1))), none, none, none, none, none]) rfl ?_
          have hi2 := fun a b c d => ih (g + 1) a b c d (by omega)
          simp only [sA, sB] at hi2
          exact hi2 _ _ _ _ (by rw [g2 _ (Or.inl (by decide))]; exact h0) (by rw [g2 _ (Or.inl (by decide))]; exact h1) (fun s hs => by rw [g2 _ (Or.inl (by omega))]; exact hmm s hs) (fun i q => by rw [g2 _ (Or.inl q)]; exact hrz i q)

set_option maxHeartbeats 4000000 in
set_option maxRecDepth 100000 in
theorem c_X9_odds (l : Launch) (E : EX) (mo : Nat) (rw : Nat) (mh : Nat) (md : Nat) (mk : Nat) (mt : Nat) (z1 : Nat) (z2 : Nat) (z3 : Nat) (y1 : Nat) (y2 : Nat) (y3 : Nat) (y4 : Nat) (ya : Nat) (yw : Nat) (yp : Nat) (lg : Int32) (sf : Int32) (dg : Int32) (un : Int32) (le : Int32) (sm : Int32) (tr : Int64) (at_ : Int32) (be : Int32) (rs : Int32) (nu : Int32) (os : Int32) (od : Int32) (sl : Int32) (fpu : Int32) (wn : Int32) (n : Nat) (hi : Nat → Int32) (de : Nat → Int32) (rf : Nat → Int32) (mm : Nat → Int32) (a : Nat) (u : Nat) (x : Nat) (y : Int32) (hn : n ≤ 9) (ha : a ≤ n) (h0 : rf 0 = nI a) (h1 : rf 1 = nI u) (hmm : ∀ s, s < 9 → rf (3 + s) = mm s) (hfl : a = n → u = 0) (hx10 : x ≤ 10) (hy : 0 ≤ y ∧ y ≤ 1) : Ct l E yX9_odds cX9_odds 13 (some .int) (rmL 5 0 0) [.ref mo, .int (nI x), .int y] [(mo, .inr (9, [.ref rw, .int (nI n), .int lg, .int sf, .int dg, .ref mh, .ref md, .int un, .ref mk, .ref mt, .int le, .int sm, .ref z1, .ref z2, .ref z3, .long tr, .int at_, .int be, .int rs, .ref y1, .ref y2, .ref y3, .ref y4, .int nu, .int os, .int od, .int sl, .ref ya, .int fpu, .ref yw, .int wn, .ref yp])), aI E rw 168 rf, aI E mh 9 hi, aI E md 9 de] (fun (rv_ : Option Value) (rw_ : va_W) => ∃ (rf2 : Nat → Int32) (os2 : Int32) (od2 : Int32) (sl2 : Int32), rv_ = some (.int (if y = 0 then nI ((sumN (tmM n hi de mm lg sf dg a (nI u) x) (2 ^ n)) / Nat.gcd (sumN (fun gq => wM x mm n gq) (2 ^ n)) (sumN (tmM n hi de mm lg sf dg a (nI u) x) (2 ^ n))) else nI ((sumN (fun gq => wM x mm n gq) (2 ^ n)) / Nat.gcd (sumN (fun gq => wM x mm n gq) (2 ^ n)) (sumN (tmM n hi de mm lg sf dg a (nI u) x) (2 ^ n))))) ∧ rw_ = [(mo, .inr (9, [.ref rw, .int (nI n), .int lg, .int sf, .int dg, .ref mh, .ref md, .int un, .ref mk, .ref mt, .int le, .int sm, .ref z1, .ref z2, .ref z3, .long tr, .int at_, .int be, .int rs, .ref y1, .ref y2, .ref y3, .ref y4, .int nu, .int os2, .int od2, .int sl2, .ref ya, .int fpu, .ref yw, .int wn, .ref yp])), aI E rw 168 rf2, aI E mh 9 hi, aI E md 9 de] ∧ (∀ i, i < 156 → rf2 i = rf i)) 0 0 := by
  refine Ct_of (by decide) (Nat.le_of_ble_eq_true rfl) ?_
  intro k hkl hnl C hR hin_
  subst hkl
  show G k E 0 0 0 [some (.ref mo), some (.int (nI x)), some (.int y), none, none, none, none, none, none, none, none, none, none] [] [(mo, .inr (9, [.ref rw, .int (nI n), .int lg, .int sf, .int dg, .ref mh, .ref md, .int un, .ref mk, .ref mt, .int le, .int sm, .ref z1, .ref z2, .ref z3, .long tr, .int at_, .int be, .int rs, .ref y1, .ref y2, .ref y3, .ref y4, .int nu, .int os, .int od, .int sl, .ref ya, .int fpu, .ref yw, .int wn, .ref yp])), aI E rw 168 rf, aI E mh 9 hi, aI E md 9 de]
  refine g_iload_n C dX9_odds_0 rfl ?_
  refine g_iconst (v := 0) C dX9_odds_1 (by decide) ?_
  refine g_bipush (v := 10) C dX9_odds_2 (by decide) ?_
  refine g_callS C (c_X9_in k.l E (nI x) 0 10) kmX9_69 ktX9_in knX9 kcX9_in ⟨rfl, rfl⟩ kdX9_in ⟨by decide, by decide⟩ ⟨by decide, by decide⟩ [] [0, 1, 2, 3] rfl (wr := [(mo, .inr (9, [.ref rw, .int (nI n), .int lg, .int sf, .int dg, .ref mh, .ref md, .int un, .ref mk, .ref mt, .int le, .int sm, .ref z1, .ref z2, .ref z3, .long tr, .int at_, .int be, .int rs, .ref y1, .ref y2, .ref y3, .ref y4, .int nu, .int os, .int od, .int sl, .ref ya, .int fpu, .ref yw, .int wn, .ref yp])), aI E rw 168 rf, aI E mh 9 hi, aI E md 9 de]) rfl (by decide +kernel) (by decide +kernel) (by decide +kernel) rfl (As := [.int (nI x), .int 0, .int 10]) (rest := []) rfl (Nat.le_of_ble_eq_true rfl) dX9_odds_4 (fun rv_ rw_ hp_ => ?_)
  obtain ⟨rfl, rfl⟩ := hp_
  refine g_rep [0, 1, 2, 3] (ws' := [(mo, .inr (9, [.ref rw, .int (nI n), .int lg, .int sf, .int dg, .ref mh, .ref md, .int un, .ref mk, .ref mt, .int le, .int sm, .ref z1, .ref z2, .ref z3, .long tr, .int at_, .int be, .int rs, .ref y1, .ref y2, .ref y3, .ref y4, .int nu, .int os, .int od, .int sl, .ref ya, .int fpu, .ref yw, .int wn, .ref yp])), aI E rw 168 rf, aI E mh 9 hi, aI E md 9 de]) (st' := [.int (bI (0 ≤ (nI x) ∧ (nI x) ≤ 10))]) (n' := 0) (z' := 0) (pc' := 7) rfl rfl rfl rfl (by decide +kernel) rfl ?_
  refine g_if_eq (tgt := 19) C dX9_odds_7 (by decide) (fun c7 => ?_) (fun c7 => ?_)
  · skip
    exact absurd ((in_iff (n := 10) (by decide)).mpr ⟨x, hx10, rfl⟩) (bI_0 c7)
  · skip
    refine g_iload_n C dX9_odds_10 rfl ?_
    refine g_iconst (v := 0) C dX9_odds_11 (by decide) ?_
    refine g_iconst (v := 1) C dX9_odds_12 (by decide) ?_
    refine g_callS C (c_X9_in k.l E y 0 1) kmX9_69 ktX9_in knX9 kcX9_in ⟨rfl, rfl⟩ kdX9_in ⟨by decide, by decide⟩ ⟨by decide, by decide⟩ [] [0, 1, 2, 3] rfl (wr := [(mo, .inr (9, [.ref rw, .int (nI n), .int lg, .int sf, .int dg, .ref mh, .ref md, .int un, .ref mk, .ref mt, .int le, .int sm, .ref z1, .ref z2, .ref z3, .long tr, .int at_, .int be, .int rs, .ref y1, .ref y2, .ref y3, .ref y4, .int nu, .int os, .int od, .int sl, .ref ya, .int fpu, .ref yw, .int wn, .ref yp])), aI E rw 168 rf, aI E mh 9 hi, aI E md 9 de]) rfl (by decide +kernel) (by decide +kernel) (by decide +kernel) rfl (As := [.int y, .int 0, .int 1]) (rest := []) rfl (Nat.le_of_ble_eq_true rfl) dX9_odds_13 (fun rv_ rw_ hp_ => ?_)
    obtain ⟨rfl, rfl⟩ := hp_
    refine g_rep [0, 1, 2, 3] (ws' := [(mo, .inr (9, [.ref rw, .int (nI n), .int lg, .int sf, .int dg, .ref mh, .ref md, .int un, .ref mk, .ref mt, .int le, .int sm, .ref z1, .ref z2, .ref z3, .long tr, .int at_, .int be, .int rs, .ref y1, .ref y2, .ref y3, .ref y4, .int nu, .int os, .int od, .int sl, .ref ya, .int fpu, .ref yw, .int wn, .ref yp])), aI E rw 168 rf, aI E mh 9 hi, aI E md 9 de]) (st' := [.int (bI (0 ≤ y ∧ y ≤ 1))]) (n' := 0) (z' := 0) (pc' := 16) rfl rfl rfl rfl (by decide +kernel) rfl ?_
    refine g_if_ne (tgt := 21) C dX9_odds_16 (by decide) (fun c16 => ?_) (fun c16 => ?_)
    · skip
      refine g_lconst (v := 0) C dX9_odds_21 rfl ?_
      refine g_lstore_n (lv' := [some (.ref mo), some (.int (nI x)), some (.int y), some (.long 0), none, none, none, none, none, none, none, none, none]) C dX9_odds_22 (hnl 4 (by decide)) rfl rfl ?_
      refine g_lconst (v := 0) C dX9_odds_23 rfl ?_
      refine g_lstore (lv' := [some (.ref mo), some (.int (nI x)), some (.int y), some (.long 0), none, some (.long 0), none, none, none, none, none, none, none]) C dX9_odds_24 (hnl 6 (by decide)) rfl rfl ?_
      refine g_iconst (v := 0) C dX9_odds_26 (by decide) ?_
      refine g_istore (lv' := [some (.ref mo), some (.int (nI x)), some (.int y), some (.long 0), none, some (.long 0), none, some (.int 0), none, none, none, none, none]) C dX9_odds_27 (hnl 7 (by decide)) rfl rfl ?_
      exact lpg_X9_odds C hnl hn ha hfl hx10 hR (2 ^ n) 0 rf os od sl (by omega) h0 h1 hmm (fun _ _ => rfl)
    · skip
      exact absurd hy (bI_0 c16)

set_option maxHeartbeats 4000000 in
set_option maxRecDepth 100000 in
theorem c_X9_oddsB (l : Launch) (E : EX) (mo : Nat) (rw : Nat) (mh : Nat) (md : Nat) (mk : Nat) (mt : Nat) (z1 : Nat) (z2 : Nat) (z3 : Nat) (y1 : Nat) (y2 : Nat) (y3 : Nat) (y4 : Nat) (ya : Nat) (yw : Nat) (yp : Nat) (st0 : Int32) (lg : Int32) (sf : Int32) (dg : Int32) (un : Int32) (le : Int32) (sm : Int32) (tr : Int64) (at_ : Int32) (be : Int32) (rs : Int32) (nu : Int32) (os : Int32) (od : Int32) (sl : Int32) (fpu : Int32) (wn : Int32) (y : Int32) (z0 : Int32) (hb : ¬ ((0 ≤ y ∧ y ≤ 10) ∧ (0 ≤ z0 ∧ z0 ≤ 1))) : Ct l E yX9_odds cX9_odds 13 (some .int) (rmL 5 0 0) [.ref mo, .int y, .int z0] [(mo, .inr (9, [.ref rw, .int st0, .int lg, .int sf, .int dg, .ref mh, .ref md, .int un, .ref mk, .ref mt, .int le, .int sm, .ref z1, .ref z2, .ref z3, .long tr, .int at_, .int be, .int rs, .ref y1, .ref y2, .ref y3, .ref y4, .int nu, .int os, .int od, .int sl, .ref ya, .int fpu, .ref yw, .int wn, .ref yp]))] (fun (rv_ : Option Value) (rw_ : va_W) => rv_ = some (.int (-1)) ∧ rw_ = [(mo, .inr (9, [.ref rw, .int st0, .int lg, .int sf, .int dg, .ref mh, .ref md, .int un, .ref mk, .ref mt, .int le, .int sm, .ref z1, .ref z2, .ref z3, .long tr, .int at_, .int be, .int rs, .ref y1, .ref y2, .ref y3, .ref y4, .int nu, .int os, .int od, .int sl, .ref ya, .int fpu, .ref yw, .int wn, .ref yp]))]) 0 0 := by
  refine Ct_of (by decide) (Nat.le_of_ble_eq_true rfl) ?_
  intro k hkl hnl C hR hin_
  subst hkl
  show G k E 0 0 0 [some (.ref mo), some (.int y), some (.int z0), none, none, none, none, none, none, none, none, none, none] [] [(mo, .inr (9, [.ref rw, .int st0, .int lg, .int sf, .int dg, .ref mh, .ref md, .int un, .ref mk, .ref mt, .int le, .int sm, .ref z1, .ref z2, .ref z3, .long tr, .int at_, .int be, .int rs, .ref y1, .ref y2, .ref y3, .ref y4, .int nu, .int os, .int od, .int sl, .ref ya, .int fpu, .ref yw, .int wn, .ref yp]))]
  refine g_iload_n C dX9_odds_0 rfl ?_
  refine g_iconst (v := 0) C dX9_odds_1 (by decide) ?_
  refine g_bipush (v := 10) C dX9_odds_2 (by decide) ?_
  refine g_callS C (c_X9_in k.l E y 0 10) kmX9_69 ktX9_in knX9 kcX9_in ⟨rfl, rfl⟩ kdX9_in ⟨by decide, by decide⟩ ⟨by decide, by decide⟩ [] [0] rfl (wr := [(mo, .inr (9, [.ref rw, .int st0, .int lg, .int sf, .int dg, .ref mh, .ref md, .int un, .ref mk, .ref mt, .int le, .int sm, .ref z1, .ref z2, .ref z3, .long tr, .int at_, .int be, .int rs, .ref y1, .ref y2, .ref y3, .ref y4, .int nu, .int os, .int od, .int sl, .ref ya, .int fpu, .ref yw, .int wn, .ref yp]))]) rfl (by decide +kernel) (by decide +kernel) (by decide +kernel) rfl (As := [.int y, .int 0, .int 10]) (rest := []) rfl (Nat.le_of_ble_eq_true rfl) dX9_odds_4 (fun rv_ rw_ hp_ => ?_)
  obtain ⟨rfl, rfl⟩ := hp_
  refine g_rep [0] (ws' := [(mo, .inr (9, [.ref rw, .int st0, .int lg, .int sf, .int dg, .ref mh, .ref md, .int un, .ref mk, .ref mt, .int le, .int sm, .ref z1, .ref z2, .ref z3, .long tr, .int at_, .int be, .int rs, .ref y1, .ref y2, .ref y3, .ref y4, .int nu, .int os, .int od, .int sl, .ref ya, .int fpu, .ref yw, .int wn, .ref yp]))]) (st' := [.int (bI (0 ≤ y ∧ y ≤ 10))]) (n' := 0) (z' := 0) (pc' := 7) rfl rfl rfl rfl (by decide +kernel) rfl ?_
  refine g_if_eq (tgt := 19) C dX9_odds_7 (by decide) (fun c7 => ?_) (fun c7 => ?_)
  · skip
    refine g_iconst (v := (-1)) C dX9_odds_19 (by decide) ?_
    exact g_iret C hR (⟨rfl, rfl⟩) dX9_odds_20
  · skip
    refine g_iload_n C dX9_odds_10 rfl ?_
    refine g_iconst (v := 0) C dX9_odds_11 (by decide) ?_
    refine g_iconst (v := 1) C dX9_odds_12 (by decide) ?_
    refine g_callS C (c_X9_in k.l E z0 0 1) kmX9_69 ktX9_in knX9 kcX9_in ⟨rfl, rfl⟩ kdX9_in ⟨by decide, by decide⟩ ⟨by decide, by decide⟩ [] [0] rfl (wr := [(mo, .inr (9, [.ref rw, .int st0, .int lg, .int sf, .int dg, .ref mh, .ref md, .int un, .ref mk, .ref mt, .int le, .int sm, .ref z1, .ref z2, .ref z3, .long tr, .int at_, .int be, .int rs, .ref y1, .ref y2, .ref y3, .ref y4, .int nu, .int os, .int od, .int sl, .ref ya, .int fpu, .ref yw, .int wn, .ref yp]))]) rfl (by decide +kernel) (by decide +kernel) (by decide +kernel) rfl (As := [.int z0, .int 0, .int 1]) (rest := []) rfl (Nat.le_of_ble_eq_true rfl) dX9_odds_13 (fun rv_ rw_ hp_ => ?_)
    obtain ⟨rfl, rfl⟩ := hp_
    refine g_rep [0] (ws' := [(mo, .inr (9, [.ref rw, .int st0, .int lg, .int sf, .int dg, .ref mh, .ref md, .int un, .ref mk, .ref mt, .int le, .int sm, .ref z1, .ref z2, .ref z3, .long tr, .int at_, .int be, .int rs, .ref y1, .ref y2, .ref y3, .ref y4, .int nu, .int os, .int od, .int sl, .ref ya, .int fpu, .ref yw, .int wn, .ref yp]))]) (st' := [.int (bI (0 ≤ z0 ∧ z0 ≤ 1))]) (n' := 0) (z' := 0) (pc' := 16) rfl rfl rfl rfl (by decide +kernel) rfl ?_
    refine g_if_ne (tgt := 21) C dX9_odds_16 (by decide) (fun c16 => ?_) (fun c16 => ?_)
    · skip
      exact absurd ⟨bI_1 c7, bI_1 c16⟩ hb
    · skip
      refine g_iconst (v := (-1)) C dX9_odds_19 (by decide) ?_
      exact g_iret C hR (⟨rfl, rfl⟩) dX9_odds_20
