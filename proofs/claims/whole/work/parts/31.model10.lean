abbrev CO3 (co : Nat → Int32) : Nat → Int32 := upd (upd (upd co 0 (-1)) 1 (-1)) 2 (-1)
theorem parseF_le {tf : Nat → Int32} {le : Nat} : ∀ (f p it : Nat) (s : PSt), p ≤ le → POK s → (∀ e, parseF tf le f p it s = .inl e → e ≤ le) ∧ ∀ i' s', parseF tf le f p it s = .inr (i', s') → i' ≤ it + f ∧ POK s'
  | 0, p, it, s, hp, hs => ⟨fun e h => (by cases h), fun i' s' h => (by cases h; exact ⟨Nat.le_refl _, hs⟩)⟩
  | f + 1, p, it, s, hp, hs => by
    unfold parseF
    by_cases q : tk tf le p < le
    · rw [if_pos q]
      have h1 := itemF_le (tf := tf) q hs
      cases hI : itemF tf le (tk tf le p) s with
      | inl e => exact ⟨fun e' h => (by cases h; exact h1.1 e hI), fun i' s' h => (by cases h)⟩
      | inr z =>
        obtain ⟨p', s'⟩ := z
        have h2 := h1.2 p' s' hI
        have h3 := parseF_le (tf := tf) f p' (it + 1) s' h2.2.1 h2.2.2
        exact ⟨h3.1, fun i' s'' h => ⟨by have := (h3.2 i' s'' h).1; omega, (h3.2 i' s'' h).2⟩⟩
    · rw [if_neg q]
      exact ⟨fun e h => (by cases h), fun i' s' h => (by cases h; exact ⟨by omega, hs⟩)⟩
theorem POK_0 (hi de ma co : Nat → Int32) : POK (0, hi, de, ma, CO3 co) := ⟨Nat.zero_le _, fun i h => absurd h (Nat.not_lt_zero _), Or.inl rfl, Or.inl rfl, Or.inl rfl⟩
theorem POK_1 (hi de ma : Nat → Int32) : POK (0, hi, de, ma, fun _ => -1) := ⟨Nat.zero_le _, fun i h => absurd h (Nat.not_lt_zero _), Or.inl rfl, Or.inl rfl, Or.inl rfl⟩
theorem nI_nm9 {e : Nat} (h : e < 2 ^ 31) : ¬ nI e = -9 := fun q => by
  have := congrArg Int32.toInt q
  rw [nI_toInt h, show (-9 : Int32).toInt = -9 by decide] at this
  omega
def z12 (rf : Nat → Int32) (k : Nat) : Nat → Int32 := fun i => if i < k then 0 else rf i
theorem z12_0 (rf : Nat → Int32) : z12 rf 0 = rf := by
  funext i
  exact if_neg (Nat.not_lt_zero _)
theorem z12_1 (rf : Nat → Int32) (k : Nat) : upd (z12 rf k) k 0 = z12 rf (k + 1) := by
  funext i
  unfold upd z12
  by_cases e : i = k
  · rw [if_pos e, if_pos (by omega)]
  · rw [if_neg e]
    by_cases q : i < k
    · rw [if_pos q, if_pos (by omega)]
    · rw [if_neg q, if_neg (by omega)]
theorem cpr_0 (f g : Nat → Int32) (t : Nat) : va_cpy f g 0 t 0 = g := by
  funext i
  exact pk_cpy_out (by omega)
theorem cpr_1 {f g : Nat → Int32} {t j : Nat} : upd (va_cpy f g 0 t j) (t + j) (f j) = va_cpy f g 0 t (j + 1) := by
  funext i
  unfold upd
  by_cases e : i = t + j
  · subst e
    rw [if_pos rfl, pk_cpy_in (by omega) (by omega)]
    congr 1
    omega
  · rw [if_neg e]
    by_cases q : t ≤ i ∧ i < t + j
    · rw [pk_cpy_in q.1 q.2, pk_cpy_in q.1 (by omega)]
    · rw [pk_cpy_out (by omega), pk_cpy_out (by omega)]
theorem cpr_1z {f g : Nat → Int32} {j : Nat} : upd (va_cpy f g 0 0 j) j (f j) = va_cpy f g 0 0 (j + 1) := by
  have h := cpr_1 (f := f) (g := g) (t := 0) (j := j)
  rw [Nat.zero_add] at h
  exact h

set_option maxHeartbeats 4000000 in
set_option maxRecDepth 100000 in
theorem lp_X9_rI {k : KX} {E : EX} (C : Cx k E cX9_readItems RX9 (rmL 7 0 0)) (hnl : ∀ j : Nat, j < 2 → j < k.nL) {mo : Nat} {rw : Nat} {mh : Nat} {md : Nat} {mk : Nat} {mt : Nat} {z1 : Nat} {z2 : Nat} {z3 : Nat} {y1 : Nat} {y2 : Nat} {y3 : Nat} {y4 : Nat} {ya : Nat} {yw : Nat} {yp : Nat} {st0 : Int32} {lg : Int32} {sf : Int32} {dg : Int32} {un : Int32} {sm : Int32} {tr : Int64} {os : Int32} {od : Int32} {sl : Int32} {fpu : Int32} {wn : Int32} {l0 : Nat} {tf : Nat → Int32} (hl : l0 ≤ 100) {t : Nat ⊕ (Nat × PSt)} (hR : Rt k E (fun (rv_ : Option Value) (rw_ : va_W) => ∃ (rv : Int32) (at2 : Int32) (be2 : Int32) (rs2 : Int32) (nu2 : Int32) (hi2 : Nat → Int32) (de2 : Nat → Int32) (pma2 : Nat → Int32) (co2 : Nat → Int32), rv_ = some (.int rv) ∧ rw_ = [(mo, .inr (9, [.ref rw, .int st0, .int lg, .int sf, .int dg, .ref mh, .ref md, .int un, .ref mk, .ref mt, .int (nI l0), .int sm, .ref z1, .ref z2, .ref z3, .long tr, .int at2, .int be2, .int rs2, .ref y1, .ref y2, .ref y3, .ref y4, .int nu2, .int os, .int od, .int sl, .ref ya, .int fpu, .ref yw, .int wn, .ref yp])), aI E mt 100 tf, aI E y1 9 hi2, aI E y2 9 de2, aI E y3 9 pma2, aI E y4 3 co2] ∧ (∀ e, t = .inl e → rv = -9 ∧ at2 = nI e) ∧ (∀ i' s', t = .inr (i', s') → rv = nI i' ∧ rs2 = nI s'.1 ∧ hi2 = s'.2.1 ∧ de2 = s'.2.2.1 ∧ pma2 = s'.2.2.2.1 ∧ co2 = s'.2.2.2.2)) 0 0 (some .int)) : ∀ (f p it n : Nat) (nu : Int32) (hi de pma co : Nat → Int32), l0 ≤ p + f → p ≤ l0 → POK (n, hi, de, pma, co) → parseF tf l0 f p it (n, hi, de, pma, co) = t → G k E 0 0 36 [some (.ref mo), some (.int (nI it))] [] [(mo, .inr (9, [.ref rw, .int st0, .int lg, .int sf, .int dg, .ref mh, .ref md, .int un, .ref mk, .ref mt, .int (nI l0), .int sm, .ref z1, .ref z2, .ref z3, .long tr, .int (nI (tk tf l0 p)), .int (nI (nb tf l0 (tk tf l0 p))), .int (nI n), .ref y1, .ref y2, .ref y3, .ref y4, .int nu, .int os, .int od, .int sl, .ref ya, .int fpu, .ref yw, .int wn, .ref yp])), aI E mt 100 tf, aI E y1 9 hi, aI E y2 9 de, aI E y3 9 pma, aI E y4 3 co] := by
  intro f
  induction f with
  | zero =>
    intro p it n nu hi de pma co hq1 hq2 hp_ ht
    have htk := tk_le (tf := tf) hq2
    unfold parseF at ht
    refine g_aload_n C dX9_readItems_36 rfl ?_
    refine g_get C kwX9 0 rfl rfl 16 (by decide) kfX9_79 rfl dX9_readItems_37 ?_
    refine g_aload_n C dX9_readItems_40 rfl ?_
    refine g_get C kwX9 0 rfl rfl 10 (by decide) kfX9_73 rfl dX9_readItems_41 ?_
    refine g_icmp_ge (tgt := 67) C dX9_readItems_44 (by decide) (fun c44 => ?_) (fun c44 => ?_)
    · skip
      refine g_iload_n C dX9_readItems_67 rfl ?_
      exact g_iret C hR (⟨_, _, _, _, _, _, _, _, _, rfl, rfl, fun e' h => (by rw [← ht] at h; cases h), fun i' s' h => (by rw [← ht] at h; cases h; exact ⟨rfl, rfl, rfl, rfl, rfl, rfl⟩)⟩) dX9_readItems_68
    · skip
      exact absurd ((nI_leI (by omega) (by omega)).mpr (by omega)) c44
  | succ f ih =>
    intro p it n nu hi de pma co hq1 hq2 hp_ ht
    unfold parseF at ht
    have hn9 : n ≤ 9 := hp_.1
    have htk := tk_le (tf := tf) hq2
    refine g_aload_n C dX9_readItems_36 rfl ?_
    refine g_get C kwX9 0 rfl rfl 16 (by decide) kfX9_79 rfl dX9_readItems_37 ?_
    refine g_aload_n C dX9_readItems_40 rfl ?_
    refine g_get C kwX9 0 rfl rfl 10 (by decide) kfX9_73 rfl dX9_readItems_41 ?_
    refine g_icmp_ge (tgt := 67) C dX9_readItems_44 (by decide) (fun c44 => ?_) (fun c44 => ?_)
    · skip
      have hlt : ¬ tk tf l0 p < l0 := by have := nx_ge (by omega) (by omega) c44; omega
      rw [if_neg hlt] at ht
      refine g_iload_n C dX9_readItems_67 rfl ?_
      exact g_iret C hR (⟨_, _, _, _, _, _, _, _, _, rfl, rfl, fun e' h => (by rw [← ht] at h; cases h), fun i' s' h => (by rw [← ht] at h; cases h; exact ⟨rfl, rfl, rfl, rfl, rfl, rfl⟩)⟩) dX9_readItems_68
    · skip
      have hlt : tk tf l0 p < l0 := nx_nge (by omega) (by omega) c44
      rw [if_pos hlt] at ht
      refine g_aload_n C dX9_readItems_47 rfl ?_
      refine g_callV C (c_X9_readsItem k.l E mo rw mh md mk mt z1 z2 z3 y1 y2 y3 y4 ya yw yp st0 lg sf dg un sm tr nu os od sl fpu wn l0 tf (tk tf l0 p) n hi de pma co (by first | assumption | omega) (hlt) (hn9)) kmX9_109 kiX9_readsItem ksX9_readsItem knX9 kcX9_readsItem ⟨rfl, rfl⟩ ⟨rfl, kdX9_readsItem⟩ ⟨by decide, by decide⟩ ⟨by decide, by decide⟩ [0, 1, 2, 3, 4, 5] [] rfl (wr := []) rfl (by decide +kernel) (by decide +kernel) (by decide +kernel) 0 9 rfl rfl rfl (As := []) (rest := []) rfl (Nat.le_of_ble_eq_true rfl) dX9_readItems_48 (fun rv_ rw_ hp_ => ?_)
      obtain ⟨rv_1, at2_2, be2_3, rs2_4, nu2_5, hi2_6, de2_7, pma2_8, co2_9, rfl, rfl, hF_10, hS_11⟩ := hp_
      refine g_rep [0, 1, 2, 3, 4, 5] (ws' := [(mo, .inr (9, [.ref rw, .int st0, .int lg, .int sf, .int dg, .ref mh, .ref md, .int un, .ref mk, .ref mt, .int (nI l0), .int sm, .ref z1, .ref z2, .ref z3, .long tr, .int at2_2, .int be2_3, .int rs2_4, .ref y1, .ref y2, .ref y3, .ref y4, .int nu2_5, .int os, .int od, .int sl, .ref ya, .int fpu, .ref yw, .int wn, .ref yp])), aI E mt 100 tf, aI E y1 9 hi2_6, aI E y2 9 de2_7, aI E y3 9 pma2_8, aI E y4 3 co2_9]) (st' := [.int rv_1]) (n' := 0) (z' := 0) (pc' := 51) rfl rfl rfl rfl (by decide +kernel) rfl ?_
      cases hI : itemF tf l0 (tk tf l0 p) (n, hi, de, pma, co) with
      | inl e =>
        obtain ⟨rfl, rfl⟩ := hF_10 e hI
        rw [hI] at ht
        show G k E 0 0 51 [some (.ref mo), some (.int (nI it))] [.int 0] [(mo, .inr (9, [.ref rw, .int st0, .int lg, .int sf, .int dg, .ref mh, .ref md, .int un, .ref mk, .ref mt, .int (nI l0), .int sm, .ref z1, .ref z2, .ref z3, .long tr, .int (nI e), .int be2_3, .int rs2_4, .ref y1, .ref y2, .ref y3, .ref y4, .int nu2_5, .int os, .int od, .int sl, .ref ya, .int fpu, .ref yw, .int wn, .ref yp])), aI E mt 100 tf, aI E y1 9 hi2_6, aI E y2 9 de2_7, aI E y3 9 pma2_8, aI E y4 3 co2_9]
        refine g_if_ne (tgt := 57) C dX9_readItems_51 (by decide) (fun c51 => ?_) (fun c51 => ?_)
        · skip
          exact absurd rfl c51
        · skip
          refine g_bipush (v := (-9)) C dX9_readItems_54 (by decide) ?_
          exact g_iret C hR (⟨_, _, _, _, _, _, _, _, _, rfl, rfl, fun e' h => (by rw [← ht] at h; cases h; exact ⟨rfl, rfl⟩), fun i' s' h => (by rw [← ht] at h; cases h)⟩) dX9_readItems_56
      | inr q2 =>
        obtain ⟨p3, n3, hi3, de3, pma3, co3⟩ := q2
        have hz := (itemF_le (by omega) hp_).2 _ _ hI
        rw [hI] at ht
        obtain ⟨rfl, rfl, rfl, rfl, rfl, rfl, rfl⟩ := hS_11 _ _ hI
        show G k E 0 0 51 [some (.ref mo), some (.int (nI it))] [.int 1] [(mo, .inr (9, [.ref rw, .int st0, .int lg, .int sf, .int dg, .ref mh, .ref md, .int un, .ref mk, .ref mt, .int (nI l0), .int sm, .ref z1, .ref z2, .ref z3, .long tr, .int at2_2, .int (nI p3), .int (nI n3), .ref y1, .ref y2, .ref y3, .ref y4, .int nu2_5, .int os, .int od, .int sl, .ref ya, .int fpu, .ref yw, .int wn, .ref yp])), aI E mt 100 tf, aI E y1 9 hi2_6, aI E y2 9 de2_7, aI E y3 9 pma2_8, aI E y4 3 co2_9]
        refine g_if_ne (tgt := 57) C dX9_readItems_51 (by decide) (fun c51 => ?_) (fun c51 => ?_)
        · skip
          refine g_iinc (v := nI (it + 1)) (lv' := [some (.ref mo), some (.int (nI (it + 1)))]) C dX9_readItems_57 rfl (nI_add _ 1) (hnl 1 (by decide)) rfl rfl ?_
          refine g_aload_n C dX9_readItems_60 rfl ?_
          refine g_callV C (c_X9_nextToken k.l E mo rw mh md mk mt z1 z2 z3 y1 y2 y3 y4 ya yw yp st0 lg sf dg un sm tr at2_2 (nI n3) nu2_5 os od sl fpu wn l0 tf p3 (by first | assumption | omega) (hz.2.1)) kmX9_86 kiX9_nextToken ksX9_nextToken knX9 kcX9_nextToken ⟨rfl, rfl⟩ ⟨rfl, kdX9_nextToken⟩ ⟨by decide, by decide⟩ ⟨by decide, by decide⟩ [0, 1] [2, 3, 4, 5] rfl (wr := [aI E y1 9 hi2_6, aI E y2 9 de2_7, aI E y3 9 pma2_8, aI E y4 3 co2_9]) rfl (by decide +kernel) (by decide +kernel) (by decide +kernel) 0 9 rfl rfl rfl (As := []) (rest := []) rfl (Nat.le_of_ble_eq_true rfl) dX9_readItems_61 (fun rv_ rw_ hp_ => ?_)
          obtain ⟨rfl, rfl⟩ := hp_
          refine g_rep [4, 5, 0, 1, 2, 3] (ws' := [(mo, .inr (9, [.ref rw, .int st0, .int lg, .int sf, .int dg, .ref mh, .ref md, .int un, .ref mk, .ref mt, .int (nI l0), .int sm, .ref z1, .ref z2, .ref z3, .long tr, .int (nI (tk tf l0 p3)), .int (nI (nb tf l0 (tk tf l0 p3))), .int (nI n3), .ref y1, .ref y2, .ref y3, .ref y4, .int nu2_5, .int os, .int od, .int sl, .ref ya, .int fpu, .ref yw, .int wn, .ref yp])), aI E mt 100 tf, aI E y1 9 hi2_6, aI E y2 9 de2_7, aI E y3 9 pma2_8, aI E y4 3 co2_9]) (st' := []) (n' := 0) (z' := 0) (pc' := 64) rfl rfl rfl rfl (by decide +kernel) rfl ?_
          refine g_goto (tgt := 36) C dX9_readItems_64 (by decide) ?_
          exact ih p3 (it + 1) n3 _ _ _ _ _ (by omega) hz.2.1 hz.2.2 ht
        · skip
          exact absurd c51 (by decide)

set_option maxHeartbeats 4000000 in
set_option maxRecDepth 100000 in
theorem c_X9_readItems (l : Launch) (E : EX) (mo : Nat) (rw : Nat) (mh : Nat) (md : Nat) (mk : Nat) (mt : Nat) (z1 : Nat) (z2 : Nat) (z3 : Nat) (y1 : Nat) (y2 : Nat) (y3 : Nat) (y4 : Nat) (ya : Nat) (yw : Nat) (yp : Nat) (st0 : Int32) (lg : Int32) (sf : Int32) (dg : Int32) (un : Int32) (sm : Int32) (tr : Int64) (at_ : Int32) (nu : Int32) (os : Int32) (od : Int32) (sl : Int32) (fpu : Int32) (wn : Int32) (l0 : Nat) (tf : Nat → Int32) (hi : Nat → Int32) (de : Nat → Int32) (pma : Nat → Int32) (co : Nat → Int32) (be : Int32) (rs : Int32) (hl : l0 ≤ 100) : Ct l E yX9_readItems cX9_readItems 2 (some .int) (rmL 7 0 0) [.ref mo] [(mo, .inr (9, [.ref rw, .int st0, .int lg, .int sf, .int dg, .ref mh, .ref md, .int un, .ref mk, .ref mt, .int (nI l0), .int sm, .ref z1, .ref z2, .ref z3, .long tr, .int at_, .int be, .int rs, .ref y1, .ref y2, .ref y3, .ref y4, .int nu, .int os, .int od, .int sl, .ref ya, .int fpu, .ref yw, .int wn, .ref yp])), aI E mt 100 tf, aI E y1 9 hi, aI E y2 9 de, aI E y3 9 pma, aI E y4 3 co] (fun (rv_ : Option Value) (rw_ : va_W) => ∃ (rv : Int32) (at2 : Int32) (be2 : Int32) (rs2 : Int32) (nu2 : Int32) (hi2 : Nat → Int32) (de2 : Nat → Int32) (pma2 : Nat → Int32) (co2 : Nat → Int32), rv_ = some (.int rv) ∧ rw_ = [(mo, .inr (9, [.ref rw, .int st0, .int lg, .int sf, .int dg, .ref mh, .ref md, .int un, .ref mk, .ref mt, .int (nI l0), .int sm, .ref z1, .ref z2, .ref z3, .long tr, .int at2, .int be2, .int rs2, .ref y1, .ref y2, .ref y3, .ref y4, .int nu2, .int os, .int od, .int sl, .ref ya, .int fpu, .ref yw, .int wn, .ref yp])), aI E mt 100 tf, aI E y1 9 hi2, aI E y2 9 de2, aI E y3 9 pma2, aI E y4 3 co2] ∧ (∀ e, parseF tf l0 100 0 0 (0, hi, de, pma, CO3 co) = .inl e → rv = -9 ∧ at2 = nI e) ∧ (∀ i' s', parseF tf l0 100 0 0 (0, hi, de, pma, CO3 co) = .inr (i', s') → rv = nI i' ∧ rs2 = nI s'.1 ∧ hi2 = s'.2.1 ∧ de2 = s'.2.2.1 ∧ pma2 = s'.2.2.2.1 ∧ co2 = s'.2.2.2.2)) 0 0 := by
  refine Ct_of (by decide) (Nat.le_of_ble_eq_true rfl) ?_
  intro k hkl hnl C hR hin_
  subst hkl
  show G k E 0 0 0 [some (.ref mo), none] [] [(mo, .inr (9, [.ref rw, .int st0, .int lg, .int sf, .int dg, .ref mh, .ref md, .int un, .ref mk, .ref mt, .int (nI l0), .int sm, .ref z1, .ref z2, .ref z3, .long tr, .int at_, .int be, .int rs, .ref y1, .ref y2, .ref y3, .ref y4, .int nu, .int os, .int od, .int sl, .ref ya, .int fpu, .ref yw, .int wn, .ref yp])), aI E mt 100 tf, aI E y1 9 hi, aI E y2 9 de, aI E y3 9 pma, aI E y4 3 co]
  refine g_aload_n C dX9_readItems_0 rfl ?_
  refine g_iconst (v := 0) C dX9_readItems_1 (by decide) ?_
  refine g_put (ws' := [(mo, .inr (9, [.ref rw, .int st0, .int lg, .int sf, .int dg, .ref mh, .ref md, .int un, .ref mk, .ref mt, .int (nI l0), .int sm, .ref z1, .ref z2, .ref z3, .long tr, .int at_, .int 0, .int rs, .ref y1, .ref y2, .ref y3, .ref y4, .int nu, .int os, .int od, .int sl, .ref ya, .int fpu, .ref yw, .int wn, .ref yp])), aI E mt 100 tf, aI E y1 9 hi, aI E y2 9 de, aI E y3 9 pma, aI E y4 3 co]) C kwX9 tyX9 tyX9_ok nmX9 0 rfl rfl 17 (by decide) kfX9_76 rfl rfl rfl (Nat.le_of_ble_eq_true rfl) rfl dX9_readItems_2 ?_
  refine g_aload_n C dX9_readItems_5 rfl ?_
  refine g_iconst (v := 0) C dX9_readItems_6 (by decide) ?_
  refine g_put (ws' := [(mo, .inr (9, [.ref rw, .int st0, .int lg, .int sf, .int dg, .ref mh, .ref md, .int un, .ref mk, .ref mt, .int (nI l0), .int sm, .ref z1, .ref z2, .ref z3, .long tr, .int at_, .int 0, .int 0, .ref y1, .ref y2, .ref y3, .ref y4, .int nu, .int os, .int od, .int sl, .ref ya, .int fpu, .ref yw, .int wn, .ref yp])), aI E mt 100 tf, aI E y1 9 hi, aI E y2 9 de, aI E y3 9 pma, aI E y4 3 co]) C kwX9 tyX9 tyX9_ok nmX9 0 rfl rfl 18 (by decide) kfX9_92 rfl rfl rfl (Nat.le_of_ble_eq_true rfl) rfl dX9_readItems_7 ?_
  refine g_iconst (v := 0) C dX9_readItems_10 (by decide) ?_
  refine g_istore_n (lv' := [some (.ref mo), some (.int 0)]) C dX9_readItems_11 (hnl 1 (by decide)) rfl rfl ?_
  refine g_iload_n C dX9_readItems_12 rfl ?_
  refine g_iconst (v := 3) C dX9_readItems_13 (by decide) ?_
  refine g_icmp_ge (tgt := 30) C dX9_readItems_14 (by decide) (fun c14 => ?_) (fun c14 => ?_)
  · skip
    exact absurd c14 (by decide)
  · skip
    refine g_aload_n C dX9_readItems_17 rfl ?_
    refine g_get C kwX9 0 rfl rfl 22 (by decide) kfX9_54 rfl dX9_readItems_18 ?_
    refine g_iload_n C dX9_readItems_21 rfl ?_
    refine g_iconst (v := (-1)) C dX9_readItems_22 (by decide) ?_
    refine g_iast (ws' := [(mo, .inr (9, [.ref rw, .int st0, .int lg, .int sf, .int dg, .ref mh, .ref md, .int un, .ref mk, .ref mt, .int (nI l0), .int sm, .ref z1, .ref z2, .ref z3, .long tr, .int at_, .int 0, .int 0, .ref y1, .ref y2, .ref y3, .ref y4, .int nu, .int os, .int od, .int sl, .ref ya, .int fpu, .ref yw, .int wn, .ref yp])), aI E mt 100 tf, aI E y1 9 hi, aI E y2 9 de, aI E y3 9 pma, aI E y4 3 (upd co 0 (-1))]) C 5 0 rfl (rfl) (by decide) (by decide) rfl dX9_readItems_23 ?_
    refine g_iinc (v := 1) (lv' := [some (.ref mo), some (.int 1)]) C dX9_readItems_24 rfl (by decide) (hnl 1 (by decide)) rfl rfl ?_
    refine g_goto (tgt := 12) C dX9_readItems_27 (by decide) ?_
    refine g_iload_n C dX9_readItems_12 rfl ?_
    refine g_iconst (v := 3) C dX9_readItems_13 (by decide) ?_
    refine g_icmp_ge (tgt := 30) C dX9_readItems_14 (by decide) (fun c14 => ?_) (fun c14 => ?_)
    · skip
      exact absurd c14 (by decide)
    · skip
      refine g_aload_n C dX9_readItems_17 rfl ?_
      refine g_get C kwX9 0 rfl rfl 22 (by decide) kfX9_54 rfl dX9_readItems_18 ?_
      refine g_iload_n C dX9_readItems_21 rfl ?_
      refine g_iconst (v := (-1)) C dX9_readItems_22 (by decide) ?_
      refine g_iast (ws' := [(mo, .inr (9, [.ref rw, .int st0, .int lg, .int sf, .int dg, .ref mh, .ref md, .int un, .ref mk, .ref mt, .int (nI l0), .int sm, .ref z1, .ref z2, .ref z3, .long tr, .int at_, .int 0, .int 0, .ref y1, .ref y2, .ref y3, .ref y4, .int nu, .int os, .int od, .int sl, .ref ya, .int fpu, .ref yw, .int wn, .ref yp])), aI E mt 100 tf, aI E y1 9 hi, aI E y2 9 de, aI E y3 9 pma, aI E y4 3 (upd (upd co 0 (-1)) 1 (-1))]) C 5 1 rfl (rfl) (by decide) (by decide) rfl dX9_readItems_23 ?_
      refine g_iinc (v := 2) (lv' := [some (.ref mo), some (.int 2)]) C dX9_readItems_24 rfl (by decide) (hnl 1 (by decide)) rfl rfl ?_
      refine g_goto (tgt := 12) C dX9_readItems_27 (by decide) ?_
      refine g_iload_n C dX9_readItems_12 rfl ?_
      refine g_iconst (v := 3) C dX9_readItems_13 (by decide) ?_
      refine g_icmp_ge (tgt := 30) C dX9_readItems_14 (by decide) (fun c14 => ?_) (fun c14 => ?_)
      · skip
        exact absurd c14 (by decide)
      · skip
        refine g_aload_n C dX9_readItems_17 rfl ?_
        refine g_get C kwX9 0 rfl rfl 22 (by decide) kfX9_54 rfl dX9_readItems_18 ?_
        refine g_iload_n C dX9_readItems_21 rfl ?_
        refine g_iconst (v := (-1)) C dX9_readItems_22 (by decide) ?_
        refine g_iast (ws' := [(mo, .inr (9, [.ref rw, .int st0, .int lg, .int sf, .int dg, .ref mh, .ref md, .int un, .ref mk, .ref mt, .int (nI l0), .int sm, .ref z1, .ref z2, .ref z3, .long tr, .int at_, .int 0, .int 0, .ref y1, .ref y2, .ref y3, .ref y4, .int nu, .int os, .int od, .int sl, .ref ya, .int fpu, .ref yw, .int wn, .ref yp])), aI E mt 100 tf, aI E y1 9 hi, aI E y2 9 de, aI E y3 9 pma, aI E y4 3 (upd (upd (upd co 0 (-1)) 1 (-1)) 2 (-1))]) C 5 2 rfl (rfl) (by decide) (by decide) rfl dX9_readItems_23 ?_
        refine g_iinc (v := 3) (lv' := [some (.ref mo), some (.int 3)]) C dX9_readItems_24 rfl (by decide) (hnl 1 (by decide)) rfl rfl ?_
        refine g_goto (tgt := 12) C dX9_readItems_27 (by decide) ?_
        refine g_iload_n C dX9_readItems_12 rfl ?_
        refine g_iconst (v := 3) C dX9_readItems_13 (by decide) ?_
        refine g_icmp_ge (tgt := 30) C dX9_readItems_14 (by decide) (fun c14 => ?_) (fun c14 => ?_)
        · skip
          refine g_iconst (v := 0) C dX9_readItems_30 (by decide) ?_
          refine g_istore_n (lv' := [some (.ref mo), some (.int 0)]) C dX9_readItems_31 (hnl 1 (by decide)) rfl rfl ?_
          refine g_aload_n C dX9_readItems_32 rfl ?_
          refine g_callV C (c_X9_nextToken k.l E mo rw mh md mk mt z1 z2 z3 y1 y2 y3 y4 ya yw yp st0 lg sf dg un sm tr at_ 0 nu os od sl fpu wn l0 tf 0 (by first | assumption | omega) (Nat.zero_le _)) kmX9_86 kiX9_nextToken ksX9_nextToken knX9 kcX9_nextToken ⟨rfl, rfl⟩ ⟨rfl, kdX9_nextToken⟩ ⟨by decide, by decide⟩ ⟨by decide, by decide⟩ [0, 1] [2, 3, 4, 5] rfl (wr := [aI E y1 9 hi, aI E y2 9 de, aI E y3 9 pma, aI E y4 3 (upd (upd (upd co 0 (-1)) 1 (-1)) 2 (-1))]) rfl (by decide +kernel) (by decide +kernel) (by decide +kernel) 0 9 rfl rfl rfl (As := []) (rest := []) rfl (Nat.le_of_ble_eq_true rfl) dX9_readItems_33 (fun rv_ rw_ hp_ => ?_)
          obtain ⟨rfl, rfl⟩ := hp_
          refine g_rep [4, 5, 0, 1, 2, 3] (ws' := [(mo, .inr (9, [.ref rw, .int st0, .int lg, .int sf, .int dg, .ref mh, .ref md, .int un, .ref mk, .ref mt, .int (nI l0), .int sm, .ref z1, .ref z2, .ref z3, .long tr, .int (nI (tk tf l0 0)), .int (nI (nb tf l0 (tk tf l0 0))), .int 0, .ref y1, .ref y2, .ref y3, .ref y4, .int nu, .int os, .int od, .int sl, .ref ya, .int fpu, .ref yw, .int wn, .ref yp])), aI E mt 100 tf, aI E y1 9 hi, aI E y2 9 de, aI E y3 9 pma, aI E y4 3 (upd (upd (upd co 0 (-1)) 1 (-1)) 2 (-1))]) (st' := []) (n' := 0) (z' := 0) (pc' := 36) rfl rfl rfl rfl (by decide +kernel) rfl ?_
          exact lp_X9_rI C hnl hl hR 100 0 0 0 _ hi de pma (CO3 co) (by omega) (by omega) (POK_0 _ _ _ _) rfl
        · skip
          exact absurd (by decide) c14

set_option maxHeartbeats 4000000 in
set_option maxRecDepth 100000 in
theorem c_X9_stairsF (l : Launch) (E : EX) (mo : Nat) (rw : Nat) (mh : Nat) (md : Nat) (mk : Nat) (mt : Nat) (z1 : Nat) (z2 : Nat) (z3 : Nat) (y1 : Nat) (y2 : Nat) (y3 : Nat) (y4 : Nat) (ya : Nat) (yw : Nat) (yp : Nat) (st0 : Int32) (lg : Int32) (sf : Int32) (dg : Int32) (un : Int32) (sm : Int32) (tr : Int64) (at_ : Int32) (nu : Int32) (os : Int32) (od : Int32) (sl : Int32) (fpu : Int32) (wn : Int32) (l0 : Nat) (tf : Nat → Int32) (hi9 : Nat → Int32) (de9 : Nat → Int32) (pm9 : Nat → Int32) (co : Nat → Int32) (be : Int32) (rs : Int32) (e : Nat) (hl : l0 ≤ 100) (hp : parseF tf l0 100 0 0 (0, hi9, de9, pm9, CO3 co) = .inl e) : Ct l E yX9_stairs cX9_stairs 3 (some .int) (rmL 8 0 0) [.ref mo] [(mo, .inr (9, [.ref rw, .int st0, .int lg, .int sf, .int dg, .ref mh, .ref md, .int un, .ref mk, .ref mt, .int (nI l0), .int sm, .ref z1, .ref z2, .ref z3, .long tr, .int at_, .int be, .int rs, .ref y1, .ref y2, .ref y3, .ref y4, .int nu, .int os, .int od, .int sl, .ref ya, .int fpu, .ref yw, .int wn, .ref yp])), aI E mt 100 tf, aI E y1 9 hi9, aI E y2 9 de9, aI E y3 9 pm9, aI E y4 3 co] (fun (rv_ : Option Value) (rw_ : va_W) => ∃ (at2 : Int32) (be2 : Int32) (rs2 : Int32) (nu2 : Int32) (hi2 : Nat → Int32) (de2 : Nat → Int32) (pma2 : Nat → Int32) (co2 : Nat → Int32), rv_ = some (.int (-10 - nI e)) ∧ rw_ = [(mo, .inr (9, [.ref rw, .int st0, .int lg, .int sf, .int dg, .ref mh, .ref md, .int un, .ref mk, .ref mt, .int (nI l0), .int sm, .ref z1, .ref z2, .ref z3, .long tr, .int at2, .int be2, .int rs2, .ref y1, .ref y2, .ref y3, .ref y4, .int nu2, .int os, .int od, .int sl, .ref ya, .int fpu, .ref yw, .int wn, .ref yp])), aI E mt 100 tf, aI E y1 9 hi2, aI E y2 9 de2, aI E y3 9 pma2, aI E y4 3 co2]) 0 0 := by
  refine Ct_of (by decide) (Nat.le_of_ble_eq_true rfl) ?_
  intro k hkl hnl C hR hin_
  subst hkl
  show G k E 0 0 0 [some (.ref mo), none, none] [] [(mo, .inr (9, [.ref rw, .int st0, .int lg, .int sf, .int dg, .ref mh, .ref md, .int un, .ref mk, .ref mt, .int (nI l0), .int sm, .ref z1, .ref z2, .ref z3, .long tr, .int at_, .int be, .int rs, .ref y1, .ref y2, .ref y3, .ref y4, .int nu, .int os, .int od, .int sl, .ref ya, .int fpu, .ref yw, .int wn, .ref yp])), aI E mt 100 tf, aI E y1 9 hi9, aI E y2 9 de9, aI E y3 9 pm9, aI E y4 3 co]
  refine g_aload_n C dX9_stairs_0 rfl ?_
  refine g_callV C (c_X9_readItems k.l E mo rw mh md mk mt z1 z2 z3 y1 y2 y3 y4 ya yw yp st0 lg sf dg un sm tr at_ nu os od sl fpu wn l0 tf hi9 de9 pm9 co be rs (by first | assumption | omega)) kmX9_112 kiX9_readItems ksX9_readItems knX9 kcX9_readItems ⟨rfl, rfl⟩ ⟨rfl, kdX9_readItems⟩ ⟨by decide, by decide⟩ ⟨by decide, by decide⟩ [0, 1, 2, 3, 4, 5] [] rfl (wr := []) rfl (by decide +kernel) (by decide +kernel) (by decide +kernel) 0 9 rfl rfl rfl (As := []) (rest := []) rfl (Nat.le_of_ble_eq_true rfl) dX9_stairs_1 (fun rv_ rw_ hp_ => ?_)
  obtain ⟨rv, at2, be2, rs2, nu2, hi2, de2, pma2, co2, rfl, rfl, hF_, hS2⟩ := hp_
  refine g_rep [0, 1, 2, 3, 4, 5] (ws' := [(mo, .inr (9, [.ref rw, .int st0, .int lg, .int sf, .int dg, .ref mh, .ref md, .int un, .ref mk, .ref mt, .int (nI l0), .int sm, .ref z1, .ref z2, .ref z3, .long tr, .int at2, .int be2, .int rs2, .ref y1, .ref y2, .ref y3, .ref y4, .int nu2, .int os, .int od, .int sl, .ref ya, .int fpu, .ref yw, .int wn, .ref yp])), aI E mt 100 tf, aI E y1 9 hi2, aI E y2 9 de2, aI E y3 9 pma2, aI E y4 3 co2]) (st' := [.int rv]) (n' := 0) (z' := 0) (pc' := 4) rfl rfl rfl rfl (by decide +kernel) rfl ?_
  obtain ⟨rfl, rfl⟩ := hF_ e hp
  show G k E 0 0 4 [some (.ref mo), none, none] [.int (-9)] [(mo, .inr (9, [.ref rw, .int st0, .int lg, .int sf, .int dg, .ref mh, .ref md, .int un, .ref mk, .ref mt, .int (nI l0), .int sm, .ref z1, .ref z2, .ref z3, .long tr, .int (nI e), .int be2, .int rs2, .ref y1, .ref y2, .ref y3, .ref y4, .int nu2, .int os, .int od, .int sl, .ref ya, .int fpu, .ref yw, .int wn, .ref yp])), aI E mt 100 tf, aI E y1 9 hi2, aI E y2 9 de2, aI E y3 9 pma2, aI E y4 3 co2]
  refine g_istore_n (lv' := [some (.ref mo), some (.int (-9)), none]) C dX9_stairs_4 (hnl 1 (by decide)) rfl rfl ?_
  refine g_iload_n C dX9_stairs_5 rfl ?_
  refine g_bipush (v := (-9)) C dX9_stairs_6 (by decide) ?_
  refine g_icmp_ne (tgt := 19) C dX9_stairs_8 (by decide) (fun c8 => ?_) (fun c8 => ?_)
  · skip
    exact absurd rfl c8
  · skip
    refine g_bipush (v := (-10)) C dX9_stairs_11 (by decide) ?_
    refine g_aload_n C dX9_stairs_13 rfl ?_
    refine g_get C kwX9 0 rfl rfl 16 (by decide) kfX9_79 rfl dX9_stairs_14 ?_
    refine g_isub C dX9_stairs_17 ?_
    exact g_iret C hR (⟨_, _, _, _, _, _, _, _, rfl, rfl⟩) dX9_stairs_18

set_option maxHeartbeats 4000000 in
set_option maxRecDepth 100000 in
theorem lp2_X9_st {k : KX} {E : EX} (C : Cx k E cX9_stairs RX9 (rmL 8 0 0)) (hnl : ∀ j : Nat, j < 3 → j < k.nL) {mo : Nat} {rw : Nat} {mh : Nat} {md : Nat} {mk : Nat} {mt : Nat} {z1 : Nat} {z2 : Nat} {z3 : Nat} {y1 : Nat} {y2 : Nat} {y3 : Nat} {y4 : Nat} {ya : Nat} {yw : Nat} {yp : Nat} {tr : Int64} {os : Int32} {od : Int32} {sl : Int32} {fpu : Int32} {wn : Int32} {tf : Nat → Int32} {hi : Nat → Int32} {de : Nat → Int32} {rf : Nat → Int32} {kf : Nat → Int32} {i3 : Nat} {n3 : Nat} {hi3 : Nat → Int32} {de3 : Nat → Int32} {pm3 : Nat → Int32} {co3 : Nat → Int32} {at2 : Int32} {be2 : Int32} {nu2 : Int32} {un : Int32} {sm : Int32} (hn3 : n3 ≤ 9) (hR : Rt k E (fun (rv_ : Option Value) (rw_ : va_W) => ∃ (at2 : Int32) (be2 : Int32) (nu2 : Int32), rv_ = some (.int (nI i3)) ∧ rw_ = [(mo, .inr (9, [.ref rw, .int (nI n3), .int (lgC co3), .int (sfC co3), .int (dgC co3), .ref mh, .ref md, .int 0, .ref mk, .ref mt, .int 0, .int 0, .ref z1, .ref z2, .ref z3, .long tr, .int at2, .int be2, .int (nI n3), .ref y1, .ref y2, .ref y3, .ref y4, .int nu2, .int os, .int od, .int sl, .ref ya, .int fpu, .ref yw, .int wn, .ref yp])), aI E mt 100 tf, aI E y1 9 hi3, aI E y2 9 de3, aI E y3 9 pm3, aI E y4 3 co3, aI E rw 168 (va_cpy pm3 (z12 rf 12) 0 3 n3), aI E mh 9 (va_cpy hi3 hi 0 0 n3), aI E md 9 (va_cpy de3 de 0 0 n3), aZ E mk 2 (upd (upd kf 0 0) 1 0)]) 0 0 (some .int)) : ∀ (f s : Nat), s + f = n3 → G k E 0 0 124 [some (.ref mo), some (.int (nI i3)), some (.int (nI s))] [] [(mo, .inr (9, [.ref rw, .int (nI n3), .int (lgC co3), .int (sfC co3), .int (dgC co3), .ref mh, .ref md, .int un, .ref mk, .ref mt, .int 0, .int sm, .ref z1, .ref z2, .ref z3, .long tr, .int at2, .int be2, .int (nI n3), .ref y1, .ref y2, .ref y3, .ref y4, .int nu2, .int os, .int od, .int sl, .ref ya, .int fpu, .ref yw, .int wn, .ref yp])), aI E mt 100 tf, aI E y1 9 hi3, aI E y2 9 de3, aI E y3 9 pm3, aI E y4 3 co3, aI E rw 168 (va_cpy pm3 (z12 rf 12) 0 3 s), aI E mh 9 (va_cpy hi3 hi 0 0 s), aI E md 9 (va_cpy de3 de 0 0 s), aZ E mk 2 kf] := by
  intro f
  induction f with
  | zero =>
    intro s hs
    have e : s = n3 := by omega
    subst e
    refine g_iload_n C dX9_stairs_124 rfl ?_
    refine g_aload_n C dX9_stairs_125 rfl ?_
    refine g_get C kwX9 0 rfl rfl 1 (by decide) kfX9_66 rfl dX9_stairs_126 ?_
    refine g_icmp_ge (tgt := 176) C dX9_stairs_129 (by decide) (fun c129 => ?_) (fun c129 => ?_)
    · skip
      refine g_aload_n C dX9_stairs_176 rfl ?_
      refine g_iconst (v := 0) C dX9_stairs_177 (by decide) ?_
      refine g_put (ws' := [(mo, .inr (9, [.ref rw, .int (nI s), .int (lgC co3), .int (sfC co3), .int (dgC co3), .ref mh, .ref md, .int 0, .ref mk, .ref mt, .int 0, .int sm, .ref z1, .ref z2, .ref z3, .long tr, .int at2, .int be2, .int (nI s), .ref y1, .ref y2, .ref y3, .ref y4, .int nu2, .int os, .int od, .int sl, .ref ya, .int fpu, .ref yw, .int wn, .ref yp])), aI E mt 100 tf, aI E y1 9 hi3, aI E y2 9 de3, aI E y3 9 pm3, aI E y4 3 co3, aI E rw 168 (va_cpy pm3 (z12 rf 12) 0 3 s), aI E mh 9 (va_cpy hi3 hi 0 0 s), aI E md 9 (va_cpy de3 de 0 0 s), aZ E mk 2 kf]) C kwX9 tyX9 tyX9_ok nmX9 0 rfl rfl 7 (by decide) kfX9_116 rfl rfl rfl (Nat.le_of_ble_eq_true rfl) rfl dX9_stairs_178 ?_
      refine g_aload_n C dX9_stairs_181 rfl ?_
      refine g_iconst (v := 0) C dX9_stairs_182 (by decide) ?_
      refine g_put (ws' := [(mo, .inr (9, [.ref rw, .int (nI s), .int (lgC co3), .int (sfC co3), .int (dgC co3), .ref mh, .ref md, .int 0, .ref mk, .ref mt, .int 0, .int 0, .ref z1, .ref z2, .ref z3, .long tr, .int at2, .int be2, .int (nI s), .ref y1, .ref y2, .ref y3, .ref y4, .int nu2, .int os, .int od, .int sl, .ref ya, .int fpu, .ref yw, .int wn, .ref yp])), aI E mt 100 tf, aI E y1 9 hi3, aI E y2 9 de3, aI E y3 9 pm3, aI E y4 3 co3, aI E rw 168 (va_cpy pm3 (z12 rf 12) 0 3 s), aI E mh 9 (va_cpy hi3 hi 0 0 s), aI E md 9 (va_cpy de3 de 0 0 s), aZ E mk 2 kf]) C kwX9 tyX9 tyX9_ok nmX9 0 rfl rfl 11 (by decide) kfX9_119 rfl rfl rfl (Nat.le_of_ble_eq_true rfl) rfl dX9_stairs_183 ?_
      refine g_aload_n C dX9_stairs_186 rfl ?_
      refine g_get C kwX9 0 rfl rfl 8 (by decide) kfX9_29 rfl dX9_stairs_187 ?_
      refine g_iconst (v := 0) C dX9_stairs_190 (by decide) ?_
      refine g_iconst (v := 0) C dX9_stairs_191 (by decide) ?_
      refine g_zast (ws' := [(mo, .inr (9, [.ref rw, .int (nI s), .int (lgC co3), .int (sfC co3), .int (dgC co3), .ref mh, .ref md, .int 0, .ref mk, .ref mt, .int 0, .int 0, .ref z1, .ref z2, .ref z3, .long tr, .int at2, .int be2, .int (nI s), .ref y1, .ref y2, .ref y3, .ref y4, .int nu2, .int os, .int od, .int sl, .ref ya, .int fpu, .ref yw, .int wn, .ref yp])), aI E mt 100 tf, aI E y1 9 hi3, aI E y2 9 de3, aI E y3 9 pm3, aI E y4 3 co3, aI E rw 168 (va_cpy pm3 (z12 rf 12) 0 3 s), aI E mh 9 (va_cpy hi3 hi 0 0 s), aI E md 9 (va_cpy de3 de 0 0 s), aZ E mk 2 (upd kf 0 0)]) C 9 0 rfl (rfl) (by decide) (by decide) (rfl) rfl dX9_stairs_192 ?_
      refine g_aload_n C dX9_stairs_193 rfl ?_
      refine g_get C kwX9 0 rfl rfl 8 (by decide) kfX9_29 rfl dX9_stairs_194 ?_
      refine g_iconst (v := 1) C dX9_stairs_197 (by decide) ?_
      refine g_iconst (v := 0) C dX9_stairs_198 (by decide) ?_
      refine g_zast (ws' := [(mo, .inr (9, [.ref rw, .int (nI s), .int (lgC co3), .int (sfC co3), .int (dgC co3), .ref mh, .ref md, .int 0, .ref mk, .ref mt, .int 0, .int 0, .ref z1, .ref z2, .ref z3, .long tr, .int at2, .int be2, .int (nI s), .ref y1, .ref y2, .ref y3, .ref y4, .int nu2, .int os, .int od, .int sl, .ref ya, .int fpu, .ref yw, .int wn, .ref yp])), aI E mt 100 tf, aI E y1 9 hi3, aI E y2 9 de3, aI E y3 9 pm3, aI E y4 3 co3, aI E rw 168 (va_cpy pm3 (z12 rf 12) 0 3 s), aI E mh 9 (va_cpy hi3 hi 0 0 s), aI E md 9 (va_cpy de3 de 0 0 s), aZ E mk 2 (upd (upd kf 0 0) 1 0)]) C 9 1 rfl (rfl) (by decide) (by decide) (rfl) rfl dX9_stairs_199 ?_
      refine g_iload_n C dX9_stairs_200 rfl ?_
      exact g_iret C hR (⟨_, _, _, rfl, rfl⟩) dX9_stairs_201
    · skip
      exact absurd (Int32.le_refl _) c129
  | succ f ih =>
    intro s hs
    refine g_iload_n C dX9_stairs_124 rfl ?_
    refine g_aload_n C dX9_stairs_125 rfl ?_
    refine g_get C kwX9 0 rfl rfl 1 (by decide) kfX9_66 rfl dX9_stairs_126 ?_
    refine g_icmp_ge (tgt := 176) C dX9_stairs_129 (by decide) (fun c129 => ?_) (fun c129 => ?_)
    · skip
      exact absurd (nx_ge (by omega) (by omega) c129) (by omega)
    · skip
      refine g_aload_n C dX9_stairs_132 rfl ?_
      refine g_get C kwX9 0 rfl rfl 5 (by decide) kfX9_23 rfl dX9_stairs_133 ?_
      refine g_iload_n C dX9_stairs_136 rfl ?_
      refine g_aload_n C dX9_stairs_137 rfl ?_
      refine g_get C kwX9 0 rfl rfl 19 (by decide) kfX9_45 rfl dX9_stairs_138 ?_
      refine g_iload_n C dX9_stairs_141 rfl ?_
      refine g_iald C 2 s rfl (rfl) (by omega) (by decide) dX9_stairs_142 ?_
      refine g_iast (ws' := [(mo, .inr (9, [.ref rw, .int (nI n3), .int (lgC co3), .int (sfC co3), .int (dgC co3), .ref mh, .ref md, .int un, .ref mk, .ref mt, .int 0, .int sm, .ref z1, .ref z2, .ref z3, .long tr, .int at2, .int be2, .int (nI n3), .ref y1, .ref y2, .ref y3, .ref y4, .int nu2, .int os, .int od, .int sl, .ref ya, .int fpu, .ref yw, .int wn, .ref yp])), aI E mt 100 tf, aI E y1 9 hi3, aI E y2 9 de3, aI E y3 9 pm3, aI E y4 3 co3, aI E rw 168 (va_cpy pm3 (z12 rf 12) 0 3 s), aI E mh 9 (va_cpy hi3 hi 0 0 (s + 1)), aI E md 9 (va_cpy de3 de 0 0 s), aZ E mk 2 kf]) C 7 s rfl (rfl) (by omega) (by decide) (by rw [← cpr_1z (f := hi3)]; rfl) dX9_stairs_143 ?_
      refine g_aload_n C dX9_stairs_144 rfl ?_
      refine g_get C kwX9 0 rfl rfl 6 (by decide) kfX9_26 rfl dX9_stairs_145 ?_
      refine g_iload_n C dX9_stairs_148 rfl ?_
      refine g_aload_n C dX9_stairs_149 rfl ?_
      refine g_get C kwX9 0 rfl rfl 20 (by decide) kfX9_48 rfl dX9_stairs_150 ?_
      refine g_iload_n C dX9_stairs_153 rfl ?_
      refine g_iald C 3 s rfl (rfl) (by omega) (by decide) dX9_stairs_154 ?_
      refine g_iast (ws' := [(mo, .inr (9, [.ref rw, .int (nI n3), .int (lgC co3), .int (sfC co3), .int (dgC co3), .ref mh, .ref md, .int un, .ref mk, .ref mt, .int 0, .int sm, .ref z1, .ref z2, .ref z3, .long tr, .int at2, .int be2, .int (nI n3), .ref y1, .ref y2, .ref y3, .ref y4, .int nu2, .int os, .int od, .int sl, .ref ya, .int fpu, .ref yw, .int wn, .ref yp])), aI E mt 100 tf, aI E y1 9 hi3, aI E y2 9 de3, aI E y3 9 pm3, aI E y4 3 co3, aI E rw 168 (va_cpy pm3 (z12 rf 12) 0 3 s), aI E mh 9 (va_cpy hi3 hi 0 0 (s + 1)), aI E md 9 (va_cpy de3 de 0 0 (s + 1)), aZ E mk 2 kf]) C 8 s rfl (rfl) (by omega) (by decide) (by rw [← cpr_1z (f := de3)]; rfl) dX9_stairs_155 ?_
      refine g_aload_n C dX9_stairs_156 rfl ?_
      refine g_get C kwX9 0 rfl rfl 0 (by decide) kfX9_7 rfl dX9_stairs_157 ?_
      refine g_iconst (v := 3) C dX9_stairs_160 (by decide) ?_
      refine g_iload_n C dX9_stairs_161 rfl ?_
      refine g_iadd C dX9_stairs_162 ?_
      refine g_topi (v := nI (3 + s)) (nI_add 3 _) ?_
      refine g_aload_n C dX9_stairs_163 rfl ?_
      refine g_get C kwX9 0 rfl rfl 21 (by decide) kfX9_51 rfl dX9_stairs_164 ?_
      refine g_iload_n C dX9_stairs_167 rfl ?_
      refine g_iald C 4 s rfl (rfl) (by omega) (by decide) dX9_stairs_168 ?_
      refine g_iast (ws' := [(mo, .inr (9, [.ref rw, .int (nI n3), .int (lgC co3), .int (sfC co3), .int (dgC co3), .ref mh, .ref md, .int un, .ref mk, .ref mt, .int 0, .int sm, .ref z1, .ref z2, .ref z3, .long tr, .int at2, .int be2, .int (nI n3), .ref y1, .ref y2, .ref y3, .ref y4, .int nu2, .int os, .int od, .int sl, .ref ya, .int fpu, .ref yw, .int wn, .ref yp])), aI E mt 100 tf, aI E y1 9 hi3, aI E y2 9 de3, aI E y3 9 pm3, aI E y4 3 co3, aI E rw 168 (va_cpy pm3 (z12 rf 12) 0 3 (s + 1)), aI E mh 9 (va_cpy hi3 hi 0 0 (s + 1)), aI E md 9 (va_cpy de3 de 0 0 (s + 1)), aZ E mk 2 kf]) C 6 (3 + s) rfl (rfl) (by omega) (by decide) (by rw [← cpr_1 (f := pm3) (t := 3)]; rfl) dX9_stairs_169 ?_
      refine g_iinc (v := nI (s + 1)) (lv' := [some (.ref mo), some (.int (nI i3)), some (.int (nI (s + 1)))]) C dX9_stairs_170 rfl (nI_add _ 1) (hnl 2 (by decide)) rfl rfl ?_
      refine g_goto (tgt := 124) C dX9_stairs_173 (by decide) ?_
      exact ih (s + 1) (by omega)

set_option maxHeartbeats 4000000 in
set_option maxRecDepth 100000 in
theorem lp1_X9_st {k : KX} {E : EX} (C : Cx k E cX9_stairs RX9 (rmL 8 0 0)) (hnl : ∀ j : Nat, j < 3 → j < k.nL) {mo : Nat} {rw : Nat} {mh : Nat} {md : Nat} {mk : Nat} {mt : Nat} {z1 : Nat} {z2 : Nat} {z3 : Nat} {y1 : Nat} {y2 : Nat} {y3 : Nat} {y4 : Nat} {ya : Nat} {yw : Nat} {yp : Nat} {tr : Int64} {os : Int32} {od : Int32} {sl : Int32} {fpu : Int32} {wn : Int32} {tf : Nat → Int32} {hi : Nat → Int32} {de : Nat → Int32} {rf : Nat → Int32} {kf : Nat → Int32} {i3 : Nat} {n3 : Nat} {hi3 : Nat → Int32} {de3 : Nat → Int32} {pm3 : Nat → Int32} {co3 : Nat → Int32} {at2 : Int32} {be2 : Int32} {nu2 : Int32} {un : Int32} {sm : Int32} (hn3 : n3 ≤ 9) (hR : Rt k E (fun (rv_ : Option Value) (rw_ : va_W) => ∃ (at2 : Int32) (be2 : Int32) (nu2 : Int32), rv_ = some (.int (nI i3)) ∧ rw_ = [(mo, .inr (9, [.ref rw, .int (nI n3), .int (lgC co3), .int (sfC co3), .int (dgC co3), .ref mh, .ref md, .int 0, .ref mk, .ref mt, .int 0, .int 0, .ref z1, .ref z2, .ref z3, .long tr, .int at2, .int be2, .int (nI n3), .ref y1, .ref y2, .ref y3, .ref y4, .int nu2, .int os, .int od, .int sl, .ref ya, .int fpu, .ref yw, .int wn, .ref yp])), aI E mt 100 tf, aI E y1 9 hi3, aI E y2 9 de3, aI E y3 9 pm3, aI E y4 3 co3, aI E rw 168 (va_cpy pm3 (z12 rf 12) 0 3 n3), aI E mh 9 (va_cpy hi3 hi 0 0 n3), aI E md 9 (va_cpy de3 de 0 0 n3), aZ E mk 2 (upd (upd kf 0 0) 1 0)]) 0 0 (some .int)) : ∀ (f j : Nat), j + f = 12 → G k E 0 0 103 [some (.ref mo), some (.int (nI i3)), some (.int (nI j))] [] [(mo, .inr (9, [.ref rw, .int (nI n3), .int (lgC co3), .int (sfC co3), .int (dgC co3), .ref mh, .ref md, .int un, .ref mk, .ref mt, .int 0, .int sm, .ref z1, .ref z2, .ref z3, .long tr, .int at2, .int be2, .int (nI n3), .ref y1, .ref y2, .ref y3, .ref y4, .int nu2, .int os, .int od, .int sl, .ref ya, .int fpu, .ref yw, .int wn, .ref yp])), aI E mt 100 tf, aI E y1 9 hi3, aI E y2 9 de3, aI E y3 9 pm3, aI E y4 3 co3, aI E rw 168 (z12 rf j), aI E mh 9 hi, aI E md 9 de, aZ E mk 2 kf] := by
  intro f
  induction f with
  | zero =>
    intro j hj
    have e : j = 12 := by omega
    subst e
    refine g_iload_n C dX9_stairs_103 rfl ?_
    refine g_bipush (v := 12) C dX9_stairs_104 (by decide) ?_
    refine g_icmp_ge (tgt := 122) C dX9_stairs_106 (by decide) (fun c106 => ?_) (fun c106 => ?_)
    · skip
      refine g_iconst (v := 0) C dX9_stairs_122 (by decide) ?_
      refine g_istore_n (lv' := [some (.ref mo), some (.int (nI i3)), some (.int 0)]) C dX9_stairs_123 (hnl 2 (by decide)) rfl rfl ?_
      have h0 := lp2_X9_st (rf := rf) (hi := hi) (de := de) (kf := kf) (hi3 := hi3) (de3 := de3) (pm3 := pm3) (co3 := co3) (at2 := at2) (be2 := be2) (nu2 := nu2) (un := un) (sm := sm) (tf := tf) (i3 := i3) C hnl hn3 hR n3 0 (by omega)
      rw [cpr_0, cpr_0, cpr_0] at h0
      exact h0
    · skip
      exact absurd (by decide) c106
  | succ f ih =>
    intro j hj
    refine g_iload_n C dX9_stairs_103 rfl ?_
    refine g_bipush (v := 12) C dX9_stairs_104 (by decide) ?_
    refine g_icmp_ge (tgt := 122) C dX9_stairs_106 (by decide) (fun c106 => ?_) (fun c106 => ?_)
    · skip
      exact absurd ((nI_leI (a := 12) (by decide) (by omega)).mp c106) (by omega)
    · skip
      refine g_aload_n C dX9_stairs_109 rfl ?_
      refine g_get C kwX9 0 rfl rfl 0 (by decide) kfX9_7 rfl dX9_stairs_110 ?_
      refine g_iload_n C dX9_stairs_113 rfl ?_
      refine g_iconst (v := 0) C dX9_stairs_114 (by decide) ?_
      refine g_iast (ws' := [(mo, .inr (9, [.ref rw, .int (nI n3), .int (lgC co3), .int (sfC co3), .int (dgC co3), .ref mh, .ref md, .int un, .ref mk, .ref mt, .int 0, .int sm, .ref z1, .ref z2, .ref z3, .long tr, .int at2, .int be2, .int (nI n3), .ref y1, .ref y2, .ref y3, .ref y4, .int nu2, .int os, .int od, .int sl, .ref ya, .int fpu, .ref yw, .int wn, .ref yp])), aI E mt 100 tf, aI E y1 9 hi3, aI E y2 9 de3, aI E y3 9 pm3, aI E y4 3 co3, aI E rw 168 (z12 rf (j + 1)), aI E mh 9 hi, aI E md 9 de, aZ E mk 2 kf]) C 6 j rfl (rfl) (by omega) (by decide) (by rw [← z12_1]; rfl) dX9_stairs_115 ?_
      refine g_iinc (v := nI (j + 1)) (lv' := [some (.ref mo), some (.int (nI i3)), some (.int (nI (j + 1)))]) C dX9_stairs_116 rfl (nI_add _ 1) (hnl 2 (by decide)) rfl rfl ?_
      refine g_goto (tgt := 103) C dX9_stairs_119 (by decide) ?_
      exact ih (j + 1) (by omega)

set_option maxHeartbeats 4000000 in
set_option maxRecDepth 100000 in
theorem c_X9_stairs (l : Launch) (E : EX) (mo : Nat) (rw : Nat) (mh : Nat) (md : Nat) (mk : Nat) (mt : Nat) (z1 : Nat) (z2 : Nat) (z3 : Nat) (y1 : Nat) (y2 : Nat) (y3 : Nat) (y4 : Nat) (ya : Nat) (yw : Nat) (yp : Nat) (st0 : Int32) (lg : Int32) (sf : Int32) (dg : Int32) (un : Int32) (sm : Int32) (tr : Int64) (at_ : Int32) (nu : Int32) (os : Int32) (od : Int32) (sl : Int32) (fpu : Int32) (wn : Int32) (l0 : Nat) (tf : Nat → Int32) (hi9 : Nat → Int32) (de9 : Nat → Int32) (pm9 : Nat → Int32) (co : Nat → Int32) (be : Int32) (rs : Int32) (hi : Nat → Int32) (de : Nat → Int32) (rf : Nat → Int32) (kf : Nat → Int32) (i3 : Nat) (n3 : Nat) (hi3 : Nat → Int32) (de3 : Nat → Int32) (pm3 : Nat → Int32) (co3 : Nat → Int32) (hl : l0 ≤ 100) (hp : parseF tf l0 100 0 0 (0, hi9, de9, pm9, CO3 co) = .inr (i3, n3, hi3, de3, pm3, co3)) : Ct l E yX9_stairs cX9_stairs 3 (some .int) (rmL 8 0 0) [.ref mo] [(mo, .inr (9, [.ref rw, .int st0, .int lg, .int sf, .int dg, .ref mh, .ref md, .int un, .ref mk, .ref mt, .int (nI l0), .int sm, .ref z1, .ref z2, .ref z3, .long tr, .int at_, .int be, .int rs, .ref y1, .ref y2, .ref y3, .ref y4, .int nu, .int os, .int od, .int sl, .ref ya, .int fpu, .ref yw, .int wn, .ref yp])), aI E mt 100 tf, aI E y1 9 hi9, aI E y2 9 de9, aI E y3 9 pm9, aI E y4 3 co, aI E rw 168 rf, aI E mh 9 hi, aI E md 9 de, aZ E mk 2 kf] (fun (rv_ : Option Value) (rw_ : va_W) => ∃ (at2 : Int32) (be2 : Int32) (nu2 : Int32), rv_ = some (.int (nI i3)) ∧ rw_ = [(mo, .inr (9, [.ref rw, .int (nI n3), .int (lgC co3), .int (sfC co3), .int (dgC co3), .ref mh, .ref md, .int 0, .ref mk, .ref mt, .int 0, .int 0, .ref z1, .ref z2, .ref z3, .long tr, .int at2, .int be2, .int (nI n3), .ref y1, .ref y2, .ref y3, .ref y4, .int nu2, .int os, .int od, .int sl, .ref ya, .int fpu, .ref yw, .int wn, .ref yp])), aI E mt 100 tf, aI E y1 9 hi3, aI E y2 9 de3, aI E y3 9 pm3, aI E y4 3 co3, aI E rw 168 (va_cpy pm3 (z12 rf 12) 0 3 n3), aI E mh 9 (va_cpy hi3 hi 0 0 n3), aI E md 9 (va_cpy de3 de 0 0 n3), aZ E mk 2 (upd (upd kf 0 0) 1 0)]) 0 0 := by
  refine Ct_of (by decide) (Nat.le_of_ble_eq_true rfl) ?_
  intro k hkl hnl C hR hin_
  subst hkl
  show G k E 0 0 0 [some (.ref mo), none, none] [] [(mo, .inr (9, [.ref rw, .int st0, .int lg, .int sf, .int dg, .ref mh, .ref md, .int un, .ref mk, .ref mt, .int (nI l0), .int sm, .ref z1, .ref z2, .ref z3, .long tr, .int at_, .int be, .int rs, .ref y1, .ref y2, .ref y3, .ref y4, .int nu, .int os, .int od, .int sl, .ref ya, .int fpu, .ref yw, .int wn, .ref yp])), aI E mt 100 tf, aI E y1 9 hi9, aI E y2 9 de9, aI E y3 9 pm9, aI E y4 3 co, aI E rw 168 rf, aI E mh 9 hi, aI E md 9 de, aZ E mk 2 kf]
  refine g_aload_n C dX9_stairs_0 rfl ?_
  refine g_callV C (c_X9_readItems k.l E mo rw mh md mk mt z1 z2 z3 y1 y2 y3 y4 ya yw yp st0 lg sf dg un sm tr at_ nu os od sl fpu wn l0 tf hi9 de9 pm9 co be rs (by first | assumption | omega)) kmX9_112 kiX9_readItems ksX9_readItems knX9 kcX9_readItems ⟨rfl, rfl⟩ ⟨rfl, kdX9_readItems⟩ ⟨by decide, by decide⟩ ⟨by decide, by decide⟩ [0, 1, 2, 3, 4, 5] [6, 7, 8, 9] rfl (wr := [aI E rw 168 rf, aI E mh 9 hi, aI E md 9 de, aZ E mk 2 kf]) rfl (by decide +kernel) (by decide +kernel) (by decide +kernel) 0 9 rfl rfl rfl (As := []) (rest := []) rfl (Nat.le_of_ble_eq_true rfl) dX9_stairs_1 (fun rv_ rw_ hp_ => ?_)
  obtain ⟨rv, at2, be2, rs2, nu2, hi2, de2, pma2, co2, rfl, rfl, hF_, hS2⟩ := hp_
  refine g_rep [4, 5, 6, 7, 8, 9, 0, 1, 2, 3] (ws' := [(mo, .inr (9, [.ref rw, .int st0, .int lg, .int sf, .int dg, .ref mh, .ref md, .int un, .ref mk, .ref mt, .int (nI l0), .int sm, .ref z1, .ref z2, .ref z3, .long tr, .int at2, .int be2, .int rs2, .ref y1, .ref y2, .ref y3, .ref y4, .int nu2, .int os, .int od, .int sl, .ref ya, .int fpu, .ref yw, .int wn, .ref yp])), aI E mt 100 tf, aI E y1 9 hi2, aI E y2 9 de2, aI E y3 9 pma2, aI E y4 3 co2, aI E rw 168 rf, aI E mh 9 hi, aI E md 9 de, aZ E mk 2 kf]) (st' := [.int rv]) (n' := 0) (z' := 0) (pc' := 4) rfl rfl rfl rfl (by decide +kernel) rfl ?_
  obtain ⟨rfl, rfl, ez1, ez2, ez3, ez4⟩ := hS2 _ _ hp
  have ez1 : hi2 = hi3 := ez1
  have ez2 : de2 = de3 := ez2
  have ez3 : pma2 = pm3 := ez3
  have ez4 : co2 = co3 := ez4
  subst ez1 ez2 ez3 ez4
  have hPl := (parseF_le 100 0 0 _ (Nat.zero_le _) (POK_0 _ _ _ _)).2 _ _ hp
  have hi3_ : i3 ≤ 100 := by have := hPl.1; omega
  have hn3 : n3 ≤ 9 := hPl.2.1
  show G k E 0 0 4 [some (.ref mo), none, none] [.int (nI i3)] [(mo, .inr (9, [.ref rw, .int st0, .int lg, .int sf, .int dg, .ref mh, .ref md, .int un, .ref mk, .ref mt, .int (nI l0), .int sm, .ref z1, .ref z2, .ref z3, .long tr, .int at2, .int be2, .int (nI n3), .ref y1, .ref y2, .ref y3, .ref y4, .int nu2, .int os, .int od, .int sl, .ref ya, .int fpu, .ref yw, .int wn, .ref yp])), aI E mt 100 tf, aI E y1 9 hi2, aI E y2 9 de2, aI E y3 9 pma2, aI E y4 3 co2, aI E rw 168 rf, aI E mh 9 hi, aI E md 9 de, aZ E mk 2 kf]
  refine g_istore_n (lv' := [some (.ref mo), some (.int (nI i3)), none]) C dX9_stairs_4 (hnl 1 (by decide)) rfl rfl ?_
  refine g_iload_n C dX9_stairs_5 rfl ?_
  refine g_bipush (v := (-9)) C dX9_stairs_6 (by decide) ?_
  refine g_icmp_ne (tgt := 19) C dX9_stairs_8 (by decide) (fun c8 => ?_) (fun c8 => ?_)
  · skip
    refine g_aload_n C dX9_stairs_19 rfl ?_
    refine g_iconst (v := 0) C dX9_stairs_20 (by decide) ?_
    refine g_put (ws' := [(mo, .inr (9, [.ref rw, .int st0, .int lg, .int sf, .int dg, .ref mh, .ref md, .int un, .ref mk, .ref mt, .int 0, .int sm, .ref z1, .ref z2, .ref z3, .long tr, .int at2, .int be2, .int (nI n3), .ref y1, .ref y2, .ref y3, .ref y4, .int nu2, .int os, .int od, .int sl, .ref ya, .int fpu, .ref yw, .int wn, .ref yp])), aI E mt 100 tf, aI E y1 9 hi2, aI E y2 9 de2, aI E y3 9 pma2, aI E y4 3 co2, aI E rw 168 rf, aI E mh 9 hi, aI E md 9 de, aZ E mk 2 kf]) C kwX9 tyX9 tyX9_ok nmX9 0 rfl rfl 10 (by decide) kfX9_73 rfl rfl rfl (Nat.le_of_ble_eq_true rfl) rfl dX9_stairs_21 ?_
    refine g_aload_n C dX9_stairs_24 rfl ?_
    refine g_aload_n C dX9_stairs_25 rfl ?_
    refine g_get C kwX9 0 rfl rfl 18 (by decide) kfX9_92 rfl dX9_stairs_26 ?_
    refine g_put (ws' := [(mo, .inr (9, [.ref rw, .int (nI n3), .int lg, .int sf, .int dg, .ref mh, .ref md, .int un, .ref mk, .ref mt, .int 0, .int sm, .ref z1, .ref z2, .ref z3, .long tr, .int at2, .int be2, .int (nI n3), .ref y1, .ref y2, .ref y3, .ref y4, .int nu2, .int os, .int od, .int sl, .ref ya, .int fpu, .ref yw, .int wn, .ref yp])), aI E mt 100 tf, aI E y1 9 hi2, aI E y2 9 de2, aI E y3 9 pma2, aI E y4 3 co2, aI E rw 168 rf, aI E mh 9 hi, aI E md 9 de, aZ E mk 2 kf]) C kwX9 tyX9 tyX9_ok nmX9 0 rfl rfl 1 (by decide) kfX9_66 rfl rfl rfl (Nat.le_of_ble_eq_true rfl) rfl dX9_stairs_29 ?_
    refine g_aload_n C dX9_stairs_32 rfl ?_
    refine g_aload_n C dX9_stairs_33 rfl ?_
    refine g_get C kwX9 0 rfl rfl 22 (by decide) kfX9_54 rfl dX9_stairs_34 ?_
    refine g_iconst (v := 0) C dX9_stairs_37 (by decide) ?_
    refine g_iald C 5 0 rfl (rfl) (by decide) (by decide) dX9_stairs_38 ?_
    refine g_if_ge (tgt := 46) C dX9_stairs_39 (by decide) (fun c39 => ?_) (fun c39 => ?_)
    · skip
      have q0 := Int32.not_lt.mpr c39
      refine g_aload_n C dX9_stairs_46 rfl ?_
      refine g_get C kwX9 0 rfl rfl 22 (by decide) kfX9_54 rfl dX9_stairs_47 ?_
      refine g_iconst (v := 0) C dX9_stairs_50 (by decide) ?_
      refine g_iald C 5 0 rfl (rfl) (by decide) (by decide) dX9_stairs_51 ?_
      refine g_topi (v := lgC co2) ((if_neg q0).symm) ?_
      refine g_put (ws' := [(mo, .inr (9, [.ref rw, .int (nI n3), .int (lgC co2), .int sf, .int dg, .ref mh, .ref md, .int un, .ref mk, .ref mt, .int 0, .int sm, .ref z1, .ref z2, .ref z3, .long tr, .int at2, .int be2, .int (nI n3), .ref y1, .ref y2, .ref y3, .ref y4, .int nu2, .int os, .int od, .int sl, .ref ya, .int fpu, .ref yw, .int wn, .ref yp])), aI E mt 100 tf, aI E y1 9 hi2, aI E y2 9 de2, aI E y3 9 pma2, aI E y4 3 co2, aI E rw 168 rf, aI E mh 9 hi, aI E md 9 de, aZ E mk 2 kf]) C kwX9 tyX9 tyX9_ok nmX9 0 rfl rfl 2 (by decide) kfX9_13 rfl rfl rfl (Nat.le_of_ble_eq_true rfl) rfl dX9_stairs_52 ?_
      refine g_aload_n C dX9_stairs_55 rfl ?_
      refine g_aload_n C dX9_stairs_56 rfl ?_
      refine g_get C kwX9 0 rfl rfl 22 (by decide) kfX9_54 rfl dX9_stairs_57 ?_
      refine g_iconst (v := 1) C dX9_stairs_60 (by decide) ?_
      refine g_iald C 5 1 rfl (rfl) (by decide) (by decide) dX9_stairs_61 ?_
      refine g_if_ge (tgt := 69) C dX9_stairs_62 (by decide) (fun c62 => ?_) (fun c62 => ?_)
      · skip
        have q1 := Int32.not_lt.mpr c62
        refine g_aload_n C dX9_stairs_69 rfl ?_
        refine g_get C kwX9 0 rfl rfl 22 (by decide) kfX9_54 rfl dX9_stairs_70 ?_
        refine g_iconst (v := 1) C dX9_stairs_73 (by decide) ?_
        refine g_iald C 5 1 rfl (rfl) (by decide) (by decide) dX9_stairs_74 ?_
        refine g_topi (v := sfC co2) ((if_neg q1).symm) ?_
        refine g_put (ws' := [(mo, .inr (9, [.ref rw, .int (nI n3), .int (lgC co2), .int (sfC co2), .int dg, .ref mh, .ref md, .int un, .ref mk, .ref mt, .int 0, .int sm, .ref z1, .ref z2, .ref z3, .long tr, .int at2, .int be2, .int (nI n3), .ref y1, .ref y2, .ref y3, .ref y4, .int nu2, .int os, .int od, .int sl, .ref ya, .int fpu, .ref yw, .int wn, .ref yp])), aI E mt 100 tf, aI E y1 9 hi2, aI E y2 9 de2, aI E y3 9 pma2, aI E y4 3 co2, aI E rw 168 rf, aI E mh 9 hi, aI E md 9 de, aZ E mk 2 kf]) C kwX9 tyX9 tyX9_ok nmX9 0 rfl rfl 3 (by decide) kfX9_17 rfl rfl rfl (Nat.le_of_ble_eq_true rfl) rfl dX9_stairs_75 ?_
        refine g_aload_n C dX9_stairs_78 rfl ?_
        refine g_aload_n C dX9_stairs_79 rfl ?_
        refine g_get C kwX9 0 rfl rfl 22 (by decide) kfX9_54 rfl dX9_stairs_80 ?_
        refine g_iconst (v := 2) C dX9_stairs_83 (by decide) ?_
        refine g_iald C 5 2 rfl (rfl) (by decide) (by decide) dX9_stairs_84 ?_
        refine g_if_ge (tgt := 92) C dX9_stairs_85 (by decide) (fun c85 => ?_) (fun c85 => ?_)
        · skip
          have q2 := Int32.not_lt.mpr c85
          refine g_aload_n C dX9_stairs_92 rfl ?_
          refine g_get C kwX9 0 rfl rfl 22 (by decide) kfX9_54 rfl dX9_stairs_93 ?_
          refine g_iconst (v := 2) C dX9_stairs_96 (by decide) ?_
          refine g_iald C 5 2 rfl (rfl) (by decide) (by decide) dX9_stairs_97 ?_
          refine g_topi (v := dgC co2) ((if_neg q2).symm) ?_
          refine g_put (ws' := [(mo, .inr (9, [.ref rw, .int (nI n3), .int (lgC co2), .int (sfC co2), .int (dgC co2), .ref mh, .ref md, .int un, .ref mk, .ref mt, .int 0, .int sm, .ref z1, .ref z2, .ref z3, .long tr, .int at2, .int be2, .int (nI n3), .ref y1, .ref y2, .ref y3, .ref y4, .int nu2, .int os, .int od, .int sl, .ref ya, .int fpu, .ref yw, .int wn, .ref yp])), aI E mt 100 tf, aI E y1 9 hi2, aI E y2 9 de2, aI E y3 9 pma2, aI E y4 3 co2, aI E rw 168 rf, aI E mh 9 hi, aI E md 9 de, aZ E mk 2 kf]) C kwX9 tyX9 tyX9_ok nmX9 0 rfl rfl 4 (by decide) kfX9_20 rfl rfl rfl (Nat.le_of_ble_eq_true rfl) rfl dX9_stairs_98 ?_
          refine g_iconst (v := 0) C dX9_stairs_101 (by decide) ?_
          refine g_istore_n (lv' := [some (.ref mo), some (.int (nI i3)), some (.int 0)]) C dX9_stairs_102 (hnl 2 (by decide)) rfl rfl ?_
          have h0 := lp1_X9_st (rf := rf) (hi := hi) (de := de) (kf := kf) (hi3 := hi2) (de3 := de2) (pm3 := pma2) (co3 := co2) (at2 := at2) (be2 := be2) (nu2 := nu2) (un := un) (sm := sm) (tf := tf) (i3 := i3) C hnl hn3 hR 12 0 (by omega)
          rw [z12_0] at h0
          exact h0
        · skip
          have q2 := Int32.not_le.mp c85
          refine g_iconst (v := 1) C dX9_stairs_88 (by decide) ?_
          refine g_goto (tgt := 98) C dX9_stairs_89 (by decide) ?_
          refine g_topi (v := dgC co2) ((if_pos q2).symm) ?_
          refine g_put (ws' := [(mo, .inr (9, [.ref rw, .int (nI n3), .int (lgC co2), .int (sfC co2), .int (dgC co2), .ref mh, .ref md, .int un, .ref mk, .ref mt, .int 0, .int sm, .ref z1, .ref z2, .ref z3, .long tr, .int at2, .int be2, .int (nI n3), .ref y1, .ref y2, .ref y3, .ref y4, .int nu2, .int os, .int od, .int sl, .ref ya, .int fpu, .ref yw, .int wn, .ref yp])), aI E mt 100 tf, aI E y1 9 hi2, aI E y2 9 de2, aI E y3 9 pma2, aI E y4 3 co2, aI E rw 168 rf, aI E mh 9 hi, aI E md 9 de, aZ E mk 2 kf]) C kwX9 tyX9 tyX9_ok nmX9 0 rfl rfl 4 (by decide) kfX9_20 rfl rfl rfl (Nat.le_of_ble_eq_true rfl) rfl dX9_stairs_98 ?_
          refine g_iconst (v := 0) C dX9_stairs_101 (by decide) ?_
          refine g_istore_n (lv' := [some (.ref mo), some (.int (nI i3)), some (.int 0)]) C dX9_stairs_102 (hnl 2 (by decide)) rfl rfl ?_
          have h0 := lp1_X9_st (rf := rf) (hi := hi) (de := de) (kf := kf) (hi3 := hi2) (de3 := de2) (pm3 := pma2) (co3 := co2) (at2 := at2) (be2 := be2) (nu2 := nu2) (un := un) (sm := sm) (tf := tf) (i3 := i3) C hnl hn3 hR 12 0 (by omega)
          rw [z12_0] at h0
          exact h0
      · skip
        have q1 := Int32.not_le.mp c62
        refine g_iconst (v := 3) C dX9_stairs_65 (by decide) ?_
        refine g_goto (tgt := 75) C dX9_stairs_66 (by decide) ?_
        refine g_topi (v := sfC co2) ((if_pos q1).symm) ?_
        refine g_put (ws' := [(mo, .inr (9, [.ref rw, .int (nI n3), .int (lgC co2), .int (sfC co2), .int dg, .ref mh, .ref md, .int un, .ref mk, .ref mt, .int 0, .int sm, .ref z1, .ref z2, .ref z3, .long tr, .int at2, .int be2, .int (nI n3), .ref y1, .ref y2, .ref y3, .ref y4, .int nu2, .int os, .int od, .int sl, .ref ya, .int fpu, .ref yw, .int wn, .ref yp])), aI E mt 100 tf, aI E y1 9 hi2, aI E y2 9 de2, aI E y3 9 pma2, aI E y4 3 co2, aI E rw 168 rf, aI E mh 9 hi, aI E md 9 de, aZ E mk 2 kf]) C kwX9 tyX9 tyX9_ok nmX9 0 rfl rfl 3 (by decide) kfX9_17 rfl rfl rfl (Nat.le_of_ble_eq_true rfl) rfl dX9_stairs_75 ?_
        refine g_aload_n C dX9_stairs_78 rfl ?_
        refine g_aload_n C dX9_stairs_79 rfl ?_
        refine g_get C kwX9 0 rfl rfl 22 (by decide) kfX9_54 rfl dX9_stairs_80 ?_
        refine g_iconst (v := 2) C dX9_stairs_83 (by decide) ?_
        refine g_iald C 5 2 rfl (rfl) (by decide) (by decide) dX9_stairs_84 ?_
        refine g_if_ge (tgt := 92) C dX9_stairs_85 (by decide) (fun c85 => ?_) (fun c85 => ?_)
        · skip
          have q2 := Int32.not_lt.mpr c85
          refine g_aload_n C dX9_stairs_92 rfl ?_
          refine g_get C kwX9 0 rfl rfl 22 (by decide) kfX9_54 rfl dX9_stairs_93 ?_
          refine g_iconst (v := 2) C dX9_stairs_96 (by decide) ?_
          refine g_iald C 5 2 rfl (rfl) (by decide) (by decide) dX9_stairs_97 ?_
          refine g_topi (v := dgC co2) ((if_neg q2).symm) ?_
          refine g_put (ws' := [(mo, .inr (9, [.ref rw, .int (nI n3), .int (lgC co2), .int (sfC co2), .int (dgC co2), .ref mh, .ref md, .int un, .ref mk, .ref mt, .int 0, .int sm, .ref z1, .ref z2, .ref z3, .long tr, .int at2, .int be2, .int (nI n3), .ref y1, .ref y2, .ref y3, .ref y4, .int nu2, .int os, .int od, .int sl, .ref ya, .int fpu, .ref yw, .int wn, .ref yp])), aI E mt 100 tf, aI E y1 9 hi2, aI E y2 9 de2, aI E y3 9 pma2, aI E y4 3 co2, aI E rw 168 rf, aI E mh 9 hi, aI E md 9 de, aZ E mk 2 kf]) C kwX9 tyX9 tyX9_ok nmX9 0 rfl rfl 4 (by decide) kfX9_20 rfl rfl rfl (Nat.le_of_ble_eq_true rfl) rfl dX9_stairs_98 ?_
          refine g_iconst (v := 0) C dX9_stairs_101 (by decide) ?_
          refine g_istore_n (lv' := [some (.ref mo), some (.int (nI i3)), some (.int 0)]) C dX9_stairs_102 (hnl 2 (by decide)) rfl rfl ?_
          have h0 := lp1_X9_st (rf := rf) (hi := hi) (de := de) (kf := kf) (hi3 := hi2) (de3 := de2) (pm3 := pma2) (co3 := co2) (at2 := at2) (be2 := be2) (nu2 := nu2) (un := un) (sm := sm) (tf := tf) (i3 := i3) C hnl hn3 hR 12 0 (by omega)
          rw [z12_0] at h0
          exact h0
        · skip
          have q2 := Int32.not_le.mp c85
          refine g_iconst (v := 1) C dX9_stairs_88 (by decide) ?_
          refine g_goto (tgt := 98) C dX9_stairs_89 (by decide) ?_
          refine g_topi (v := dgC co2) ((if_pos q2).symm) ?_
          refine g_put (ws' := [(mo, .inr (9, [.ref rw, .int (nI n3), .int (lgC co2), .int (sfC co2), .int (dgC co2), .ref mh, .ref md, .int un, .ref mk, .ref mt, .int 0, .int sm, .ref z1, .ref z2, .ref z3, .long tr, .int at2, .int be2, .int (nI n3), .ref y1, .ref y2, .ref y3, .ref y4, .int nu2, .int os, .int od, .int sl, .ref ya, .int fpu, .ref yw, .int wn, .ref yp])), aI E mt 100 tf, aI E y1 9 hi2, aI E y2 9 de2, aI E y3 9 pma2, aI E y4 3 co2, aI E rw 168 rf, aI E mh 9 hi, aI E md 9 de, aZ E mk 2 kf]) C kwX9 tyX9 tyX9_ok nmX9 0 rfl rfl 4 (by decide) kfX9_20 rfl rfl rfl (Nat.le_of_ble_eq_true rfl) rfl dX9_stairs_98 ?_
          refine g_iconst (v := 0) C dX9_stairs_101 (by decide) ?_
          refine g_istore_n (lv' := [some (.ref mo), some (.int (nI i3)), some (.int 0)]) C dX9_stairs_102 (hnl 2 (by decide)) rfl rfl ?_
          have h0 := lp1_X9_st (rf := rf) (hi := hi) (de := de) (kf := kf) (hi3 := hi2) (de3 := de2) (pm3 := pma2) (co3 := co2) (at2 := at2) (be2 := be2) (nu2 := nu2) (un := un) (sm := sm) (tf := tf) (i3 := i3) C hnl hn3 hR 12 0 (by omega)
          rw [z12_0] at h0
          exact h0
    · skip
      have q0 := Int32.not_le.mp c39
      refine g_iconst (v := 4) C dX9_stairs_42 (by decide) ?_
      refine g_goto (tgt := 52) C dX9_stairs_43 (by decide) ?_
      refine g_topi (v := lgC co2) ((if_pos q0).symm) ?_
      refine g_put (ws' := [(mo, .inr (9, [.ref rw, .int (nI n3), .int (lgC co2), .int sf, .int dg, .ref mh, .ref md, .int un, .ref mk, .ref mt, .int 0, .int sm, .ref z1, .ref z2, .ref z3, .long tr, .int at2, .int be2, .int (nI n3), .ref y1, .ref y2, .ref y3, .ref y4, .int nu2, .int os, .int od, .int sl, .ref ya, .int fpu, .ref yw, .int wn, .ref yp])), aI E mt 100 tf, aI E y1 9 hi2, aI E y2 9 de2, aI E y3 9 pma2, aI E y4 3 co2, aI E rw 168 rf, aI E mh 9 hi, aI E md 9 de, aZ E mk 2 kf]) C kwX9 tyX9 tyX9_ok nmX9 0 rfl rfl 2 (by decide) kfX9_13 rfl rfl rfl (Nat.le_of_ble_eq_true rfl) rfl dX9_stairs_52 ?_
      refine g_aload_n C dX9_stairs_55 rfl ?_
      refine g_aload_n C dX9_stairs_56 rfl ?_
      refine g_get C kwX9 0 rfl rfl 22 (by decide) kfX9_54 rfl dX9_stairs_57 ?_
      refine g_iconst (v := 1) C dX9_stairs_60 (by decide) ?_
      refine g_iald C 5 1 rfl (rfl) (by decide) (by decide) dX9_stairs_61 ?_
      refine g_if_ge (tgt := 69) C dX9_stairs_62 (by decide) (fun c62 => ?_) (fun c62 => ?_)
      · skip
        have q1 := Int32.not_lt.mpr c62
        refine g_aload_n C dX9_stairs_69 rfl ?_
        refine g_get C kwX9 0 rfl rfl 22 (by decide) kfX9_54 rfl dX9_stairs_70 ?_
        refine g_iconst (v := 1) C dX9_stairs_73 (by decide) ?_
        refine g_iald C 5 1 rfl (rfl) (by decide) (by decide) dX9_stairs_74 ?_
        refine g_topi (v := sfC co2) ((if_neg q1).symm) ?_
        refine g_put (ws' := [(mo, .inr (9, [.ref rw, .int (nI n3), .int (lgC co2), .int (sfC co2), .int dg, .ref mh, .ref md, .int un, .ref mk, .ref mt, .int 0, .int sm, .ref z1, .ref z2, .ref z3, .long tr, .int at2, .int be2, .int (nI n3), .ref y1, .ref y2, .ref y3, .ref y4, .int nu2, .int os, .int od, .int sl, .ref ya, .int fpu, .ref yw, .int wn, .ref yp])), aI E mt 100 tf, aI E y1 9 hi2, aI E y2 9 de2, aI E y3 9 pma2, aI E y4 3 co2, aI E rw 168 rf, aI E mh 9 hi, aI E md 9 de, aZ E mk 2 kf]) C kwX9 tyX9 tyX9_ok nmX9 0 rfl rfl 3 (by decide) kfX9_17 rfl rfl rfl (Nat.le_of_ble_eq_true rfl) rfl dX9_stairs_75 ?_
        refine g_aload_n C dX9_stairs_78 rfl ?_
        refine g_aload_n C dX9_stairs_79 rfl ?_
        refine g_get C kwX9 0 rfl rfl 22 (by decide) kfX9_54 rfl dX9_stairs_80 ?_
        refine g_iconst (v := 2) C dX9_stairs_83 (by decide) ?_
        refine g_iald C 5 2 rfl (rfl) (by decide) (by decide) dX9_stairs_84 ?_
        refine g_if_ge (tgt := 92) C dX9_stairs_85 (by decide) (fun c85 => ?_) (fun c85 => ?_)
        · skip
          have q2 := Int32.not_lt.mpr c85
          refine g_aload_n C dX9_stairs_92 rfl ?_
          refine g_get C kwX9 0 rfl rfl 22 (by decide) kfX9_54 rfl dX9_stairs_93 ?_
          refine g_iconst (v := 2) C dX9_stairs_96 (by decide) ?_
          refine g_iald C 5 2 rfl (rfl) (by decide) (by decide) dX9_stairs_97 ?_
          refine g_topi (v := dgC co2) ((if_neg q2).symm) ?_
          refine g_put (ws' := [(mo, .inr (9, [.ref rw, .int (nI n3), .int (lgC co2), .int (sfC co2), .int (dgC co2), .ref mh, .ref md, .int un, .ref mk, .ref mt, .int 0, .int sm, .ref z1, .ref z2, .ref z3, .long tr, .int at2, .int be2, .int (nI n3), .ref y1, .ref y2, .ref y3, .ref y4, .int nu2, .int os, .int od, .int sl, .ref ya, .int fpu, .ref yw, .int wn, .ref yp])), aI E mt 100 tf, aI E y1 9 hi2, aI E y2 9 de2, aI E y3 9 pma2, aI E y4 3 co2, aI E rw 168 rf, aI E mh 9 hi, aI E md 9 de, aZ E mk 2 kf]) C kwX9 tyX9 tyX9_ok nmX9 0 rfl rfl 4 (by decide) kfX9_20 rfl rfl rfl (Nat.le_of_ble_eq_true rfl) rfl dX9_stairs_98 ?_
          refine g_iconst (v := 0) C dX9_stairs_101 (by decide) ?_
          refine g_istore_n (lv' := [some (.ref mo), some (.int (nI i3)), some (.int 0)]) C dX9_stairs_102 (hnl 2 (by decide)) rfl rfl ?_
          have h0 := lp1_X9_st (rf := rf) (hi := hi) (de := de) (kf := kf) (hi3 := hi2) (de3 := de2) (pm3 := pma2) (co3 := co2) (at2 := at2) (be2 := be2) (nu2 := nu2) (un := un) (sm := sm) (tf := tf) (i3 := i3) C hnl hn3 hR 12 0 (by omega)
          rw [z12_0] at h0
          exact h0
        · skip
          have q2 := Int32.not_le.mp c85
          refine g_iconst (v := 1) C dX9_stairs_88 (by decide) ?_
          refine g_goto (tgt := 98) C dX9_stairs_89 (by decide) ?_
          refine g_topi (v := dgC co2) ((if_pos q2).symm) ?_
          refine g_put (ws' := [(mo, .inr (9, [.ref rw, .int (nI n3), .int (lgC co2), .int (sfC co2), .int (dgC co2), .ref mh, .ref md, .int un, .ref mk, .ref mt, .int 0, .int sm, .ref z1, .ref z2, .ref z3, .long tr, .int at2, .int be2, .int (nI n3), .ref y1, .ref y2, .ref y3, .ref y4, .int nu2, .int os, .int od, .int sl, .ref ya, .int fpu, .ref yw, .int wn, .ref yp])), aI E mt 100 tf, aI E y1 9 hi2, aI E y2 9 de2, aI E y3 9 pma2, aI E y4 3 co2, aI E rw 168 rf, aI E mh 9 hi, aI E md 9 de, aZ E mk 2 kf]) C kwX9 tyX9 tyX9_ok nmX9 0 rfl rfl 4 (by decide) kfX9_20 rfl rfl rfl (Nat.le_of_ble_eq_true rfl) rfl dX9_stairs_98 ?_
          refine g_iconst (v := 0) C dX9_stairs_101 (by decide) ?_
          refine g_istore_n (lv' := [some (.ref mo), some (.int (nI i3)), some (.int 0)]) C dX9_stairs_102 (hnl 2 (by decide)) rfl rfl ?_
          have h0 := lp1_X9_st (rf := rf) (hi := hi) (de := de) (kf := kf) (hi3 := hi2) (de3 := de2) (pm3 := pma2) (co3 := co2) (at2 := at2) (be2 := be2) (nu2 := nu2) (un := un) (sm := sm) (tf := tf) (i3 := i3) C hnl hn3 hR 12 0 (by omega)
          rw [z12_0] at h0
          exact h0
      · skip
        have q1 := Int32.not_le.mp c62
        refine g_iconst (v := 3) C dX9_stairs_65 (by decide) ?_
        refine g_goto (tgt := 75) C dX9_stairs_66 (by decide) ?_
        refine g_topi (v := sfC co2) ((if_pos q1).symm) ?_
        refine g_put (ws' := [(mo, .inr (9, [.ref rw, .int (nI n3), .int (lgC co2), .int (sfC co2), .int dg, .ref mh, .ref md, .int un, .ref mk, .ref mt, .int 0, .int sm, .ref z1, .ref z2, .ref z3, .long tr, .int at2, .int be2, .int (nI n3), .ref y1, .ref y2, .ref y3, .ref y4, .int nu2, .int os, .int od, .int sl, .ref ya, .int fpu, .ref yw, .int wn, .ref yp])), aI E mt 100 tf, aI E y1 9 hi2, aI E y2 9 de2, aI E y3 9 pma2, aI E y4 3 co2, aI E rw 168 rf, aI E mh 9 hi, aI E md 9 de, aZ E mk 2 kf]) C kwX9 tyX9 tyX9_ok nmX9 0 rfl rfl 3 (by decide) kfX9_17 rfl rfl rfl (Nat.le_of_ble_eq_true rfl) rfl dX9_stairs_75 ?_
        refine g_aload_n C dX9_stairs_78 rfl ?_
        refine g_aload_n C dX9_stairs_79 rfl ?_
        refine g_get C kwX9 0 rfl rfl 22 (by decide) kfX9_54 rfl dX9_stairs_80 ?_
        refine g_iconst (v := 2) C dX9_stairs_83 (by decide) ?_
        refine g_iald C 5 2 rfl (rfl) (by decide) (by decide) dX9_stairs_84 ?_
        refine g_if_ge (tgt := 92) C dX9_stairs_85 (by decide) (fun c85 => ?_) (fun c85 => ?_)
        · skip
          have q2 := Int32.not_lt.mpr c85
          refine g_aload_n C dX9_stairs_92 rfl ?_
          refine g_get C kwX9 0 rfl rfl 22 (by decide) kfX9_54 rfl dX9_stairs_93 ?_
          refine g_iconst (v := 2) C dX9_stairs_96 (by decide) ?_
          refine g_iald C 5 2 rfl (rfl) (by decide) (by decide) dX9_stairs_97 ?_
          refine g_topi (v := dgC co2) ((if_neg q2).symm) ?_
          refine g_put (ws' := [(mo, .inr (9, [.ref rw, .int (nI n3), .int (lgC co2), .int (sfC co2), .int (dgC co2), .ref mh, .ref md, .int un, .ref mk, .ref mt, .int 0, .int sm, .ref z1, .ref z2, .ref z3, .long tr, .int at2, .int be2, .int (nI n3), .ref y1, .ref y2, .ref y3, .ref y4, .int nu2, .int os, .int od, .int sl, .ref ya, .int fpu, .ref yw, .int wn, .ref yp])), aI E mt 100 tf, aI E y1 9 hi2, aI E y2 9 de2, aI E y3 9 pma2, aI E y4 3 co2, aI E rw 168 rf, aI E mh 9 hi, aI E md 9 de, aZ E mk 2 kf]) C kwX9 tyX9 tyX9_ok nmX9 0 rfl rfl 4 (by decide) kfX9_20 rfl rfl rfl (Nat.le_of_ble_eq_true rfl) rfl dX9_stairs_98 ?_
          refine g_iconst (v := 0) C dX9_stairs_101 (by decide) ?_
          refine g_istore_n (lv' := [some (.ref mo), some (.int (nI i3)), some (.int 0)]) C dX9_stairs_102 (hnl 2 (by decide)) rfl rfl ?_
          have h0 := lp1_X9_st (rf := rf) (hi := hi) (de := de) (kf := kf) (hi3 := hi2) (de3 := de2) (pm3 := pma2) (co3 := co2) (at2 := at2) (be2 := be2) (nu2 := nu2) (un := un) (sm := sm) (tf := tf) (i3 := i3) C hnl hn3 hR 12 0 (by omega)
          rw [z12_0] at h0
          exact h0
        · skip
          have q2 := Int32.not_le.mp c85
          refine g_iconst (v := 1) C dX9_stairs_88 (by decide) ?_
          refine g_goto (tgt := 98) C dX9_stairs_89 (by decide) ?_
          refine g_topi (v := dgC co2) ((if_pos q2).symm) ?_
          refine g_put (ws' := [(mo, .inr (9, [.ref rw, .int (nI n3), .int (lgC co2), .int (sfC co2), .int (dgC co2), .ref mh, .ref md, .int un, .ref mk, .ref mt, .int 0, .int sm, .ref z1, .ref z2, .ref z3, .long tr, .int at2, .int be2, .int (nI n3), .ref y1, .ref y2, .ref y3, .ref y4, .int nu2, .int os, .int od, .int sl, .ref ya, .int fpu, .ref yw, .int wn, .ref yp])), aI E mt 100 tf, aI E y1 9 hi2, aI E y2 9 de2, aI E y3 9 pma2, aI E y4 3 co2, aI E rw 168 rf, aI E mh 9 hi, aI E md 9 de, aZ E mk 2 kf]) C kwX9 tyX9 tyX9_ok nmX9 0 rfl rfl 4 (by decide) kfX9_20 rfl rfl rfl (Nat.le_of_ble_eq_true rfl) rfl dX9_stairs_98 ?_
          refine g_iconst (v := 0) C dX9_stairs_101 (by decide) ?_
          refine g_istore_n (lv' := [some (.ref mo), some (.int (nI i3)), some (.int 0)]) C dX9_stairs_102 (hnl 2 (by decide)) rfl rfl ?_
          have h0 := lp1_X9_st (rf := rf) (hi := hi) (de := de) (kf := kf) (hi3 := hi2) (de3 := de2) (pm3 := pma2) (co3 := co2) (at2 := at2) (be2 := be2) (nu2 := nu2) (un := un) (sm := sm) (tf := tf) (i3 := i3) C hnl hn3 hR 12 0 (by omega)
          rw [z12_0] at h0
          exact h0
  · skip
    exact absurd c8 (nI_nm9 (by omega))
