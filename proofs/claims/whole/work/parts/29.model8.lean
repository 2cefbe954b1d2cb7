def scanD (tf : Nat → Int32) : Nat → Nat → Nat
  | 0, p => p
  | f + 1, p => if isD (tf p) then scanD tf f (p + 1) else p
theorem scanD_le (tf : Nat → Int32) : ∀ f p, p ≤ scanD tf f p ∧ scanD tf f p ≤ p + f
  | 0, p => ⟨Nat.le_refl _, Nat.le_refl _⟩
  | f + 1, p => by
    unfold scanD
    split
    · have := scanD_le tf f (p + 1); omega
    · omega
def nb (tf : Nat → Int32) (l0 A : Nat) : Nat := if A < l0 then (if isD (tf A) then scanD tf (l0 - (A + 1)) (A + 1) else A + 1) else A
theorem nb_le {tf : Nat → Int32} {l0 A : Nat} (h : A ≤ l0) : A ≤ nb tf l0 A ∧ nb tf l0 A ≤ l0 := by
  unfold nb
  split
  · split
    · have := scanD_le tf (l0 - (A + 1)) (A + 1); omega
    · omega
  · omega
theorem nb_1 {tf : Nat → Int32} {l0 A : Nat} (h : A < l0) (hd : ¬ isD (tf A)) : nb tf l0 A = A + 1 := by
  unfold nb
  rw [if_pos h, if_neg hd]
theorem nb_d {tf : Nat → Int32} {l0 A : Nat} (h : A < l0) (hd : isD (tf A)) : nb tf l0 A = A + 1 ↔ ¬ (A + 1 < l0 ∧ isD (tf (A + 1))) := by
  unfold nb
  rw [if_pos h, if_pos hd]
  by_cases q : A + 1 < l0
  · obtain ⟨f, hf⟩ : ∃ f, l0 - (A + 1) = f + 1 := ⟨l0 - (A + 1) - 1, by omega⟩
    rw [hf, scanD]
    by_cases z : isD (tf (A + 1))
    · rw [if_pos z]
      have := scanD_le tf f (A + 1 + 1)
      constructor
      · intro y; omega
      · intro y; exact absurd ⟨q, z⟩ y
    · rw [if_neg z]
      exact ⟨fun _ y => z y.2, fun _ => rfl⟩
  · have e : l0 - (A + 1) = 0 := by omega
    rw [e]
    exact ⟨fun _ y => q y.1, fun _ => rfl⟩
theorem bI_ite {P Q : Prop} [Decidable P] [Decidable Q] (h : P ↔ Q) : bI P = bI Q := by
  by_cases p : P
  · rw [bI_t p, bI_t (h.mp p)]
  · rw [bI_f p, bI_f (fun q => p (h.mpr q))]

set_option maxHeartbeats 4000000 in
set_option maxRecDepth 100000 in
theorem c_X9_isFigure (l : Launch) (E : EX) (mo : Nat) (rw : Nat) (mh : Nat) (md : Nat) (mk : Nat) (mt : Nat) (z1 : Nat) (z2 : Nat) (z3 : Nat) (y1 : Nat) (y2 : Nat) (y3 : Nat) (y4 : Nat) (ya : Nat) (yw : Nat) (yp : Nat) (st0 : Int32) (lg : Int32) (sf : Int32) (dg : Int32) (un : Int32) (sm : Int32) (tr : Int64) (at_ : Int32) (be : Int32) (rs : Int32) (nu : Int32) (os : Int32) (od : Int32) (sl : Int32) (fpu : Int32) (wn : Int32) (l0 : Nat) (tf : Nat → Int32) (i : Nat) (hl : l0 ≤ 100) (hi : i ≤ 100) : Ct l E yX9_isFigure cX9_isFigure 2 (some .boolean) (rmL 2 0 0) [.ref mo, .int (nI i)] [(mo, .inr (9, [.ref rw, .int st0, .int lg, .int sf, .int dg, .ref mh, .ref md, .int un, .ref mk, .ref mt, .int (nI l0), .int sm, .ref z1, .ref z2, .ref z3, .long tr, .int at_, .int be, .int rs, .ref y1, .ref y2, .ref y3, .ref y4, .int nu, .int os, .int od, .int sl, .ref ya, .int fpu, .ref yw, .int wn, .ref yp])), aI E mt 100 tf] (fun (rv_ : Option Value) (rw_ : va_W) => rv_ = some (.int (bI (i < l0 ∧ isD (tf i)))) ∧ rw_ = [(mo, .inr (9, [.ref rw, .int st0, .int lg, .int sf, .int dg, .ref mh, .ref md, .int un, .ref mk, .ref mt, .int (nI l0), .int sm, .ref z1, .ref z2, .ref z3, .long tr, .int at_, .int be, .int rs, .ref y1, .ref y2, .ref y3, .ref y4, .int nu, .int os, .int od, .int sl, .ref ya, .int fpu, .ref yw, .int wn, .ref yp])), aI E mt 100 tf]) 0 0 := by
  refine Ct_of (by decide) (Nat.le_of_ble_eq_true rfl) ?_
  intro k hkl hnl C hR hin_
  subst hkl
  show G k E 0 0 0 [some (.ref mo), some (.int (nI i))] [] [(mo, .inr (9, [.ref rw, .int st0, .int lg, .int sf, .int dg, .ref mh, .ref md, .int un, .ref mk, .ref mt, .int (nI l0), .int sm, .ref z1, .ref z2, .ref z3, .long tr, .int at_, .int be, .int rs, .ref y1, .ref y2, .ref y3, .ref y4, .int nu, .int os, .int od, .int sl, .ref ya, .int fpu, .ref yw, .int wn, .ref yp])), aI E mt 100 tf]
  refine g_iload_n C dX9_isFigure_0 rfl ?_
  refine g_aload_n C dX9_isFigure_1 rfl ?_
  refine g_get C kwX9 0 rfl rfl 10 (by decide) kfX9_73 rfl dX9_isFigure_2 ?_
  refine g_icmp_ge (tgt := 28) C dX9_isFigure_5 (by decide) (fun c5 => ?_) (fun c5 => ?_)
  · skip
    have hq : ¬ (i < l0 ∧ isD (tf i)) := fun z => by have := nx_ge (by omega) (by omega) c5; omega
    refine g_iconst (v := 0) C dX9_isFigure_28 (by decide) ?_
    exact g_zret C hR (by first | exact Or.inl rfl | exact Or.inr rfl | exact bI01 _) (⟨rI_f hq, rfl⟩) dX9_isFigure_29
  · skip
    have hil := nx_nge (by omega) (by omega) c5
    refine g_aload_n C dX9_isFigure_8 rfl ?_
    refine g_get C kwX9 0 rfl rfl 9 (by decide) kfX9_33 rfl dX9_isFigure_9 ?_
    refine g_iload_n C dX9_isFigure_12 rfl ?_
    refine g_iald C 1 i rfl (rfl) (by omega) (by decide) dX9_isFigure_13 ?_
    refine g_bipush (v := 48) C dX9_isFigure_14 (by decide) ?_
    refine g_bipush (v := 57) C dX9_isFigure_16 (by decide) ?_
    refine g_callS C (c_X9_in k.l E (tf i) 48 57) kmX9_69 ktX9_in knX9 kcX9_in ⟨rfl, rfl⟩ kdX9_in ⟨by decide, by decide⟩ ⟨by decide, by decide⟩ [] [0, 1] rfl (wr := [(mo, .inr (9, [.ref rw, .int st0, .int lg, .int sf, .int dg, .ref mh, .ref md, .int un, .ref mk, .ref mt, .int (nI l0), .int sm, .ref z1, .ref z2, .ref z3, .long tr, .int at_, .int be, .int rs, .ref y1, .ref y2, .ref y3, .ref y4, .int nu, .int os, .int od, .int sl, .ref ya, .int fpu, .ref yw, .int wn, .ref yp])), aI E mt 100 tf]) rfl (by decide +kernel) (by decide +kernel) (by decide +kernel) rfl (As := [.int (tf i), .int 48, .int 57]) (rest := []) rfl (Nat.le_of_ble_eq_true rfl) dX9_isFigure_18 (fun rv_ rw_ hp_ => ?_)
    obtain ⟨rfl, rfl⟩ := hp_
    refine g_rep [0, 1] (ws' := [(mo, .inr (9, [.ref rw, .int st0, .int lg, .int sf, .int dg, .ref mh, .ref md, .int un, .ref mk, .ref mt, .int (nI l0), .int sm, .ref z1, .ref z2, .ref z3, .long tr, .int at_, .int be, .int rs, .ref y1, .ref y2, .ref y3, .ref y4, .int nu, .int os, .int od, .int sl, .ref ya, .int fpu, .ref yw, .int wn, .ref yp])), aI E mt 100 tf]) (st' := [.int (bI (48 ≤ (tf i) ∧ (tf i) ≤ 57))]) (n' := 0) (z' := 0) (pc' := 21) rfl rfl rfl rfl (by decide +kernel) rfl ?_
    refine g_if_eq (tgt := 28) C dX9_isFigure_21 (by decide) (fun c21 => ?_) (fun c21 => ?_)
    · skip
      have hq : ¬ (i < l0 ∧ isD (tf i)) := fun z => bI_0 c21 z.2
      refine g_iconst (v := 0) C dX9_isFigure_28 (by decide) ?_
      exact g_zret C hR (by first | exact Or.inl rfl | exact Or.inr rfl | exact bI01 _) (⟨rI_f hq, rfl⟩) dX9_isFigure_29
    · skip
      refine g_iconst (v := 1) C dX9_isFigure_24 (by decide) ?_
      refine g_goto (tgt := 29) C dX9_isFigure_25 (by decide) ?_
      exact g_zret C hR (by first | exact Or.inl rfl | exact Or.inr rfl | exact bI01 _) (⟨rI_t ⟨hil, bI_1 c21⟩, rfl⟩) dX9_isFigure_29

set_option maxHeartbeats 4000000 in
set_option maxRecDepth 100000 in
theorem c_X9_isSign (l : Launch) (E : EX) (mo : Nat) (rw : Nat) (mh : Nat) (md : Nat) (mk : Nat) (mt : Nat) (z1 : Nat) (z2 : Nat) (z3 : Nat) (y1 : Nat) (y2 : Nat) (y3 : Nat) (y4 : Nat) (ya : Nat) (yw : Nat) (yp : Nat) (st0 : Int32) (lg : Int32) (sf : Int32) (dg : Int32) (un : Int32) (sm : Int32) (tr : Int64) (be : Int32) (rs : Int32) (nu : Int32) (os : Int32) (od : Int32) (sl : Int32) (fpu : Int32) (wn : Int32) (l0 : Nat) (tf : Nat → Int32) (a : Nat) (y : Int32) (hl : l0 ≤ 100) (ha : a ≤ l0) : Ct l E yX9_isSign cX9_isSign 2 (some .boolean) (rmL 1 0 0) [.ref mo, .int y] [(mo, .inr (9, [.ref rw, .int st0, .int lg, .int sf, .int dg, .ref mh, .ref md, .int un, .ref mk, .ref mt, .int (nI l0), .int sm, .ref z1, .ref z2, .ref z3, .long tr, .int (nI a), .int be, .int rs, .ref y1, .ref y2, .ref y3, .ref y4, .int nu, .int os, .int od, .int sl, .ref ya, .int fpu, .ref yw, .int wn, .ref yp])), aI E mt 100 tf] (fun (rv_ : Option Value) (rw_ : va_W) => rv_ = some (.int (bI (a < l0 ∧ tf a = y))) ∧ rw_ = [(mo, .inr (9, [.ref rw, .int st0, .int lg, .int sf, .int dg, .ref mh, .ref md, .int un, .ref mk, .ref mt, .int (nI l0), .int sm, .ref z1, .ref z2, .ref z3, .long tr, .int (nI a), .int be, .int rs, .ref y1, .ref y2, .ref y3, .ref y4, .int nu, .int os, .int od, .int sl, .ref ya, .int fpu, .ref yw, .int wn, .ref yp])), aI E mt 100 tf]) 0 0 := by
  refine Ct_of (by decide) (Nat.le_of_ble_eq_true rfl) ?_
  intro k hkl hnl C hR hin_
  subst hkl
  show G k E 0 0 0 [some (.ref mo), some (.int y)] [] [(mo, .inr (9, [.ref rw, .int st0, .int lg, .int sf, .int dg, .ref mh, .ref md, .int un, .ref mk, .ref mt, .int (nI l0), .int sm, .ref z1, .ref z2, .ref z3, .long tr, .int (nI a), .int be, .int rs, .ref y1, .ref y2, .ref y3, .ref y4, .int nu, .int os, .int od, .int sl, .ref ya, .int fpu, .ref yw, .int wn, .ref yp])), aI E mt 100 tf]
  refine g_aload_n C dX9_isSign_0 rfl ?_
  refine g_get C kwX9 0 rfl rfl 16 (by decide) kfX9_79 rfl dX9_isSign_1 ?_
  refine g_aload_n C dX9_isSign_4 rfl ?_
  refine g_get C kwX9 0 rfl rfl 10 (by decide) kfX9_73 rfl dX9_isSign_5 ?_
  refine g_icmp_ge (tgt := 28) C dX9_isSign_8 (by decide) (fun c8 => ?_) (fun c8 => ?_)
  · skip
    have hq : ¬ (a < l0 ∧ tf a = y) := fun z => by have := nx_ge (by omega) (by omega) c8; omega
    refine g_iconst (v := 0) C dX9_isSign_28 (by decide) ?_
    exact g_zret C hR (by first | exact Or.inl rfl | exact Or.inr rfl | exact bI01 _) (⟨rI_f hq, rfl⟩) dX9_isSign_29
  · skip
    have hil := nx_nge (by omega) (by omega) c8
    refine g_aload_n C dX9_isSign_11 rfl ?_
    refine g_get C kwX9 0 rfl rfl 9 (by decide) kfX9_33 rfl dX9_isSign_12 ?_
    refine g_aload_n C dX9_isSign_15 rfl ?_
    refine g_get C kwX9 0 rfl rfl 16 (by decide) kfX9_79 rfl dX9_isSign_16 ?_
    refine g_iald C 1 a rfl (rfl) (by omega) (by decide) dX9_isSign_19 ?_
    refine g_iload_n C dX9_isSign_20 rfl ?_
    refine g_icmp_ne (tgt := 28) C dX9_isSign_21 (by decide) (fun c21 => ?_) (fun c21 => ?_)
    · skip
      have hq : ¬ (a < l0 ∧ tf a = y) := fun z => c21 z.2
      refine g_iconst (v := 0) C dX9_isSign_28 (by decide) ?_
      exact g_zret C hR (by first | exact Or.inl rfl | exact Or.inr rfl | exact bI01 _) (⟨rI_f hq, rfl⟩) dX9_isSign_29
    · skip
      refine g_iconst (v := 1) C dX9_isSign_24 (by decide) ?_
      refine g_goto (tgt := 29) C dX9_isSign_25 (by decide) ?_
      exact g_zret C hR (by first | exact Or.inl rfl | exact Or.inr rfl | exact bI01 _) (⟨rI_t ⟨hil, c21⟩, rfl⟩) dX9_isSign_29

set_option maxHeartbeats 4000000 in
set_option maxRecDepth 100000 in
theorem lp2_X9_nt {k : KX} {E : EX} (C : Cx k E cX9_nextToken RX9 (rmL 3 0 0)) (hnl : ∀ j : Nat, j < 1 → j < k.nL) {mo : Nat} {rw : Nat} {mh : Nat} {md : Nat} {mk : Nat} {mt : Nat} {z1 : Nat} {z2 : Nat} {z3 : Nat} {y1 : Nat} {y2 : Nat} {y3 : Nat} {y4 : Nat} {ya : Nat} {yw : Nat} {yp : Nat} {st0 : Int32} {lg : Int32} {sf : Int32} {dg : Int32} {un : Int32} {sm : Int32} {tr : Int64} {rs : Int32} {nu : Int32} {os : Int32} {od : Int32} {sl : Int32} {fpu : Int32} {wn : Int32} {l0 : Nat} {tf : Nat → Int32} (hl : l0 ≤ 100) {t : Nat} (htl : t < l0) (htd : isD (tf t)) (hR : Rt k E (fun (rv_ : Option Value) (rw_ : va_W) => rv_ = none ∧ rw_ = [(mo, .inr (9, [.ref rw, .int st0, .int lg, .int sf, .int dg, .ref mh, .ref md, .int un, .ref mk, .ref mt, .int (nI l0), .int sm, .ref z1, .ref z2, .ref z3, .long tr, .int (nI t), .int (nI (nb tf l0 t)), .int rs, .ref y1, .ref y2, .ref y3, .ref y4, .int nu, .int os, .int od, .int sl, .ref ya, .int fpu, .ref yw, .int wn, .ref yp])), aI E mt 100 tf]) 0 0 none) : ∀ (f p : Nat), p + f = l0 → scanD tf f p = nb tf l0 t → G k E 0 0 74 [some (.ref mo)] [] [(mo, .inr (9, [.ref rw, .int st0, .int lg, .int sf, .int dg, .ref mh, .ref md, .int un, .ref mk, .ref mt, .int (nI l0), .int sm, .ref z1, .ref z2, .ref z3, .long tr, .int (nI t), .int (nI p), .int rs, .ref y1, .ref y2, .ref y3, .ref y4, .int nu, .int os, .int od, .int sl, .ref ya, .int fpu, .ref yw, .int wn, .ref yp])), aI E mt 100 tf] := by
  intro f
  induction f with
  | zero =>
    intro p hp hs
    have e : p = nb tf l0 t := hs
    refine g_aload_n C dX9_nextToken_74 rfl ?_
    refine g_aload_n C dX9_nextToken_75 rfl ?_
    refine g_get C kwX9 0 rfl rfl 16 (by decide) kfX9_79 rfl dX9_nextToken_76 ?_
    refine g_callV C (c_X9_isFigure k.l E mo rw mh md mk mt z1 z2 z3 y1 y2 y3 y4 ya yw yp st0 lg sf dg un sm tr (nI t) (nI p) rs nu os od sl fpu wn l0 tf t (by first | assumption | omega) (by omega)) kmX9_82 kiX9_isFigure ksX9_isFigure knX9 kcX9_isFigure ⟨rfl, rfl⟩ ⟨rfl, kdX9_isFigure⟩ ⟨by decide, by decide⟩ ⟨by decide, by decide⟩ [0, 1] [] rfl (wr := []) rfl (by decide +kernel) (by decide +kernel) (by decide +kernel) 0 9 rfl rfl rfl (As := [.int (nI t)]) (rest := []) rfl (Nat.le_of_ble_eq_true rfl) dX9_nextToken_79 (fun rv_ rw_ hp_ => ?_)
    obtain ⟨rfl, rfl⟩ := hp_
    refine g_rep [0, 1] (ws' := [(mo, .inr (9, [.ref rw, .int st0, .int lg, .int sf, .int dg, .ref mh, .ref md, .int un, .ref mk, .ref mt, .int (nI l0), .int sm, .ref z1, .ref z2, .ref z3, .long tr, .int (nI t), .int (nI p), .int rs, .ref y1, .ref y2, .ref y3, .ref y4, .int nu, .int os, .int od, .int sl, .ref ya, .int fpu, .ref yw, .int wn, .ref yp])), aI E mt 100 tf]) (st' := [.int (bI (t < l0 ∧ isD (tf t)))]) (n' := 0) (z' := 0) (pc' := 82) rfl rfl rfl rfl (by decide +kernel) rfl ?_
    refine g_if_eq (tgt := 109) C dX9_nextToken_82 (by decide) (fun c82 => ?_) (fun c82 => ?_)
    · skip
      exact absurd ⟨htl, htd⟩ (bI_0 c82)
    · skip
      refine g_aload_n C dX9_nextToken_85 rfl ?_
      refine g_aload_n C dX9_nextToken_86 rfl ?_
      refine g_get C kwX9 0 rfl rfl 17 (by decide) kfX9_76 rfl dX9_nextToken_87 ?_
      refine g_callV C (c_X9_isFigure k.l E mo rw mh md mk mt z1 z2 z3 y1 y2 y3 y4 ya yw yp st0 lg sf dg un sm tr (nI t) (nI p) rs nu os od sl fpu wn l0 tf p (by first | assumption | omega) (by omega)) kmX9_82 kiX9_isFigure ksX9_isFigure knX9 kcX9_isFigure ⟨rfl, rfl⟩ ⟨rfl, kdX9_isFigure⟩ ⟨by decide, by decide⟩ ⟨by decide, by decide⟩ [0, 1] [] rfl (wr := []) rfl (by decide +kernel) (by decide +kernel) (by decide +kernel) 0 9 rfl rfl rfl (As := [.int (nI p)]) (rest := []) rfl (Nat.le_of_ble_eq_true rfl) dX9_nextToken_90 (fun rv_ rw_ hp_ => ?_)
      obtain ⟨rfl, rfl⟩ := hp_
      refine g_rep [0, 1] (ws' := [(mo, .inr (9, [.ref rw, .int st0, .int lg, .int sf, .int dg, .ref mh, .ref md, .int un, .ref mk, .ref mt, .int (nI l0), .int sm, .ref z1, .ref z2, .ref z3, .long tr, .int (nI t), .int (nI p), .int rs, .ref y1, .ref y2, .ref y3, .ref y4, .int nu, .int os, .int od, .int sl, .ref ya, .int fpu, .ref yw, .int wn, .ref yp])), aI E mt 100 tf]) (st' := [.int (bI (p < l0 ∧ isD (tf p)))]) (n' := 0) (z' := 0) (pc' := 93) rfl rfl rfl rfl (by decide +kernel) rfl ?_
      refine g_if_eq (tgt := 109) C dX9_nextToken_93 (by decide) (fun c93 => ?_) (fun c93 => ?_)
      · skip
        exact g_vret C hR (⟨rfl, by rw [e]⟩) dX9_nextToken_109
      · skip
        exact absurd (bI_1 c93).1 (by omega)
  | succ f ih =>
    intro p hp hs
    unfold scanD at hs
    refine g_aload_n C dX9_nextToken_74 rfl ?_
    refine g_aload_n C dX9_nextToken_75 rfl ?_
    refine g_get C kwX9 0 rfl rfl 16 (by decide) kfX9_79 rfl dX9_nextToken_76 ?_
    refine g_callV C (c_X9_isFigure k.l E mo rw mh md mk mt z1 z2 z3 y1 y2 y3 y4 ya yw yp st0 lg sf dg un sm tr (nI t) (nI p) rs nu os od sl fpu wn l0 tf t (by first | assumption | omega) (by omega)) kmX9_82 kiX9_isFigure ksX9_isFigure knX9 kcX9_isFigure ⟨rfl, rfl⟩ ⟨rfl, kdX9_isFigure⟩ ⟨by decide, by decide⟩ ⟨by decide, by decide⟩ [0, 1] [] rfl (wr := []) rfl (by decide +kernel) (by decide +kernel) (by decide +kernel) 0 9 rfl rfl rfl (As := [.int (nI t)]) (rest := []) rfl (Nat.le_of_ble_eq_true rfl) dX9_nextToken_79 (fun rv_ rw_ hp_ => ?_)
    obtain ⟨rfl, rfl⟩ := hp_
    refine g_rep [0, 1] (ws' := [(mo, .inr (9, [.ref rw, .int st0, .int lg, .int sf, .int dg, .ref mh, .ref md, .int un, .ref mk, .ref mt, .int (nI l0), .int sm, .ref z1, .ref z2, .ref z3, .long tr, .int (nI t), .int (nI p), .int rs, .ref y1, .ref y2, .ref y3, .ref y4, .int nu, .int os, .int od, .int sl, .ref ya, .int fpu, .ref yw, .int wn, .ref yp])), aI E mt 100 tf]) (st' := [.int (bI (t < l0 ∧ isD (tf t)))]) (n' := 0) (z' := 0) (pc' := 82) rfl rfl rfl rfl (by decide +kernel) rfl ?_
    refine g_if_eq (tgt := 109) C dX9_nextToken_82 (by decide) (fun c82 => ?_) (fun c82 => ?_)
    · skip
      exact absurd ⟨htl, htd⟩ (bI_0 c82)
    · skip
      refine g_aload_n C dX9_nextToken_85 rfl ?_
      refine g_aload_n C dX9_nextToken_86 rfl ?_
      refine g_get C kwX9 0 rfl rfl 17 (by decide) kfX9_76 rfl dX9_nextToken_87 ?_
      refine g_callV C (c_X9_isFigure k.l E mo rw mh md mk mt z1 z2 z3 y1 y2 y3 y4 ya yw yp st0 lg sf dg un sm tr (nI t) (nI p) rs nu os od sl fpu wn l0 tf p (by first | assumption | omega) (by omega)) kmX9_82 kiX9_isFigure ksX9_isFigure knX9 kcX9_isFigure ⟨rfl, rfl⟩ ⟨rfl, kdX9_isFigure⟩ ⟨by decide, by decide⟩ ⟨by decide, by decide⟩ [0, 1] [] rfl (wr := []) rfl (by decide +kernel) (by decide +kernel) (by decide +kernel) 0 9 rfl rfl rfl (As := [.int (nI p)]) (rest := []) rfl (Nat.le_of_ble_eq_true rfl) dX9_nextToken_90 (fun rv_ rw_ hp_ => ?_)
      obtain ⟨rfl, rfl⟩ := hp_
      refine g_rep [0, 1] (ws' := [(mo, .inr (9, [.ref rw, .int st0, .int lg, .int sf, .int dg, .ref mh, .ref md, .int un, .ref mk, .ref mt, .int (nI l0), .int sm, .ref z1, .ref z2, .ref z3, .long tr, .int (nI t), .int (nI p), .int rs, .ref y1, .ref y2, .ref y3, .ref y4, .int nu, .int os, .int od, .int sl, .ref ya, .int fpu, .ref yw, .int wn, .ref yp])), aI E mt 100 tf]) (st' := [.int (bI (p < l0 ∧ isD (tf p)))]) (n' := 0) (z' := 0) (pc' := 93) rfl rfl rfl rfl (by decide +kernel) rfl ?_
      refine g_if_eq (tgt := 109) C dX9_nextToken_93 (by decide) (fun c93 => ?_) (fun c93 => ?_)
      · skip
        rw [if_neg (fun q => bI_0 c93 ⟨by omega, q⟩)] at hs
        exact g_vret C hR (⟨rfl, by rw [hs]⟩) dX9_nextToken_109
      · skip
        rw [if_pos (bI_1 c93).2] at hs
        refine g_aload_n C dX9_nextToken_96 rfl ?_
        refine g_dup C dX9_nextToken_97 rfl ?_
        refine g_get C kwX9 0 rfl rfl 17 (by decide) kfX9_76 rfl dX9_nextToken_98 ?_
        refine g_iconst (v := 1) C dX9_nextToken_101 (by decide) ?_
        refine g_iadd C dX9_nextToken_102 ?_
        refine g_topi (v := nI (p + 1)) (nI_1 p) ?_
        refine g_put (ws' := [(mo, .inr (9, [.ref rw, .int st0, .int lg, .int sf, .int dg, .ref mh, .ref md, .int un, .ref mk, .ref mt, .int (nI l0), .int sm, .ref z1, .ref z2, .ref z3, .long tr, .int (nI t), .int (nI (p + 1)), .int rs, .ref y1, .ref y2, .ref y3, .ref y4, .int nu, .int os, .int od, .int sl, .ref ya, .int fpu, .ref yw, .int wn, .ref yp])), aI E mt 100 tf]) C kwX9 tyX9 tyX9_ok nmX9 0 rfl rfl 17 (by decide) kfX9_76 rfl rfl rfl (Nat.le_of_ble_eq_true rfl) rfl dX9_nextToken_103 ?_
        refine g_goto (tgt := 74) C dX9_nextToken_106 (by decide) ?_
        exact ih (p + 1) (by omega) hs

set_option maxHeartbeats 4000000 in
set_option maxRecDepth 100000 in
theorem lp1_X9_nt {k : KX} {E : EX} (C : Cx k E cX9_nextToken RX9 (rmL 3 0 0)) (hnl : ∀ j : Nat, j < 1 → j < k.nL) {mo : Nat} {rw : Nat} {mh : Nat} {md : Nat} {mk : Nat} {mt : Nat} {z1 : Nat} {z2 : Nat} {z3 : Nat} {y1 : Nat} {y2 : Nat} {y3 : Nat} {y4 : Nat} {ya : Nat} {yw : Nat} {yp : Nat} {st0 : Int32} {lg : Int32} {sf : Int32} {dg : Int32} {un : Int32} {sm : Int32} {tr : Int64} {rs : Int32} {nu : Int32} {os : Int32} {od : Int32} {sl : Int32} {fpu : Int32} {wn : Int32} {l0 : Nat} {tf : Nat → Int32} (hl : l0 ≤ 100) {t : Nat} {be : Int32} (hR : Rt k E (fun (rv_ : Option Value) (rw_ : va_W) => rv_ = none ∧ rw_ = [(mo, .inr (9, [.ref rw, .int st0, .int lg, .int sf, .int dg, .ref mh, .ref md, .int un, .ref mk, .ref mt, .int (nI l0), .int sm, .ref z1, .ref z2, .ref z3, .long tr, .int (nI t), .int (nI (nb tf l0 t)), .int rs, .ref y1, .ref y2, .ref y3, .ref y4, .int nu, .int os, .int od, .int sl, .ref ya, .int fpu, .ref yw, .int wn, .ref yp])), aI E mt 100 tf]) 0 0 none) : ∀ (f a : Nat), a + f = l0 → skp tf f a = t → G k E 0 0 8 [some (.ref mo)] [] [(mo, .inr (9, [.ref rw, .int st0, .int lg, .int sf, .int dg, .ref mh, .ref md, .int un, .ref mk, .ref mt, .int (nI l0), .int sm, .ref z1, .ref z2, .ref z3, .long tr, .int (nI a), .int be, .int rs, .ref y1, .ref y2, .ref y3, .ref y4, .int nu, .int os, .int od, .int sl, .ref ya, .int fpu, .ref yw, .int wn, .ref yp])), aI E mt 100 tf] := by
  intro f
  induction f with
  | zero =>
    intro a hf ht
    have e : a = t := ht
    subst e
    refine g_aload_n C dX9_nextToken_8 rfl ?_
    refine g_get C kwX9 0 rfl rfl 16 (by decide) kfX9_79 rfl dX9_nextToken_9 ?_
    refine g_aload_n C dX9_nextToken_12 rfl ?_
    refine g_get C kwX9 0 rfl rfl 10 (by decide) kfX9_73 rfl dX9_nextToken_13 ?_
    refine g_icmp_ge (tgt := 46) C dX9_nextToken_16 (by decide) (fun c16 => ?_) (fun c16 => ?_)
    · skip
      refine g_aload_n C dX9_nextToken_46 rfl ?_
      refine g_aload_n C dX9_nextToken_47 rfl ?_
      refine g_get C kwX9 0 rfl rfl 16 (by decide) kfX9_79 rfl dX9_nextToken_48 ?_
      refine g_aload_n C dX9_nextToken_51 rfl ?_
      refine g_get C kwX9 0 rfl rfl 10 (by decide) kfX9_73 rfl dX9_nextToken_52 ?_
      refine g_icmp_ge (tgt := 67) C dX9_nextToken_55 (by decide) (fun c55 => ?_) (fun c55 => ?_)
      · skip
        have htl : ¬ a < l0 := by omega
        refine g_aload_n C dX9_nextToken_67 rfl ?_
        refine g_get C kwX9 0 rfl rfl 16 (by decide) kfX9_79 rfl dX9_nextToken_68 ?_
        refine g_put (ws' := [(mo, .inr (9, [.ref rw, .int st0, .int lg, .int sf, .int dg, .ref mh, .ref md, .int un, .ref mk, .ref mt, .int (nI l0), .int sm, .ref z1, .ref z2, .ref z3, .long tr, .int (nI a), .int (nI a), .int rs, .ref y1, .ref y2, .ref y3, .ref y4, .int nu, .int os, .int od, .int sl, .ref ya, .int fpu, .ref yw, .int wn, .ref yp])), aI E mt 100 tf]) C kwX9 tyX9 tyX9_ok nmX9 0 rfl rfl 17 (by decide) kfX9_76 rfl rfl rfl (Nat.le_of_ble_eq_true rfl) rfl dX9_nextToken_71 ?_
        refine g_aload_n C dX9_nextToken_74 rfl ?_
        refine g_aload_n C dX9_nextToken_75 rfl ?_
        refine g_get C kwX9 0 rfl rfl 16 (by decide) kfX9_79 rfl dX9_nextToken_76 ?_
        refine g_callV C (c_X9_isFigure k.l E mo rw mh md mk mt z1 z2 z3 y1 y2 y3 y4 ya yw yp st0 lg sf dg un sm tr (nI a) (nI a) rs nu os od sl fpu wn l0 tf a (by first | assumption | omega) (by omega)) kmX9_82 kiX9_isFigure ksX9_isFigure knX9 kcX9_isFigure ⟨rfl, rfl⟩ ⟨rfl, kdX9_isFigure⟩ ⟨by decide, by decide⟩ ⟨by decide, by decide⟩ [0, 1] [] rfl (wr := []) rfl (by decide +kernel) (by decide +kernel) (by decide +kernel) 0 9 rfl rfl rfl (As := [.int (nI a)]) (rest := []) rfl (Nat.le_of_ble_eq_true rfl) dX9_nextToken_79 (fun rv_ rw_ hp_ => ?_)
        obtain ⟨rfl, rfl⟩ := hp_
        refine g_rep [0, 1] (ws' := [(mo, .inr (9, [.ref rw, .int st0, .int lg, .int sf, .int dg, .ref mh, .ref md, .int un, .ref mk, .ref mt, .int (nI l0), .int sm, .ref z1, .ref z2, .ref z3, .long tr, .int (nI a), .int (nI a), .int rs, .ref y1, .ref y2, .ref y3, .ref y4, .int nu, .int os, .int od, .int sl, .ref ya, .int fpu, .ref yw, .int wn, .ref yp])), aI E mt 100 tf]) (st' := [.int (bI (a < l0 ∧ isD (tf a)))]) (n' := 0) (z' := 0) (pc' := 82) rfl rfl rfl rfl (by decide +kernel) rfl ?_
        refine g_if_eq (tgt := 109) C dX9_nextToken_82 (by decide) (fun c82 => ?_) (fun c82 => ?_)
        · skip
          exact g_vret C hR (⟨rfl, by unfold nb; rw [if_neg htl]⟩) dX9_nextToken_109
        · skip
          exact absurd (bI_1 c82).1 htl
      · skip
        exact absurd ((nI_leI (by omega) (by omega)).mpr (by omega)) c55
    · skip
      exact absurd ((nI_leI (by omega) (by omega)).mpr (by omega)) c16
  | succ f ih =>
    intro a hf ht
    unfold skp at ht
    refine g_aload_n C dX9_nextToken_8 rfl ?_
    refine g_get C kwX9 0 rfl rfl 16 (by decide) kfX9_79 rfl dX9_nextToken_9 ?_
    refine g_aload_n C dX9_nextToken_12 rfl ?_
    refine g_get C kwX9 0 rfl rfl 10 (by decide) kfX9_73 rfl dX9_nextToken_13 ?_
    refine g_icmp_ge (tgt := 46) C dX9_nextToken_16 (by decide) (fun c16 => ?_) (fun c16 => ?_)
    · skip
      exact absurd (nx_ge (by omega) (by omega) c16) (by omega)
    · skip
      refine g_aload_n C dX9_nextToken_19 rfl ?_
      refine g_get C kwX9 0 rfl rfl 9 (by decide) kfX9_33 rfl dX9_nextToken_20 ?_
      refine g_aload_n C dX9_nextToken_23 rfl ?_
      refine g_get C kwX9 0 rfl rfl 16 (by decide) kfX9_79 rfl dX9_nextToken_24 ?_
      refine g_iald C 1 a rfl (rfl) (by omega) (by decide) dX9_nextToken_27 ?_
      refine g_bipush (v := 32) C dX9_nextToken_28 (by decide) ?_
      refine g_icmp_ne (tgt := 46) C dX9_nextToken_30 (by decide) (fun c30 => ?_) (fun c30 => ?_)
      · skip
        rw [if_neg c30] at ht
        subst ht
        refine g_aload_n C dX9_nextToken_46 rfl ?_
        refine g_aload_n C dX9_nextToken_47 rfl ?_
        refine g_get C kwX9 0 rfl rfl 16 (by decide) kfX9_79 rfl dX9_nextToken_48 ?_
        refine g_aload_n C dX9_nextToken_51 rfl ?_
        refine g_get C kwX9 0 rfl rfl 10 (by decide) kfX9_73 rfl dX9_nextToken_52 ?_
        refine g_icmp_ge (tgt := 67) C dX9_nextToken_55 (by decide) (fun c55 => ?_) (fun c55 => ?_)
        · skip
          exact absurd (nx_ge (by omega) (by omega) c55) (by omega)
        · skip
          have htl : a < l0 := by omega
          refine g_aload_n C dX9_nextToken_58 rfl ?_
          refine g_get C kwX9 0 rfl rfl 16 (by decide) kfX9_79 rfl dX9_nextToken_59 ?_
          refine g_iconst (v := 1) C dX9_nextToken_62 (by decide) ?_
          refine g_iadd C dX9_nextToken_63 ?_
          refine g_topi (v := nI (a + 1)) (nI_1 a) ?_
          refine g_goto (tgt := 71) C dX9_nextToken_64 (by decide) ?_
          refine g_put (ws' := [(mo, .inr (9, [.ref rw, .int st0, .int lg, .int sf, .int dg, .ref mh, .ref md, .int un, .ref mk, .ref mt, .int (nI l0), .int sm, .ref z1, .ref z2, .ref z3, .long tr, .int (nI a), .int (nI (a + 1)), .int rs, .ref y1, .ref y2, .ref y3, .ref y4, .int nu, .int os, .int od, .int sl, .ref ya, .int fpu, .ref yw, .int wn, .ref yp])), aI E mt 100 tf]) C kwX9 tyX9 tyX9_ok nmX9 0 rfl rfl 17 (by decide) kfX9_76 rfl rfl rfl (Nat.le_of_ble_eq_true rfl) rfl dX9_nextToken_71 ?_
          by_cases hd : isD (tf a)
          · exact lp2_X9_nt C hnl hl htl hd hR (l0 - (a + 1)) (a + 1) (by omega) (by unfold nb; rw [if_pos htl, if_pos hd])
          refine g_aload_n C dX9_nextToken_74 rfl ?_
          refine g_aload_n C dX9_nextToken_75 rfl ?_
          refine g_get C kwX9 0 rfl rfl 16 (by decide) kfX9_79 rfl dX9_nextToken_76 ?_
          refine g_callV C (c_X9_isFigure k.l E mo rw mh md mk mt z1 z2 z3 y1 y2 y3 y4 ya yw yp st0 lg sf dg un sm tr (nI a) (nI (a + 1)) rs nu os od sl fpu wn l0 tf a (by first | assumption | omega) (by omega)) kmX9_82 kiX9_isFigure ksX9_isFigure knX9 kcX9_isFigure ⟨rfl, rfl⟩ ⟨rfl, kdX9_isFigure⟩ ⟨by decide, by decide⟩ ⟨by decide, by decide⟩ [0, 1] [] rfl (wr := []) rfl (by decide +kernel) (by decide +kernel) (by decide +kernel) 0 9 rfl rfl rfl (As := [.int (nI a)]) (rest := []) rfl (Nat.le_of_ble_eq_true rfl) dX9_nextToken_79 (fun rv_ rw_ hp_ => ?_)
          obtain ⟨rfl, rfl⟩ := hp_
          refine g_rep [0, 1] (ws' := [(mo, .inr (9, [.ref rw, .int st0, .int lg, .int sf, .int dg, .ref mh, .ref md, .int un, .ref mk, .ref mt, .int (nI l0), .int sm, .ref z1, .ref z2, .ref z3, .long tr, .int (nI a), .int (nI (a + 1)), .int rs, .ref y1, .ref y2, .ref y3, .ref y4, .int nu, .int os, .int od, .int sl, .ref ya, .int fpu, .ref yw, .int wn, .ref yp])), aI E mt 100 tf]) (st' := [.int (bI (a < l0 ∧ isD (tf a)))]) (n' := 0) (z' := 0) (pc' := 82) rfl rfl rfl rfl (by decide +kernel) rfl ?_
          refine g_if_eq (tgt := 109) C dX9_nextToken_82 (by decide) (fun c82 => ?_) (fun c82 => ?_)
          · skip
            exact g_vret C hR (⟨rfl, by rw [nb_1 htl hd]⟩) dX9_nextToken_109
          · skip
            exact absurd (bI_1 c82).2 hd
      · skip
        rw [if_pos c30] at ht
        refine g_aload_n C dX9_nextToken_33 rfl ?_
        refine g_dup C dX9_nextToken_34 rfl ?_
        refine g_get C kwX9 0 rfl rfl 16 (by decide) kfX9_79 rfl dX9_nextToken_35 ?_
        refine g_iconst (v := 1) C dX9_nextToken_38 (by decide) ?_
        refine g_iadd C dX9_nextToken_39 ?_
        refine g_topi (v := nI (a + 1)) (nI_1 a) ?_
        refine g_put (ws' := [(mo, .inr (9, [.ref rw, .int st0, .int lg, .int sf, .int dg, .ref mh, .ref md, .int un, .ref mk, .ref mt, .int (nI l0), .int sm, .ref z1, .ref z2, .ref z3, .long tr, .int (nI (a + 1)), .int be, .int rs, .ref y1, .ref y2, .ref y3, .ref y4, .int nu, .int os, .int od, .int sl, .ref ya, .int fpu, .ref yw, .int wn, .ref yp])), aI E mt 100 tf]) C kwX9 tyX9 tyX9_ok nmX9 0 rfl rfl 16 (by decide) kfX9_79 rfl rfl rfl (Nat.le_of_ble_eq_true rfl) rfl dX9_nextToken_40 ?_
        refine g_goto (tgt := 8) C dX9_nextToken_43 (by decide) ?_
        exact ih (a + 1) (by omega) ht

set_option maxHeartbeats 4000000 in
set_option maxRecDepth 100000 in
theorem c_X9_nextToken (l : Launch) (E : EX) (mo : Nat) (rw : Nat) (mh : Nat) (md : Nat) (mk : Nat) (mt : Nat) (z1 : Nat) (z2 : Nat) (z3 : Nat) (y1 : Nat) (y2 : Nat) (y3 : Nat) (y4 : Nat) (ya : Nat) (yw : Nat) (yp : Nat) (st0 : Int32) (lg : Int32) (sf : Int32) (dg : Int32) (un : Int32) (sm : Int32) (tr : Int64) (at_ : Int32) (rs : Int32) (nu : Int32) (os : Int32) (od : Int32) (sl : Int32) (fpu : Int32) (wn : Int32) (l0 : Nat) (tf : Nat → Int32) (b : Nat) (hl : l0 ≤ 100) (hb : b ≤ l0) : Ct l E yX9_nextToken cX9_nextToken 1 none (rmL 3 0 0) [.ref mo] [(mo, .inr (9, [.ref rw, .int st0, .int lg, .int sf, .int dg, .ref mh, .ref md, .int un, .ref mk, .ref mt, .int (nI l0), .int sm, .ref z1, .ref z2, .ref z3, .long tr, .int at_, .int (nI b), .int rs, .ref y1, .ref y2, .ref y3, .ref y4, .int nu, .int os, .int od, .int sl, .ref ya, .int fpu, .ref yw, .int wn, .ref yp])), aI E mt 100 tf] (fun (rv_ : Option Value) (rw_ : va_W) => rv_ = none ∧ rw_ = [(mo, .inr (9, [.ref rw, .int st0, .int lg, .int sf, .int dg, .ref mh, .ref md, .int un, .ref mk, .ref mt, .int (nI l0), .int sm, .ref z1, .ref z2, .ref z3, .long tr, .int (nI (tk tf l0 b)), .int (nI (nb tf l0 (tk tf l0 b))), .int rs, .ref y1, .ref y2, .ref y3, .ref y4, .int nu, .int os, .int od, .int sl, .ref ya, .int fpu, .ref yw, .int wn, .ref yp])), aI E mt 100 tf]) 0 0 := by
  refine Ct_of (by decide) (Nat.le_of_ble_eq_true rfl) ?_
  intro k hkl hnl C hR hin_
  subst hkl
  show G k E 0 0 0 [some (.ref mo)] [] [(mo, .inr (9, [.ref rw, .int st0, .int lg, .int sf, .int dg, .ref mh, .ref md, .int un, .ref mk, .ref mt, .int (nI l0), .int sm, .ref z1, .ref z2, .ref z3, .long tr, .int at_, .int (nI b), .int rs, .ref y1, .ref y2, .ref y3, .ref y4, .int nu, .int os, .int od, .int sl, .ref ya, .int fpu, .ref yw, .int wn, .ref yp])), aI E mt 100 tf]
  refine g_aload_n C dX9_nextToken_0 rfl ?_
  refine g_aload_n C dX9_nextToken_1 rfl ?_
  refine g_get C kwX9 0 rfl rfl 17 (by decide) kfX9_76 rfl dX9_nextToken_2 ?_
  refine g_put (ws' := [(mo, .inr (9, [.ref rw, .int st0, .int lg, .int sf, .int dg, .ref mh, .ref md, .int un, .ref mk, .ref mt, .int (nI l0), .int sm, .ref z1, .ref z2, .ref z3, .long tr, .int (nI b), .int (nI b), .int rs, .ref y1, .ref y2, .ref y3, .ref y4, .int nu, .int os, .int od, .int sl, .ref ya, .int fpu, .ref yw, .int wn, .ref yp])), aI E mt 100 tf]) C kwX9 tyX9 tyX9_ok nmX9 0 rfl rfl 16 (by decide) kfX9_79 rfl rfl rfl (Nat.le_of_ble_eq_true rfl) rfl dX9_nextToken_5 ?_
  exact lp1_X9_nt C hnl hl hR (l0 - b) b (by omega) rfl

set_option maxHeartbeats 4000000 in
set_option maxRecDepth 100000 in
theorem c_X9_readsNumber (l : Launch) (E : EX) (mo : Nat) (rw : Nat) (mh : Nat) (md : Nat) (mk : Nat) (mt : Nat) (z1 : Nat) (z2 : Nat) (z3 : Nat) (y1 : Nat) (y2 : Nat) (y3 : Nat) (y4 : Nat) (ya : Nat) (yw : Nat) (yp : Nat) (st0 : Int32) (lg : Int32) (sf : Int32) (dg : Int32) (un : Int32) (sm : Int32) (tr : Int64) (at_ : Int32) (rs : Int32) (nu : Int32) (os : Int32) (od : Int32) (sl : Int32) (fpu : Int32) (wn : Int32) (l0 : Nat) (tf : Nat → Int32) (b : Nat) (lo : Int32) (hh : Int32) (hl : l0 ≤ 100) (hb : b ≤ l0) (hlo : 0 ≤ lo) : Ct l E yX9_readsNumber cX9_readsNumber 3 (some .boolean) (rmL 4 0 0) [.ref mo, .int lo, .int hh] [(mo, .inr (9, [.ref rw, .int st0, .int lg, .int sf, .int dg, .ref mh, .ref md, .int un, .ref mk, .ref mt, .int (nI l0), .int sm, .ref z1, .ref z2, .ref z3, .long tr, .int at_, .int (nI b), .int rs, .ref y1, .ref y2, .ref y3, .ref y4, .int nu, .int os, .int od, .int sl, .ref ya, .int fpu, .ref yw, .int wn, .ref yp])), aI E mt 100 tf] (fun (rv_ : Option Value) (rw_ : va_W) => ∃ (nu2 : Int32), rv_ = some (.int (bI (numOK tf l0 (tk tf l0 b) lo hh))) ∧ rw_ = [(mo, .inr (9, [.ref rw, .int st0, .int lg, .int sf, .int dg, .ref mh, .ref md, .int un, .ref mk, .ref mt, .int (nI l0), .int sm, .ref z1, .ref z2, .ref z3, .long tr, .int (nI (tk tf l0 b)), .int (nI (nb tf l0 (tk tf l0 b))), .int rs, .ref y1, .ref y2, .ref y3, .ref y4, .int nu2, .int os, .int od, .int sl, .ref ya, .int fpu, .ref yw, .int wn, .ref yp])), aI E mt 100 tf] ∧ (numOK tf l0 (tk tf l0 b) lo hh → nu2 = tf (tk tf l0 b) - 48 ∧ nb tf l0 (tk tf l0 b) = tk tf l0 b + 1)) 0 0 := by
  refine Ct_of (by decide) (Nat.le_of_ble_eq_true rfl) ?_
  intro k hkl hnl C hR hin_
  subst hkl
  show G k E 0 0 0 [some (.ref mo), some (.int lo), some (.int hh)] [] [(mo, .inr (9, [.ref rw, .int st0, .int lg, .int sf, .int dg, .ref mh, .ref md, .int un, .ref mk, .ref mt, .int (nI l0), .int sm, .ref z1, .ref z2, .ref z3, .long tr, .int at_, .int (nI b), .int rs, .ref y1, .ref y2, .ref y3, .ref y4, .int nu, .int os, .int od, .int sl, .ref ya, .int fpu, .ref yw, .int wn, .ref yp])), aI E mt 100 tf]
  refine g_aload_n C dX9_readsNumber_0 rfl ?_
  refine g_callV C (c_X9_nextToken k.l E mo rw mh md mk mt z1 z2 z3 y1 y2 y3 y4 ya yw yp st0 lg sf dg un sm tr at_ rs nu os od sl fpu wn l0 tf b (by first | assumption | omega) (by first | assumption | omega)) kmX9_86 kiX9_nextToken ksX9_nextToken knX9 kcX9_nextToken ⟨rfl, rfl⟩ ⟨rfl, kdX9_nextToken⟩ ⟨by decide, by decide⟩ ⟨by decide, by decide⟩ [0, 1] [] rfl (wr := []) rfl (by decide +kernel) (by decide +kernel) (by decide +kernel) 0 9 rfl rfl rfl (As := []) (rest := []) rfl (Nat.le_of_ble_eq_true rfl) dX9_readsNumber_1 (fun rv_ rw_ hp_ => ?_)
  obtain ⟨rfl, rfl⟩ := hp_
  refine g_rep [0, 1] (ws' := [(mo, .inr (9, [.ref rw, .int st0, .int lg, .int sf, .int dg, .ref mh, .ref md, .int un, .ref mk, .ref mt, .int (nI l0), .int sm, .ref z1, .ref z2, .ref z3, .long tr, .int (nI (tk tf l0 b)), .int (nI (nb tf l0 (tk tf l0 b))), .int rs, .ref y1, .ref y2, .ref y3, .ref y4, .int nu, .int os, .int od, .int sl, .ref ya, .int fpu, .ref yw, .int wn, .ref yp])), aI E mt 100 tf]) (st' := []) (n' := 0) (z' := 0) (pc' := 4) rfl rfl rfl rfl (by decide +kernel) rfl ?_
  have htk := tk_le (tf := tf) hb
  have hnb := nb_le (tf := tf) htk.2
  refine g_aload_n C dX9_readsNumber_4 rfl ?_
  refine g_aload_n C dX9_readsNumber_5 rfl ?_
  refine g_aload_n C dX9_readsNumber_6 rfl ?_
  refine g_get C kwX9 0 rfl rfl 16 (by decide) kfX9_79 rfl dX9_readsNumber_7 ?_
  refine g_callV C (c_X9_isFigure k.l E mo rw mh md mk mt z1 z2 z3 y1 y2 y3 y4 ya yw yp st0 lg sf dg un sm tr (nI (tk tf l0 b)) (nI (nb tf l0 (tk tf l0 b))) rs nu os od sl fpu wn l0 tf (tk tf l0 b) (by first | assumption | omega) (by omega)) kmX9_82 kiX9_isFigure ksX9_isFigure knX9 kcX9_isFigure ⟨rfl, rfl⟩ ⟨rfl, kdX9_isFigure⟩ ⟨by decide, by decide⟩ ⟨by decide, by decide⟩ [0, 1] [] rfl (wr := []) rfl (by decide +kernel) (by decide +kernel) (by decide +kernel) 0 9 rfl rfl rfl (As := [.int (nI (tk tf l0 b))]) (rest := [.ref mo]) rfl (Nat.le_of_ble_eq_true rfl) dX9_readsNumber_10 (fun rv_ rw_ hp_ => ?_)
  obtain ⟨rfl, rfl⟩ := hp_
  refine g_rep [0, 1] (ws' := [(mo, .inr (9, [.ref rw, .int st0, .int lg, .int sf, .int dg, .ref mh, .ref md, .int un, .ref mk, .ref mt, .int (nI l0), .int sm, .ref z1, .ref z2, .ref z3, .long tr, .int (nI (tk tf l0 b)), .int (nI (nb tf l0 (tk tf l0 b))), .int rs, .ref y1, .ref y2, .ref y3, .ref y4, .int nu, .int os, .int od, .int sl, .ref ya, .int fpu, .ref yw, .int wn, .ref yp])), aI E mt 100 tf]) (st' := [.int (bI ((tk tf l0 b) < l0 ∧ isD (tf (tk tf l0 b)))), .ref mo]) (n' := 0) (z' := 0) (pc' := 13) rfl rfl rfl rfl (by decide +kernel) rfl ?_
  refine g_if_eq (tgt := 44) C dX9_readsNumber_13 (by decide) (fun c13 => ?_) (fun c13 => ?_)
  · skip
    have hno : ¬ (numOK tf l0 (tk tf l0 b) lo hh) := fun z => bI_0 c13 ⟨z.1, z.2.1⟩
    refine g_iconst (v := (-1)) C dX9_readsNumber_44 (by decide) ?_
    refine g_put (ws' := [(mo, .inr (9, [.ref rw, .int st0, .int lg, .int sf, .int dg, .ref mh, .ref md, .int un, .ref mk, .ref mt, .int (nI l0), .int sm, .ref z1, .ref z2, .ref z3, .long tr, .int (nI (tk tf l0 b)), .int (nI (nb tf l0 (tk tf l0 b))), .int rs, .ref y1, .ref y2, .ref y3, .ref y4, .int (-1), .int os, .int od, .int sl, .ref ya, .int fpu, .ref yw, .int wn, .ref yp])), aI E mt 100 tf]) C kwX9 tyX9 tyX9_ok nmX9 0 rfl rfl 23 (by decide) kfX9_89 rfl rfl rfl (Nat.le_of_ble_eq_true rfl) rfl dX9_readsNumber_45 ?_
    refine g_aload_n C dX9_readsNumber_48 rfl ?_
    refine g_get C kwX9 0 rfl rfl 23 (by decide) kfX9_89 rfl dX9_readsNumber_49 ?_
    refine g_iload_n C dX9_readsNumber_52 rfl ?_
    refine g_iload_n C dX9_readsNumber_53 rfl ?_
    refine g_callS C (c_X9_in k.l E (-1) lo hh) kmX9_69 ktX9_in knX9 kcX9_in ⟨rfl, rfl⟩ kdX9_in ⟨by decide, by decide⟩ ⟨by decide, by decide⟩ [] [0, 1] rfl (wr := [(mo, .inr (9, [.ref rw, .int st0, .int lg, .int sf, .int dg, .ref mh, .ref md, .int un, .ref mk, .ref mt, .int (nI l0), .int sm, .ref z1, .ref z2, .ref z3, .long tr, .int (nI (tk tf l0 b)), .int (nI (nb tf l0 (tk tf l0 b))), .int rs, .ref y1, .ref y2, .ref y3, .ref y4, .int (-1), .int os, .int od, .int sl, .ref ya, .int fpu, .ref yw, .int wn, .ref yp])), aI E mt 100 tf]) rfl (by decide +kernel) (by decide +kernel) (by decide +kernel) rfl (As := [.int (-1), .int lo, .int hh]) (rest := []) rfl (Nat.le_of_ble_eq_true rfl) dX9_readsNumber_54 (fun rv_ rw_ hp_ => ?_)
    obtain ⟨rfl, rfl⟩ := hp_
    refine g_rep [0, 1] (ws' := [(mo, .inr (9, [.ref rw, .int st0, .int lg, .int sf, .int dg, .ref mh, .ref md, .int un, .ref mk, .ref mt, .int (nI l0), .int sm, .ref z1, .ref z2, .ref z3, .long tr, .int (nI (tk tf l0 b)), .int (nI (nb tf l0 (tk tf l0 b))), .int rs, .ref y1, .ref y2, .ref y3, .ref y4, .int (-1), .int os, .int od, .int sl, .ref ya, .int fpu, .ref yw, .int wn, .ref yp])), aI E mt 100 tf]) (st' := [.int (bI (lo ≤ (-1) ∧ (-1) ≤ hh))]) (n' := 0) (z' := 0) (pc' := 57) rfl rfl rfl rfl (by decide +kernel) rfl ?_
    exact g_zret C hR (by first | exact Or.inl rfl | exact Or.inr rfl | exact bI01 _) (⟨_, by rw [bI_f hno, bI_f (fun z => absurd (Int32.le_trans hlo z.1) (by decide))], rfl, fun z => absurd z hno⟩) dX9_readsNumber_57
  · skip
    have hf := bI_1 c13
    refine g_aload_n C dX9_readsNumber_16 rfl ?_
    refine g_get C kwX9 0 rfl rfl 17 (by decide) kfX9_76 rfl dX9_readsNumber_17 ?_
    refine g_aload_n C dX9_readsNumber_20 rfl ?_
    refine g_get C kwX9 0 rfl rfl 16 (by decide) kfX9_79 rfl dX9_readsNumber_21 ?_
    refine g_isub C dX9_readsNumber_24 ?_
    refine g_iconst (v := 1) C dX9_readsNumber_25 (by decide) ?_
    refine g_icmp_ne (tgt := 44) C dX9_readsNumber_26 (by decide) (fun c26 => ?_) (fun c26 => ?_)
    · skip
      have hno : ¬ (numOK tf l0 (tk tf l0 b) lo hh) := fun z => c26 (by rw [(nb_d z.1 z.2.1).mpr z.2.2.1]; exact (congrArg (fun q => q) (pk_sub (by omega))).trans (by rw [show tk tf l0 b + 1 - (tk tf l0 b) = 1 by omega]; rfl))
      refine g_iconst (v := (-1)) C dX9_readsNumber_44 (by decide) ?_
      refine g_put (ws' := [(mo, .inr (9, [.ref rw, .int st0, .int lg, .int sf, .int dg, .ref mh, .ref md, .int un, .ref mk, .ref mt, .int (nI l0), .int sm, .ref z1, .ref z2, .ref z3, .long tr, .int (nI (tk tf l0 b)), .int (nI (nb tf l0 (tk tf l0 b))), .int rs, .ref y1, .ref y2, .ref y3, .ref y4, .int (-1), .int os, .int od, .int sl, .ref ya, .int fpu, .ref yw, .int wn, .ref yp])), aI E mt 100 tf]) C kwX9 tyX9 tyX9_ok nmX9 0 rfl rfl 23 (by decide) kfX9_89 rfl rfl rfl (Nat.le_of_ble_eq_true rfl) rfl dX9_readsNumber_45 ?_
      refine g_aload_n C dX9_readsNumber_48 rfl ?_
      refine g_get C kwX9 0 rfl rfl 23 (by decide) kfX9_89 rfl dX9_readsNumber_49 ?_
      refine g_iload_n C dX9_readsNumber_52 rfl ?_
      refine g_iload_n C dX9_readsNumber_53 rfl ?_
      refine g_callS C (c_X9_in k.l E (-1) lo hh) kmX9_69 ktX9_in knX9 kcX9_in ⟨rfl, rfl⟩ kdX9_in ⟨by decide, by decide⟩ ⟨by decide, by decide⟩ [] [0, 1] rfl (wr := [(mo, .inr (9, [.ref rw, .int st0, .int lg, .int sf, .int dg, .ref mh, .ref md, .int un, .ref mk, .ref mt, .int (nI l0), .int sm, .ref z1, .ref z2, .ref z3, .long tr, .int (nI (tk tf l0 b)), .int (nI (nb tf l0 (tk tf l0 b))), .int rs, .ref y1, .ref y2, .ref y3, .ref y4, .int (-1), .int os, .int od, .int sl, .ref ya, .int fpu, .ref yw, .int wn, .ref yp])), aI E mt 100 tf]) rfl (by decide +kernel) (by decide +kernel) (by decide +kernel) rfl (As := [.int (-1), .int lo, .int hh]) (rest := []) rfl (Nat.le_of_ble_eq_true rfl) dX9_readsNumber_54 (fun rv_ rw_ hp_ => ?_)
      obtain ⟨rfl, rfl⟩ := hp_
      refine g_rep [0, 1] (ws' := [(mo, .inr (9, [.ref rw, .int st0, .int lg, .int sf, .int dg, .ref mh, .ref md, .int un, .ref mk, .ref mt, .int (nI l0), .int sm, .ref z1, .ref z2, .ref z3, .long tr, .int (nI (tk tf l0 b)), .int (nI (nb tf l0 (tk tf l0 b))), .int rs, .ref y1, .ref y2, .ref y3, .ref y4, .int (-1), .int os, .int od, .int sl, .ref ya, .int fpu, .ref yw, .int wn, .ref yp])), aI E mt 100 tf]) (st' := [.int (bI (lo ≤ (-1) ∧ (-1) ≤ hh))]) (n' := 0) (z' := 0) (pc' := 57) rfl rfl rfl rfl (by decide +kernel) rfl ?_
      exact g_zret C hR (by first | exact Or.inl rfl | exact Or.inr rfl | exact bI01 _) (⟨_, by rw [bI_f hno, bI_f (fun z => absurd (Int32.le_trans hlo z.1) (by decide))], rfl, fun z => absurd z hno⟩) dX9_readsNumber_57
    · skip
      have h1_ : nb tf l0 (tk tf l0 b) = tk tf l0 b + 1 := by
        have z := c26
        rw [pk_sub hnb.1, show (1 : Int32) = nI 1 from rfl, nI_eq (by omega) (by decide)] at z
        omega
      have hno : (numOK tf l0 (tk tf l0 b) lo hh) ↔ (lo ≤ tf (tk tf l0 b) - 48 ∧ tf (tk tf l0 b) - 48 ≤ hh) := ⟨fun z => z.2.2.2, fun z => ⟨hf.1, hf.2, (nb_d hf.1 hf.2).mp h1_, z⟩⟩
      refine g_aload_n C dX9_readsNumber_29 rfl ?_
      refine g_get C kwX9 0 rfl rfl 9 (by decide) kfX9_33 rfl dX9_readsNumber_30 ?_
      refine g_aload_n C dX9_readsNumber_33 rfl ?_
      refine g_get C kwX9 0 rfl rfl 16 (by decide) kfX9_79 rfl dX9_readsNumber_34 ?_
      refine g_iald C 1 (tk tf l0 b) rfl (rfl) (by omega) (by decide) dX9_readsNumber_37 ?_
      refine g_bipush (v := 48) C dX9_readsNumber_38 (by decide) ?_
      refine g_isub C dX9_readsNumber_40 ?_
      refine g_goto (tgt := 45) C dX9_readsNumber_41 (by decide) ?_
      refine g_put (ws' := [(mo, .inr (9, [.ref rw, .int st0, .int lg, .int sf, .int dg, .ref mh, .ref md, .int un, .ref mk, .ref mt, .int (nI l0), .int sm, .ref z1, .ref z2, .ref z3, .long tr, .int (nI (tk tf l0 b)), .int (nI (nb tf l0 (tk tf l0 b))), .int rs, .ref y1, .ref y2, .ref y3, .ref y4, .int ((tf (tk tf l0 b)) - 48), .int os, .int od, .int sl, .ref ya, .int fpu, .ref yw, .int wn, .ref yp])), aI E mt 100 tf]) C kwX9 tyX9 tyX9_ok nmX9 0 rfl rfl 23 (by decide) kfX9_89 rfl rfl rfl (Nat.le_of_ble_eq_true rfl) rfl dX9_readsNumber_45 ?_
      refine g_aload_n C dX9_readsNumber_48 rfl ?_
      refine g_get C kwX9 0 rfl rfl 23 (by decide) kfX9_89 rfl dX9_readsNumber_49 ?_
      refine g_iload_n C dX9_readsNumber_52 rfl ?_
      refine g_iload_n C dX9_readsNumber_53 rfl ?_
      refine g_callS C (c_X9_in k.l E ((tf (tk tf l0 b)) - 48) lo hh) kmX9_69 ktX9_in knX9 kcX9_in ⟨rfl, rfl⟩ kdX9_in ⟨by decide, by decide⟩ ⟨by decide, by decide⟩ [] [0, 1] rfl (wr := [(mo, .inr (9, [.ref rw, .int st0, .int lg, .int sf, .int dg, .ref mh, .ref md, .int un, .ref mk, .ref mt, .int (nI l0), .int sm, .ref z1, .ref z2, .ref z3, .long tr, .int (nI (tk tf l0 b)), .int (nI (nb tf l0 (tk tf l0 b))), .int rs, .ref y1, .ref y2, .ref y3, .ref y4, .int ((tf (tk tf l0 b)) - 48), .int os, .int od, .int sl, .ref ya, .int fpu, .ref yw, .int wn, .ref yp])), aI E mt 100 tf]) rfl (by decide +kernel) (by decide +kernel) (by decide +kernel) rfl (As := [.int ((tf (tk tf l0 b)) - 48), .int lo, .int hh]) (rest := []) rfl (Nat.le_of_ble_eq_true rfl) dX9_readsNumber_54 (fun rv_ rw_ hp_ => ?_)
      obtain ⟨rfl, rfl⟩ := hp_
      refine g_rep [0, 1] (ws' := [(mo, .inr (9, [.ref rw, .int st0, .int lg, .int sf, .int dg, .ref mh, .ref md, .int un, .ref mk, .ref mt, .int (nI l0), .int sm, .ref z1, .ref z2, .ref z3, .long tr, .int (nI (tk tf l0 b)), .int (nI (nb tf l0 (tk tf l0 b))), .int rs, .ref y1, .ref y2, .ref y3, .ref y4, .int ((tf (tk tf l0 b)) - 48), .int os, .int od, .int sl, .ref ya, .int fpu, .ref yw, .int wn, .ref yp])), aI E mt 100 tf]) (st' := [.int (bI (lo ≤ ((tf (tk tf l0 b)) - 48) ∧ ((tf (tk tf l0 b)) - 48) ≤ hh))]) (n' := 0) (z' := 0) (pc' := 57) rfl rfl rfl rfl (by decide +kernel) rfl ?_
      exact g_zret C hR (by first | exact Or.inl rfl | exact Or.inr rfl | exact bI01 _) (⟨_, by rw [bI_ite hno], rfl, fun _ => ⟨rfl, h1_⟩⟩) dX9_readsNumber_57
