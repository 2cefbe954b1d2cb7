theorem rI_t {P : Prop} [Decidable P] (h : P) : some (Value.int 1) = some (Value.int (bI P)) := by rw [bI_t h]
theorem rI_f {P : Prop} [Decidable P] (h : ¬ P) : some (Value.int 0) = some (Value.int (bI P)) := by rw [bI_f h]
theorem gd_push {l : List Nat} {s : Nat} {mf : Nat → Int32} (h : ∀ i, i < l.length → mf i = nI (l.getD i 0)) : ∀ i, i < (l ++ [s]).length → upd mf l.length (nI s) i = nI ((l ++ [s]).getD i 0) := by
  intro i hi
  rw [List.length_append] at hi
  have hi : i < l.length + 1 := hi
  unfold upd
  by_cases e : i = l.length
  · rw [if_pos e, gdR e]
  · rw [if_neg e, gdL (by omega)]
    exact h i (by omega)

set_option maxHeartbeats 4000000 in
set_option maxRecDepth 100000 in
theorem lp_X0_list {k : KX} {E : EX} (C : Cx k E cX0_listMats RX0 (rmL 1 0 0)) (hnl : ∀ j : Nat, j < 3 → j < k.nL) {h : Nat} {w : Nat} {mt : Nat} {up : Int64} {lo : Int64} {p : Nat} {wm : Nat} {st : Int32} {dr : Int32} {a0 : Int32} {v : Int32} {fl : Int32} {sl : Int32} {ph : Nat} {pd : Nat} {pm : Nat} {n : Nat} {lg : Int32} {sf : Int32} {dg : Int32} {o : Nat} {om : Nat} {a : Nat} {vg : Int32} {fp : Int32} {ma : Nat → Int32} (hn : n ≤ 9) {M : List Nat} (hM9 : M.length ≤ 9) (hR : Rt k E (fun (rv_ : Option Value) (rw_ : va_W) => ∃ (mf2 : Nat → Int32), rv_ = none ∧ rw_ = [(h, .inr (0, [.ref w, .ref mt, .int (nI M.length), .long up, .long lo])), aI E mt 9 mf2, (w, .inr (7, [.ref p, .ref wm, .int st, .int dr, .int a0, .int v, .int fl, .int sl])), (p, .inr (5, [.ref ph, .ref pd, .ref pm, .int (nI n), .int lg, .int sf, .int dg])), (o, .inr (4, [.ref om, .int (nI a), .int vg, .int fp])), aI E om 9 ma] ∧ (∀ i, i < M.length → mf2 i = nI (M.getD i 0))) 0 0 none) : ∀ (f s : Nat) (Pp : List Nat) (mf : Nat → Int32), s + f = n → Pp ++ matL ma f s = M → (∀ i, i < Pp.length → mf i = nI (Pp.getD i 0)) → G k E 0 0 12 [some (.ref h), some (.ref o), some (.int (nI s))] [] [(h, .inr (0, [.ref w, .ref mt, .int (nI Pp.length), .long up, .long lo])), aI E mt 9 mf, (w, .inr (7, [.ref p, .ref wm, .int st, .int dr, .int a0, .int v, .int fl, .int sl])), (p, .inr (5, [.ref ph, .ref pd, .ref pm, .int (nI n), .int lg, .int sf, .int dg])), (o, .inr (4, [.ref om, .int (nI a), .int vg, .int fp])), aI E om 9 ma] := by
  intro f
  induction f with
  | zero =>
    intro s Pp mf hs hP hf
    have e : Pp = M := by rw [← hP]; exact (List.append_nil _).symm
    subst e
    refine g_iload_n C dX0_listMats_12 rfl ?_
    refine g_aload_n C dX0_listMats_13 rfl ?_
    refine g_get C kwX0 0 rfl rfl 0 (by decide) kfX0_15 rfl dX0_listMats_14 ?_
    refine g_get C kwX7 2 rfl rfl 0 (by decide) kfX0_57 rfl dX0_listMats_17 ?_
    refine g_get C kwX5 3 rfl rfl 3 (by decide) kfX0_61 rfl dX0_listMats_20 ?_
    refine g_icmp_ge (tgt := 61) C dX0_listMats_23 (by decide) (fun c23 => ?_) (fun c23 => ?_)
    · skip
      exact g_vret C hR (⟨_, rfl, rfl, hf⟩) dX0_listMats_61
    · skip
      exact absurd ((nI_leI (by omega) (by omega)).mpr (by omega)) c23
  | succ f ih =>
    intro s Pp mf hs hP hf
    unfold matL at hP
    have hPl : Pp.length ≤ M.length := by rw [← hP, List.length_append]; exact Nat.le_add_right _ _
    refine g_iload_n C dX0_listMats_12 rfl ?_
    refine g_aload_n C dX0_listMats_13 rfl ?_
    refine g_get C kwX0 0 rfl rfl 0 (by decide) kfX0_15 rfl dX0_listMats_14 ?_
    refine g_get C kwX7 2 rfl rfl 0 (by decide) kfX0_57 rfl dX0_listMats_17 ?_
    refine g_get C kwX5 3 rfl rfl 3 (by decide) kfX0_61 rfl dX0_listMats_20 ?_
    refine g_icmp_ge (tgt := 61) C dX0_listMats_23 (by decide) (fun c23 => ?_) (fun c23 => ?_)
    · skip
      exact absurd ((nI_leI (by omega) (by omega)).mp c23) (by omega)
    · skip
      refine g_aload_n C dX0_listMats_26 rfl ?_
      refine g_get C kwX4 4 rfl rfl 0 (by decide) kfX0_66 rfl dX0_listMats_27 ?_
      refine g_iload_n C dX0_listMats_30 rfl ?_
      refine g_iald C 5 s rfl (rfl) (by omega) (by decide) dX0_listMats_31 ?_
      refine g_if_le (tgt := 55) C dX0_listMats_32 (by decide) (fun c32 => ?_) (fun c32 => ?_)
      · skip
        rw [if_neg (Int32.not_lt.mpr c32)] at hP
        refine g_iinc (v := nI (s + 1)) (lv' := [some (.ref h), some (.ref o), some (.int (nI (s + 1)))]) C dX0_listMats_55 rfl (nI_add _ 1) (hnl 2 (by decide)) rfl rfl ?_
        refine g_goto (tgt := 12) C dX0_listMats_58 (by decide) ?_
        exact ih (s + 1) Pp mf (by omega) hP hf
      · skip
        rw [if_pos (Int32.not_le.mp c32)] at hP
        have hPl2 : Pp.length < M.length := by rw [← hP, List.length_append]; show _ < _ + (_ + 1); omega
        refine g_aload_n C dX0_listMats_35 rfl ?_
        refine g_get C kwX0 0 rfl rfl 1 (by decide) kfX0_9 rfl dX0_listMats_36 ?_
        refine g_aload_n C dX0_listMats_39 rfl ?_
        refine g_get C kwX0 0 rfl rfl 2 (by decide) kfX0_35 rfl dX0_listMats_40 ?_
        refine g_iload_n C dX0_listMats_43 rfl ?_
        refine g_iast (ws' := [(h, .inr (0, [.ref w, .ref mt, .int (nI Pp.length), .long up, .long lo])), aI E mt 9 (upd mf Pp.length (nI s)), (w, .inr (7, [.ref p, .ref wm, .int st, .int dr, .int a0, .int v, .int fl, .int sl])), (p, .inr (5, [.ref ph, .ref pd, .ref pm, .int (nI n), .int lg, .int sf, .int dg])), (o, .inr (4, [.ref om, .int (nI a), .int vg, .int fp])), aI E om 9 ma]) C 1 Pp.length rfl (rfl) (by omega) (by decide) rfl dX0_listMats_44 ?_
        refine g_aload_n C dX0_listMats_45 rfl ?_
        refine g_dup C dX0_listMats_46 rfl ?_
        refine g_get C kwX0 0 rfl rfl 2 (by decide) kfX0_35 rfl dX0_listMats_47 ?_
        refine g_iconst (v := 1) C dX0_listMats_50 (by decide) ?_
        refine g_iadd C dX0_listMats_51 ?_
        refine g_topi (v := nI (Pp ++ [s]).length) (by rw [List.length_append]; exact nI_1 _) ?_
        refine g_put (ws' := [(h, .inr (0, [.ref w, .ref mt, .int (nI (Pp ++ [s]).length), .long up, .long lo])), aI E mt 9 (upd mf Pp.length (nI s)), (w, .inr (7, [.ref p, .ref wm, .int st, .int dr, .int a0, .int v, .int fl, .int sl])), (p, .inr (5, [.ref ph, .ref pd, .ref pm, .int (nI n), .int lg, .int sf, .int dg])), (o, .inr (4, [.ref om, .int (nI a), .int vg, .int fp])), aI E om 9 ma]) C kwX0 tyX0 tyX0_ok nmX0 0 rfl rfl 2 (by decide) kfX0_35 rfl rfl rfl (Nat.le_of_ble_eq_true rfl) rfl dX0_listMats_52 ?_
        refine g_iinc (v := nI (s + 1)) (lv' := [some (.ref h), some (.ref o), some (.int (nI (s + 1)))]) C dX0_listMats_55 rfl (nI_add _ 1) (hnl 2 (by decide)) rfl rfl ?_
        refine g_goto (tgt := 12) C dX0_listMats_58 (by decide) ?_
        exact ih (s + 1) (Pp ++ [s]) _ (by omega) (by rw [List.append_assoc]; exact hP) (gd_push hf)

set_option maxHeartbeats 4000000 in
set_option maxRecDepth 100000 in
theorem lpx_X0_list {k : KX} {E : EX} (C : Cx k E cX0_listMats RX0 (rmL 1 0 0)) (hnl : ∀ j : Nat, j < 3 → j < k.nL) {h : Nat} {w : Nat} {mt : Nat} {up : Int64} {lo : Int64} {p : Nat} {wm : Nat} {st : Int32} {dr : Int32} {a0 : Int32} {v : Int32} {fl : Int32} {sl : Int32} {ph : Nat} {pd : Nat} {pm : Nat} {n : Nat} {lg : Int32} {sf : Int32} {dg : Int32} {o : Nat} {om : Nat} {a : Nat} {vg : Int32} {fp : Int32} {ma : Nat → Int32} (hn : n ≤ 9) {M : List Nat} (hR : Rt k E (fun (rv_ : Option Value) (rw_ : va_W) => ∃ (mf2 : Nat → Int32), rv_ = none ∧ rw_ = [(h, .inr (0, [.ref w, .ref mt, .int (nI M.length), .long up, .long lo])), aI E mt 9 mf2, (w, .inr (7, [.ref p, .ref wm, .int st, .int dr, .int a0, .int v, .int fl, .int sl])), (p, .inr (5, [.ref ph, .ref pd, .ref pm, .int (nI n), .int lg, .int sf, .int dg])), (o, .inr (4, [.ref om, .int (nI a), .int vg, .int fp])), aI E om 9 ma] ∧ (∀ i, i < M.length → mf2 i = nI (M.getD i 0))) 0 0 none) : ∀ (s : Nat) (mf : Nat → Int32), n ≤ s → s ≤ 10 → M = [] → G k E 0 0 12 [some (.ref h), some (.ref o), some (.int (nI s))] [] [(h, .inr (0, [.ref w, .ref mt, .int 0, .long up, .long lo])), aI E mt 9 mf, (w, .inr (7, [.ref p, .ref wm, .int st, .int dr, .int a0, .int v, .int fl, .int sl])), (p, .inr (5, [.ref ph, .ref pd, .ref pm, .int (nI n), .int lg, .int sf, .int dg])), (o, .inr (4, [.ref om, .int (nI a), .int vg, .int fp])), aI E om 9 ma] := by
  intro s mf hs h10 e
  subst e
  refine g_iload_n C dX0_listMats_12 rfl ?_
  refine g_aload_n C dX0_listMats_13 rfl ?_
  refine g_get C kwX0 0 rfl rfl 0 (by decide) kfX0_15 rfl dX0_listMats_14 ?_
  refine g_get C kwX7 2 rfl rfl 0 (by decide) kfX0_57 rfl dX0_listMats_17 ?_
  refine g_get C kwX5 3 rfl rfl 3 (by decide) kfX0_61 rfl dX0_listMats_20 ?_
  refine g_icmp_ge (tgt := 61) C dX0_listMats_23 (by decide) (fun c23 => ?_) (fun c23 => ?_)
  · skip
    exact g_vret C hR (⟨mf, rfl, rfl, fun i h => absurd h (Nat.not_lt_zero _)⟩) dX0_listMats_61
  · skip
    exact absurd ((nI_leI (by omega) (by omega)).mpr (by omega)) c23

set_option maxHeartbeats 4000000 in
set_option maxRecDepth 100000 in
theorem c_X0_listMats (l : Launch) (E : EX) (h : Nat) (w : Nat) (mt : Nat) (mm : Int32) (up : Int64) (lo : Int64) (mf : Nat → Int32) (p : Nat) (wm : Nat) (st : Int32) (dr : Int32) (a0 : Int32) (v : Int32) (fl : Int32) (sl : Int32) (ph : Nat) (pd : Nat) (pm : Nat) (n : Nat) (lg : Int32) (sf : Int32) (dg : Int32) (o : Nat) (om : Nat) (a : Nat) (vg : Int32) (fp : Int32) (ma : Nat → Int32) (hn : n ≤ 9) (ha : a ≤ n) : Ct l E yX0_listMats cX0_listMats 3 none (rmL 1 0 0) [.ref h, .ref o] [(h, .inr (0, [.ref w, .ref mt, .int mm, .long up, .long lo])), aI E mt 9 mf, (w, .inr (7, [.ref p, .ref wm, .int st, .int dr, .int a0, .int v, .int fl, .int sl])), (p, .inr (5, [.ref ph, .ref pd, .ref pm, .int (nI n), .int lg, .int sf, .int dg])), (o, .inr (4, [.ref om, .int (nI a), .int vg, .int fp])), aI E om 9 ma] (fun (rv_ : Option Value) (rw_ : va_W) => ∃ (mf2 : Nat → Int32), rv_ = none ∧ rw_ = [(h, .inr (0, [.ref w, .ref mt, .int (nI (matL ma (n - (a + 1)) (a + 1)).length), .long up, .long lo])), aI E mt 9 mf2, (w, .inr (7, [.ref p, .ref wm, .int st, .int dr, .int a0, .int v, .int fl, .int sl])), (p, .inr (5, [.ref ph, .ref pd, .ref pm, .int (nI n), .int lg, .int sf, .int dg])), (o, .inr (4, [.ref om, .int (nI a), .int vg, .int fp])), aI E om 9 ma] ∧ (∀ i, i < (matL ma (n - (a + 1)) (a + 1)).length → mf2 i = nI ((matL ma (n - (a + 1)) (a + 1)).getD i 0))) 0 0 := by
  refine Ct_of (by decide) (Nat.le_of_ble_eq_true rfl) ?_
  intro k hkl hnl C hR hin_
  subst hkl
  show G k E 0 0 0 [some (.ref h), some (.ref o), none] [] [(h, .inr (0, [.ref w, .ref mt, .int mm, .long up, .long lo])), aI E mt 9 mf, (w, .inr (7, [.ref p, .ref wm, .int st, .int dr, .int a0, .int v, .int fl, .int sl])), (p, .inr (5, [.ref ph, .ref pd, .ref pm, .int (nI n), .int lg, .int sf, .int dg])), (o, .inr (4, [.ref om, .int (nI a), .int vg, .int fp])), aI E om 9 ma]
  refine g_aload_n C dX0_listMats_0 rfl ?_
  refine g_iconst (v := 0) C dX0_listMats_1 (by decide) ?_
  refine g_put (ws' := [(h, .inr (0, [.ref w, .ref mt, .int 0, .long up, .long lo])), aI E mt 9 mf, (w, .inr (7, [.ref p, .ref wm, .int st, .int dr, .int a0, .int v, .int fl, .int sl])), (p, .inr (5, [.ref ph, .ref pd, .ref pm, .int (nI n), .int lg, .int sf, .int dg])), (o, .inr (4, [.ref om, .int (nI a), .int vg, .int fp])), aI E om 9 ma]) C kwX0 tyX0 tyX0_ok nmX0 0 rfl rfl 2 (by decide) kfX0_35 rfl rfl rfl (Nat.le_of_ble_eq_true rfl) rfl dX0_listMats_2 ?_
  refine g_aload_n C dX0_listMats_5 rfl ?_
  refine g_get C kwX4 4 rfl rfl 1 (by decide) kfX0_52 rfl dX0_listMats_6 ?_
  refine g_iconst (v := 1) C dX0_listMats_9 (by decide) ?_
  refine g_iadd C dX0_listMats_10 ?_
  refine g_topi (v := nI (a + 1)) (nI_1 a) ?_
  refine g_istore_n (lv' := [some (.ref h), some (.ref o), some (.int (nI (a + 1)))]) C dX0_listMats_11 (hnl 2 (by decide)) rfl rfl ?_
  by_cases h9 : a + 1 ≤ n
  · exact lp_X0_list (M := matL ma (n - (a + 1)) (a + 1)) C hnl hn (by have := matL_len (n - (a + 1)) (a + 1) (ma := ma); omega) hR (n - (a + 1)) (a + 1) [] mf (by omega) rfl (fun i h => absurd h (Nat.not_lt_zero _))
  · have e : n - (a + 1) = 0 := by omega
    have hi := lpx_X0_list (M := matL ma (n - (a + 1)) (a + 1)) C hnl hn hR (a + 1) mf (by omega) (by omega) (by rw [e]; rfl)
    exact hi

set_option maxHeartbeats 4000000 in
set_option maxRecDepth 100000 in
theorem lp_X0_weight {k : KX} {E : EX} (C : Cx k E cX0_weightOf RX0 (rmL 1 0 0)) (hnl : ∀ j : Nat, j < 6 → j < k.nL) {h : Nat} {w : Nat} {mt : Nat} {m : Nat} {up : Int64} {lo : Int64} {g : Nat} {x : Nat} (hm9 : m ≤ 9) (hg : g < 65536) (hx10 : x ≤ 10) (hR : Rt k E (fun (rv_ : Option Value) (rw_ : va_W) => rv_ = some (.long (lN (wN x m g))) ∧ rw_ = [(h, .inr (0, [.ref w, .ref mt, .int (nI m), .long up, .long lo]))]) 0 0 (some .long)) : ∀ (f i : Nat), i + f = m → G k E 0 0 5 [some (.ref h), some (.int (nI g)), some (.int (nI x)), some (.long (lN (wN x i g))), none, some (.int (nI i))] [] [(h, .inr (0, [.ref w, .ref mt, .int (nI m), .long up, .long lo]))] := by
  intro f
  induction f with
  | zero =>
    intro i hi
    have e : i = m := by omega
    subst e
    refine g_iload C dX0_weightOf_5 rfl ?_
    refine g_aload_n C dX0_weightOf_7 rfl ?_
    refine g_get C kwX0 0 rfl rfl 2 (by decide) kfX0_35 rfl dX0_weightOf_8 ?_
    refine g_icmp_ge (tgt := 43) C dX0_weightOf_11 (by decide) (fun c11 => ?_) (fun c11 => ?_)
    · skip
      refine g_lload_n C dX0_weightOf_43 rfl ?_
      exact g_lret C hR (⟨rfl, rfl⟩) dX0_weightOf_44
    · skip
      exact absurd (Int32.le_refl _) c11
  | succ f ih =>
    intro i hi
    refine g_iload C dX0_weightOf_5 rfl ?_
    refine g_aload_n C dX0_weightOf_7 rfl ?_
    refine g_get C kwX0 0 rfl rfl 2 (by decide) kfX0_35 rfl dX0_weightOf_8 ?_
    refine g_icmp_ge (tgt := 43) C dX0_weightOf_11 (by decide) (fun c11 => ?_) (fun c11 => ?_)
    · skip
      exact absurd ((nI_leI (by omega) (by omega)).mp c11) (by omega)
    · skip
      refine g_lload_n C dX0_weightOf_14 rfl ?_
      refine g_iload_n C dX0_weightOf_15 rfl ?_
      refine g_iload C dX0_weightOf_16 rfl ?_
      refine g_ishr C dX0_weightOf_18 ?_
      refine g_iconst (v := 1) C dX0_weightOf_19 (by decide) ?_
      refine g_iand C dX0_weightOf_20 ?_
      refine g_iconst (v := 1) C dX0_weightOf_21 (by decide) ?_
      refine g_icmp_ne (tgt := 30) C dX0_weightOf_22 (by decide) (fun c22 => ?_) (fun c22 => ?_)
      · skip
        have hb : ¬ g.testBit i = true := fun q => c22 ((sh_bit1 hg (by omega)).mpr q)
        have e9 : wN x (i + 1) g = wN x i g * (10 - x) := by rw [wN, if_neg hb]
        refine g_bipush (v := 10) C dX0_weightOf_30 (by decide) ?_
        refine g_iload_n C dX0_weightOf_32 rfl ?_
        refine g_isub C dX0_weightOf_33 ?_
        refine g_topi (v := nI (10 - x)) (pk_sub hx10) ?_
        refine g_i2l (v := lN (10 - x)) C dX0_weightOf_34 (nI_l (by omega)) ?_
        refine g_lmul C dX0_weightOf_35 ?_
        refine g_topl (v := lN (wN x (i + 1) g)) (by rw [e9, lN_mul]) ?_
        refine g_lstore_n (lv' := [some (.ref h), some (.int (nI g)), some (.int (nI x)), some (.long (lN (wN x (i + 1) g))), none, some (.int (nI i))]) C dX0_weightOf_36 (hnl 4 (by decide)) rfl rfl ?_
        refine g_iinc (v := nI (i + 1)) (lv' := [some (.ref h), some (.int (nI g)), some (.int (nI x)), some (.long (lN (wN x (i + 1) g))), none, some (.int (nI (i + 1)))]) C dX0_weightOf_37 rfl (nI_add _ 1) (hnl 5 (by decide)) rfl rfl ?_
        refine g_goto (tgt := 5) C dX0_weightOf_40 (by decide) ?_
        exact ih (i + 1) (by omega)
      · skip
        have hb := (sh_bit1 hg (by omega)).mp c22
        have e9 : wN x (i + 1) g = wN x i g * x := by rw [wN, if_pos hb]
        refine g_iload_n C dX0_weightOf_25 rfl ?_
        refine g_i2l (v := lN x) C dX0_weightOf_26 (nI_l (by omega)) ?_
        refine g_goto (tgt := 35) C dX0_weightOf_27 (by decide) ?_
        refine g_lmul C dX0_weightOf_35 ?_
        refine g_topl (v := lN (wN x (i + 1) g)) (by rw [e9, lN_mul]) ?_
        refine g_lstore_n (lv' := [some (.ref h), some (.int (nI g)), some (.int (nI x)), some (.long (lN (wN x (i + 1) g))), none, some (.int (nI i))]) C dX0_weightOf_36 (hnl 4 (by decide)) rfl rfl ?_
        refine g_iinc (v := nI (i + 1)) (lv' := [some (.ref h), some (.int (nI g)), some (.int (nI x)), some (.long (lN (wN x (i + 1) g))), none, some (.int (nI (i + 1)))]) C dX0_weightOf_37 rfl (nI_add _ 1) (hnl 5 (by decide)) rfl rfl ?_
        refine g_goto (tgt := 5) C dX0_weightOf_40 (by decide) ?_
        exact ih (i + 1) (by omega)

set_option maxHeartbeats 4000000 in
set_option maxRecDepth 100000 in
theorem c_X0_weightOf (l : Launch) (E : EX) (h : Nat) (w : Nat) (mt : Nat) (m : Nat) (up : Int64) (lo : Int64) (g : Nat) (x : Nat) (hm9 : m ≤ 9) (hg : g < 65536) (hx10 : x ≤ 10) : Ct l E yX0_weightOf cX0_weightOf 6 (some .long) (rmL 1 0 0) [.ref h, .int (nI g), .int (nI x)] [(h, .inr (0, [.ref w, .ref mt, .int (nI m), .long up, .long lo]))] (fun (rv_ : Option Value) (rw_ : va_W) => rv_ = some (.long (lN (wN x m g))) ∧ rw_ = [(h, .inr (0, [.ref w, .ref mt, .int (nI m), .long up, .long lo]))]) 0 0 := by
  refine Ct_of (by decide) (Nat.le_of_ble_eq_true rfl) ?_
  intro k hkl hnl C hR hin_
  subst hkl
  show G k E 0 0 0 [some (.ref h), some (.int (nI g)), some (.int (nI x)), none, none, none] [] [(h, .inr (0, [.ref w, .ref mt, .int (nI m), .long up, .long lo]))]
  refine g_lconst (v := 1) C dX0_weightOf_0 rfl ?_
  refine g_lstore_n (lv' := [some (.ref h), some (.int (nI g)), some (.int (nI x)), some (.long 1), none, none]) C dX0_weightOf_1 (hnl 4 (by decide)) rfl rfl ?_
  refine g_iconst (v := 0) C dX0_weightOf_2 (by decide) ?_
  refine g_istore (lv' := [some (.ref h), some (.int (nI g)), some (.int (nI x)), some (.long 1), none, some (.int 0)]) C dX0_weightOf_3 (hnl 5 (by decide)) rfl rfl ?_
  exact lp_X0_weight C hnl hm9 hg hx10 hR m 0 (by omega)

set_option maxHeartbeats 4000000 in
set_option maxRecDepth 100000 in
theorem lp_X0_reach {k : KX} {E : EX} (C : Cx k E cX0_reachesFloor RX0 (rmL 5 0 0)) (hnl : ∀ j : Nat, j < 5 → j < k.nL) {h : Nat} {w : Nat} {mt : Nat} {up : Int64} {lo : Int64} {M : List Nat} {mf : Nat → Int32} {p : Nat} {wm : Nat} {st : Int32} {dr : Int32} {a0 : Int32} {v : Int32} {fl : Int32} {sl : Int32} {ph : Nat} {pd : Nat} {pm : Nat} {n : Nat} {lg : Int32} {sf : Int32} {dg : Int32} {hi : Nat → Int32} {de : Nat → Int32} {wma : Nat → Int32} {o : Nat} {om : Nat} {a : Nat} {vg : Int32} {fp : Int32} {ma : Nat → Int32} {g : Nat} (hn : n ≤ 9) (ha : a ≤ n) (hM9 : M.length ≤ 9) (hMn : ∀ s, s ∈ M → s < n) (hmf : ∀ i, i < M.length → mf i = nI (M.getD i 0)) (hg : g < 65536) (hR : Rt k E (fun (rv_ : Option Value) (rw_ : va_W) => ∃ (a2 : Int32) (v2 : Int32) (fl2 : Int32) (sl2 : Int32), rv_ = some (.int (bI (¬ (runF n hi de (remF M ma g M.length wma) lg st dr 9 a vg 0 0).1 < n))) ∧ rw_ = [(h, .inr (0, [.ref w, .ref mt, .int (nI M.length), .long up, .long lo])), aI E mt 9 mf, (w, .inr (7, [.ref p, .ref wm, .int st, .int dr, .int a2, .int v2, .int fl2, .int sl2])), (p, .inr (5, [.ref ph, .ref pd, .ref pm, .int (nI n), .int lg, .int sf, .int dg])), aI E ph 9 hi, aI E pd 9 de, aI E wm 9 (remF M ma g M.length wma), (o, .inr (4, [.ref om, .int (nI a), .int vg, .int fp])), aI E om 9 ma]) 0 0 (some .boolean)) : ∀ (f i : Nat), i + f = M.length → G k E 0 0 2 [some (.ref h), some (.ref o), some (.int (nI g)), some (.int (nI i)), none] [] [(h, .inr (0, [.ref w, .ref mt, .int (nI M.length), .long up, .long lo])), aI E mt 9 mf, (w, .inr (7, [.ref p, .ref wm, .int st, .int dr, .int a0, .int v, .int fl, .int sl])), (p, .inr (5, [.ref ph, .ref pd, .ref pm, .int (nI n), .int lg, .int sf, .int dg])), aI E ph 9 hi, aI E pd 9 de, aI E wm 9 (remF M ma g i wma), (o, .inr (4, [.ref om, .int (nI a), .int vg, .int fp])), aI E om 9 ma] := by
  intro f
  induction f with
  | zero =>
    intro i hi_
    have e : i = M.length := by omega
    subst e
    have hr := runF_le (n := n) (hi := hi) (de := de) (ma := remF M ma g M.length wma) (lg := lg) (st := st) (dr := dr) 9 a vg 0 0 ha
    refine g_iload_n C dX0_reachesFloor_2 rfl ?_
    refine g_aload_n C dX0_reachesFloor_3 rfl ?_
    refine g_get C kwX0 0 rfl rfl 2 (by decide) kfX0_35 rfl dX0_reachesFloor_4 ?_
    refine g_icmp_ge (tgt := 54) C dX0_reachesFloor_7 (by decide) (fun c7 => ?_) (fun c7 => ?_)
    · skip
      refine g_aload_n C dX0_reachesFloor_54 rfl ?_
      refine g_get C kwX0 0 rfl rfl 0 (by decide) kfX0_15 rfl dX0_reachesFloor_55 ?_
      refine g_get C kwX7 2 rfl rfl 0 (by decide) kfX0_57 rfl dX0_reachesFloor_58 ?_
      refine g_aload_n C dX0_reachesFloor_61 rfl ?_
      refine g_get C kwX0 0 rfl rfl 0 (by decide) kfX0_15 rfl dX0_reachesFloor_62 ?_
      refine g_aload_n C dX0_reachesFloor_65 rfl ?_
      refine g_get C kwX4 7 rfl rfl 1 (by decide) kfX0_52 rfl dX0_reachesFloor_66 ?_
      refine g_aload_n C dX0_reachesFloor_69 rfl ?_
      refine g_get C kwX4 7 rfl rfl 2 (by decide) kfX0_69 rfl dX0_reachesFloor_70 ?_
      refine g_callV C (c_X7_run k.l E w p wm st dr a0 v fl sl ph pd pm n lg sf dg hi de (remF M ma g M.length wma) a vg (by first | assumption | omega) (ha)) kmX0_72 kiX7_run ksX7_run knX7 kcX7_run ⟨rfl, rfl⟩ ⟨rfl, kdX7_run⟩ ⟨by decide, by decide⟩ ⟨by decide, by decide⟩ [2, 3, 4, 5, 6] [0, 1, 7, 8] rfl (wr := [(h, .inr (0, [.ref w, .ref mt, .int (nI M.length), .long up, .long lo])), aI E mt 9 mf, (o, .inr (4, [.ref om, .int (nI a), .int vg, .int fp])), aI E om 9 ma]) rfl (by decide +kernel) (by decide +kernel) (by decide +kernel) 2 7 rfl rfl rfl (As := [.int (nI a), .int vg]) (rest := [.ref p]) rfl (Nat.le_of_ble_eq_true rfl) dX0_reachesFloor_73 (fun rv_ rw_ hp_ => ?_)
      obtain ⟨rfl, rfl⟩ := hp_
      refine g_rep [0, 1, 4, 5, 6, 7, 8, 2, 3] (ws' := [(h, .inr (0, [.ref w, .ref mt, .int (nI M.length), .long up, .long lo])), aI E mt 9 mf, (w, .inr (7, [.ref p, .ref wm, .int st, .int dr, .int (nI (runF n hi de (remF M ma g M.length wma) lg st dr 9 a vg 0 0).1), .int ((runF n hi de (remF M ma g M.length wma) lg st dr 9 a vg 0 0).2.1), .int ((runF n hi de (remF M ma g M.length wma) lg st dr 9 a vg 0 0).2.2.2), .int ((runF n hi de (remF M ma g M.length wma) lg st dr 9 a vg 0 0).2.2.1)])), (p, .inr (5, [.ref ph, .ref pd, .ref pm, .int (nI n), .int lg, .int sf, .int dg])), aI E ph 9 hi, aI E pd 9 de, aI E wm 9 (remF M ma g M.length wma), (o, .inr (4, [.ref om, .int (nI a), .int vg, .int fp])), aI E om 9 ma]) (st' := [.int (nI (runF n hi de (remF M ma g M.length wma) lg st dr 9 a vg 0 0).1), .ref p]) (n' := 0) (z' := 0) (pc' := 76) rfl rfl rfl rfl (by decide +kernel) rfl ?_
      refine g_callV C (c_X5_has k.l E p ph pd pm (nI n) lg sf dg (nI (runF n hi de (remF M ma g M.length wma) lg st dr 9 a vg 0 0).1)) kmX0_76 kiX5_has ksX5_has knX5 kcX5_has ⟨rfl, rfl⟩ ⟨rfl, kdX5_has⟩ ⟨by decide, by decide⟩ ⟨by decide, by decide⟩ [3] [0, 1, 2, 4, 5, 6, 7, 8] rfl (wr := [(h, .inr (0, [.ref w, .ref mt, .int (nI M.length), .long up, .long lo])), aI E mt 9 mf, (w, .inr (7, [.ref p, .ref wm, .int st, .int dr, .int (nI (runF n hi de (remF M ma g M.length wma) lg st dr 9 a vg 0 0).1), .int ((runF n hi de (remF M ma g M.length wma) lg st dr 9 a vg 0 0).2.1), .int ((runF n hi de (remF M ma g M.length wma) lg st dr 9 a vg 0 0).2.2.2), .int ((runF n hi de (remF M ma g M.length wma) lg st dr 9 a vg 0 0).2.2.1)])), aI E ph 9 hi, aI E pd 9 de, aI E wm 9 (remF M ma g M.length wma), (o, .inr (4, [.ref om, .int (nI a), .int vg, .int fp])), aI E om 9 ma]) rfl (by decide +kernel) (by decide +kernel) (by decide +kernel) 3 5 rfl rfl rfl (As := [.int (nI (runF n hi de (remF M ma g M.length wma) lg st dr 9 a vg 0 0).1)]) (rest := []) rfl (Nat.le_of_ble_eq_true rfl) dX0_reachesFloor_76 (fun rv_ rw_ hp_ => ?_)
      obtain ⟨rfl, rfl⟩ := hp_
      refine g_rep [0, 1, 2, 8, 3, 4, 5, 6, 7] (ws' := [(h, .inr (0, [.ref w, .ref mt, .int (nI M.length), .long up, .long lo])), aI E mt 9 mf, (w, .inr (7, [.ref p, .ref wm, .int st, .int dr, .int (nI (runF n hi de (remF M ma g M.length wma) lg st dr 9 a vg 0 0).1), .int ((runF n hi de (remF M ma g M.length wma) lg st dr 9 a vg 0 0).2.1), .int ((runF n hi de (remF M ma g M.length wma) lg st dr 9 a vg 0 0).2.2.2), .int ((runF n hi de (remF M ma g M.length wma) lg st dr 9 a vg 0 0).2.2.1)])), (p, .inr (5, [.ref ph, .ref pd, .ref pm, .int (nI n), .int lg, .int sf, .int dg])), aI E ph 9 hi, aI E pd 9 de, aI E wm 9 (remF M ma g M.length wma), (o, .inr (4, [.ref om, .int (nI a), .int vg, .int fp])), aI E om 9 ma]) (st' := [.int (bI (0 ≤ (nI (runF n hi de (remF M ma g M.length wma) lg st dr 9 a vg 0 0).1) ∧ (nI (runF n hi de (remF M ma g M.length wma) lg st dr 9 a vg 0 0).1) ≤ (nI n) - 1))]) (n' := 0) (z' := 0) (pc' := 79) rfl rfl rfl rfl (by decide +kernel) rfl ?_
      refine g_if_ne (tgt := 86) C dX0_reachesFloor_79 (by decide) (fun c79 => ?_) (fun c79 => ?_)
      · skip
        refine g_iconst (v := 0) C dX0_reachesFloor_86 (by decide) ?_
        exact g_zret C hR (by first | exact Or.inl rfl | exact Or.inr rfl | exact bI01 _) (⟨_, _, _, _, rI_f (fun q => q (has_nat (by omega) (by omega) (bI_1 c79))), rfl⟩) dX0_reachesFloor_87
      · skip
        refine g_iconst (v := 1) C dX0_reachesFloor_82 (by decide) ?_
        refine g_goto (tgt := 87) C dX0_reachesFloor_83 (by decide) ?_
        exact g_zret C hR (by first | exact Or.inl rfl | exact Or.inr rfl | exact bI01 _) (⟨_, _, _, _, rI_t (fun q => bI_0 c79 (has_t q (by omega))), rfl⟩) dX0_reachesFloor_87
    · skip
      exact absurd (Int32.le_refl _) c7
  | succ f ih =>
    intro i hi_
    have hMi := hMn _ (gd_mem (l := M) (i := i) (by omega))
    refine g_iload_n C dX0_reachesFloor_2 rfl ?_
    refine g_aload_n C dX0_reachesFloor_3 rfl ?_
    refine g_get C kwX0 0 rfl rfl 2 (by decide) kfX0_35 rfl dX0_reachesFloor_4 ?_
    refine g_icmp_ge (tgt := 54) C dX0_reachesFloor_7 (by decide) (fun c7 => ?_) (fun c7 => ?_)
    · skip
      exact absurd ((nI_leI (by omega) (by omega)).mp c7) (by omega)
    · skip
      refine g_aload_n C dX0_reachesFloor_10 rfl ?_
      refine g_get C kwX0 0 rfl rfl 1 (by decide) kfX0_9 rfl dX0_reachesFloor_11 ?_
      refine g_iload_n C dX0_reachesFloor_14 rfl ?_
      refine g_iald C 1 i rfl (rfl) (by omega) (by decide) dX0_reachesFloor_15 ?_
      refine g_topi (v := nI (M.getD i 0)) (hmf i (by omega)) ?_
      refine g_istore (lv' := [some (.ref h), some (.ref o), some (.int (nI g)), some (.int (nI i)), some (.int (nI (M.getD i 0)))]) C dX0_reachesFloor_16 (hnl 4 (by decide)) rfl rfl ?_
      refine g_aload_n C dX0_reachesFloor_18 rfl ?_
      refine g_get C kwX0 0 rfl rfl 0 (by decide) kfX0_15 rfl dX0_reachesFloor_19 ?_
      refine g_get C kwX7 2 rfl rfl 1 (by decide) kfX0_68 rfl dX0_reachesFloor_22 ?_
      refine g_iload C dX0_reachesFloor_25 rfl ?_
      refine g_iload_n C dX0_reachesFloor_27 rfl ?_
      refine g_iload_n C dX0_reachesFloor_28 rfl ?_
      refine g_ishr C dX0_reachesFloor_29 ?_
      refine g_iconst (v := 1) C dX0_reachesFloor_30 (by decide) ?_
      refine g_iand C dX0_reachesFloor_31 ?_
      refine g_iconst (v := 1) C dX0_reachesFloor_32 (by decide) ?_
      refine g_icmp_ne (tgt := 40) C dX0_reachesFloor_33 (by decide) (fun c33 => ?_) (fun c33 => ?_)
      · skip
        have hb : ¬ g.testBit i = true := fun q => c33 ((sh_bit1 hg (by omega)).mpr q)
        have e9 : upd (remF M ma g i wma) (M.getD i 0) (ma (M.getD i 0)) = remF M ma g (i + 1) wma := by rw [remF, if_neg hb]
        refine g_aload_n C dX0_reachesFloor_40 rfl ?_
        refine g_get C kwX4 7 rfl rfl 0 (by decide) kfX0_66 rfl dX0_reachesFloor_41 ?_
        refine g_iload C dX0_reachesFloor_44 rfl ?_
        refine g_iald C 8 (M.getD i 0) rfl (rfl) (by omega) (by decide) dX0_reachesFloor_46 ?_
        refine g_iast (ws' := [(h, .inr (0, [.ref w, .ref mt, .int (nI M.length), .long up, .long lo])), aI E mt 9 mf, (w, .inr (7, [.ref p, .ref wm, .int st, .int dr, .int a0, .int v, .int fl, .int sl])), (p, .inr (5, [.ref ph, .ref pd, .ref pm, .int (nI n), .int lg, .int sf, .int dg])), aI E ph 9 hi, aI E pd 9 de, aI E wm 9 (remF M ma g (i + 1) wma), (o, .inr (4, [.ref om, .int (nI a), .int vg, .int fp])), aI E om 9 ma]) C 6 (M.getD i 0) rfl (rfl) (by omega) (by decide) (by rw [← e9]; rfl) dX0_reachesFloor_47 ?_
        refine g_iinc (v := nI (i + 1)) (lv' := [some (.ref h), some (.ref o), some (.int (nI g)), some (.int (nI (i + 1))), some (.int (nI (M.getD i 0)))]) C dX0_reachesFloor_48 rfl (nI_add _ 1) (hnl 3 (by decide)) rfl rfl ?_
        refine g_goto (tgt := 2) C dX0_reachesFloor_51 (by decide) ?_
        refine g_kill 4 (lv' := [some (.ref h), some (.ref o), some (.int (nI g)), some (.int (nI (i + 1))), none]) rfl ?_
        exact ih (i + 1) (by omega)
      · skip
        have hb := (sh_bit1 hg (by omega)).mp c33
        have e9 : upd (remF M ma g i wma) (M.getD i 0) 0 = remF M ma g (i + 1) wma := by rw [remF, if_pos hb]
        refine g_iconst (v := 0) C dX0_reachesFloor_36 (by decide) ?_
        refine g_goto (tgt := 47) C dX0_reachesFloor_37 (by decide) ?_
        refine g_iast (ws' := [(h, .inr (0, [.ref w, .ref mt, .int (nI M.length), .long up, .long lo])), aI E mt 9 mf, (w, .inr (7, [.ref p, .ref wm, .int st, .int dr, .int a0, .int v, .int fl, .int sl])), (p, .inr (5, [.ref ph, .ref pd, .ref pm, .int (nI n), .int lg, .int sf, .int dg])), aI E ph 9 hi, aI E pd 9 de, aI E wm 9 (remF M ma g (i + 1) wma), (o, .inr (4, [.ref om, .int (nI a), .int vg, .int fp])), aI E om 9 ma]) C 6 (M.getD i 0) rfl (rfl) (by omega) (by decide) (by rw [← e9]; rfl) dX0_reachesFloor_47 ?_
        refine g_iinc (v := nI (i + 1)) (lv' := [some (.ref h), some (.ref o), some (.int (nI g)), some (.int (nI (i + 1))), some (.int (nI (M.getD i 0)))]) C dX0_reachesFloor_48 rfl (nI_add _ 1) (hnl 3 (by decide)) rfl rfl ?_
        refine g_goto (tgt := 2) C dX0_reachesFloor_51 (by decide) ?_
        refine g_kill 4 (lv' := [some (.ref h), some (.ref o), some (.int (nI g)), some (.int (nI (i + 1))), none]) rfl ?_
        exact ih (i + 1) (by omega)

set_option maxHeartbeats 4000000 in
set_option maxRecDepth 100000 in
theorem c_X0_reachesFloor (l : Launch) (E : EX) (h : Nat) (w : Nat) (mt : Nat) (up : Int64) (lo : Int64) (M : List Nat) (mf : Nat → Int32) (p : Nat) (wm : Nat) (st : Int32) (dr : Int32) (a0 : Int32) (v : Int32) (fl : Int32) (sl : Int32) (ph : Nat) (pd : Nat) (pm : Nat) (n : Nat) (lg : Int32) (sf : Int32) (dg : Int32) (hi : Nat → Int32) (de : Nat → Int32) (wma : Nat → Int32) (o : Nat) (om : Nat) (a : Nat) (vg : Int32) (fp : Int32) (ma : Nat → Int32) (g : Nat) (hn : n ≤ 9) (ha : a ≤ n) (hM9 : M.length ≤ 9) (hMn : ∀ s, s ∈ M → s < n) (hmf : ∀ i, i < M.length → mf i = nI (M.getD i 0)) (hg : g < 65536) : Ct l E yX0_reachesFloor cX0_reachesFloor 5 (some .boolean) (rmL 5 0 0) [.ref h, .ref o, .int (nI g)] [(h, .inr (0, [.ref w, .ref mt, .int (nI M.length), .long up, .long lo])), aI E mt 9 mf, (w, .inr (7, [.ref p, .ref wm, .int st, .int dr, .int a0, .int v, .int fl, .int sl])), (p, .inr (5, [.ref ph, .ref pd, .ref pm, .int (nI n), .int lg, .int sf, .int dg])), aI E ph 9 hi, aI E pd 9 de, aI E wm 9 wma, (o, .inr (4, [.ref om, .int (nI a), .int vg, .int fp])), aI E om 9 ma] (fun (rv_ : Option Value) (rw_ : va_W) => ∃ (a2 : Int32) (v2 : Int32) (fl2 : Int32) (sl2 : Int32), rv_ = some (.int (bI (¬ (runF n hi de (remF M ma g M.length wma) lg st dr 9 a vg 0 0).1 < n))) ∧ rw_ = [(h, .inr (0, [.ref w, .ref mt, .int (nI M.length), .long up, .long lo])), aI E mt 9 mf, (w, .inr (7, [.ref p, .ref wm, .int st, .int dr, .int a2, .int v2, .int fl2, .int sl2])), (p, .inr (5, [.ref ph, .ref pd, .ref pm, .int (nI n), .int lg, .int sf, .int dg])), aI E ph 9 hi, aI E pd 9 de, aI E wm 9 (remF M ma g M.length wma), (o, .inr (4, [.ref om, .int (nI a), .int vg, .int fp])), aI E om 9 ma]) 0 0 := by
  refine Ct_of (by decide) (Nat.le_of_ble_eq_true rfl) ?_
  intro k hkl hnl C hR hin_
  subst hkl
  show G k E 0 0 0 [some (.ref h), some (.ref o), some (.int (nI g)), none, none] [] [(h, .inr (0, [.ref w, .ref mt, .int (nI M.length), .long up, .long lo])), aI E mt 9 mf, (w, .inr (7, [.ref p, .ref wm, .int st, .int dr, .int a0, .int v, .int fl, .int sl])), (p, .inr (5, [.ref ph, .ref pd, .ref pm, .int (nI n), .int lg, .int sf, .int dg])), aI E ph 9 hi, aI E pd 9 de, aI E wm 9 wma, (o, .inr (4, [.ref om, .int (nI a), .int vg, .int fp])), aI E om 9 ma]
  refine g_iconst (v := 0) C dX0_reachesFloor_0 (by decide) ?_
  refine g_istore_n (lv' := [some (.ref h), some (.ref o), some (.int (nI g)), some (.int 0), none]) C dX0_reachesFloor_1 (hnl 3 (by decide)) rfl rfl ?_
  exact lp_X0_reach C hnl hn ha hM9 hMn hmf hg hR M.length 0 (by omega)

set_option maxHeartbeats 4000000 in
set_option maxRecDepth 100000 in
theorem lp_X0_reduce {k : KX} {E : EX} (C : Cx k E cX0_reduce RX0 (rmL 1 0 0)) (hnl : ∀ j : Nat, j < 8 → j < k.nL) {h : Nat} {w : Nat} {mt : Nat} {mm : Int32} {U : Nat} {L : Nat} (hU : U < 2 ^ 31) (hL : L < 2 ^ 31) (hL0 : 0 < L) (hR : Rt k E (fun (rv_ : Option Value) (rw_ : va_W) => rv_ = none ∧ rw_ = [(h, .inr (0, [.ref w, .ref mt, .int mm, .long (lN (U / Nat.gcd U L)), .long (lN (L / Nat.gcd U L))]))]) 0 0 none) : ∀ (f i a b : Nat), i + f = 1000 → a < 2 ^ 31 → b < 2 ^ 31 → eucF f a b = (Nat.gcd U L, 0) → G k E 0 0 13 [some (.ref h), some (.long (lN a)), none, some (.long (lN b)), none, some (.int (nI i)), none, none] [] [(h, .inr (0, [.ref w, .ref mt, .int mm, .long (lN U), .long (lN L)]))] := by
  have hgp : 0 < Nat.gcd U L := Nat.gcd_pos_of_pos_right _ hL0
  have hgl : Nat.gcd U L ≤ L := Nat.gcd_le_right _ hL0
  intro f
  induction f with
  | zero =>
    intro i a b hi ha hb he
    have e1 : a = Nat.gcd U L := congrArg Prod.fst he
    subst e1
    refine g_iload C dX0_reduce_13 rfl ?_
    refine g_sipush (v := 1000) C dX0_reduce_15 (by decide) ?_
    refine g_icmp_ge (tgt := 43) C dX0_reduce_18 (by decide) (fun c18 => ?_) (fun c18 => ?_)
    · skip
      refine g_lload_n C dX0_reduce_43 rfl ?_
      refine g_lconst (v := 0) C dX0_reduce_44 rfl ?_
      refine g_lcmp C dX0_reduce_45 ?_
      refine g_if_le (tgt := 69) C dX0_reduce_46 (by decide) (fun c46 => ?_) (fun c46 => ?_)
      · skip
        exact absurd ((lN_le (b := 0) (by omega) (by decide)).mp ((lg_cmp_le _ _).mp c46)) (by omega)
      · skip
        refine g_aload_n C dX0_reduce_49 rfl ?_
        refine g_dup C dX0_reduce_50 rfl ?_
        refine g_get C kwX0 0 rfl rfl 3 (by decide) kfX0_28 rfl dX0_reduce_51 ?_
        refine g_lload_n C dX0_reduce_54 rfl ?_
        refine g_ldiv C dX0_reduce_55 (fun q => absurd ((lN_eq (b := 0) (by omega) (by decide)).mp q) (by omega)) ?_
        refine g_topl (v := lN (U / Nat.gcd U L)) (lx_div hU (by omega)) ?_
        refine g_put (ws' := [(h, .inr (0, [.ref w, .ref mt, .int mm, .long (lN (U / Nat.gcd U L)), .long (lN L)]))]) C kwX0 tyX0 tyX0_ok nmX0 0 rfl rfl 3 (by decide) kfX0_28 rfl rfl rfl (Nat.le_of_ble_eq_true rfl) rfl dX0_reduce_56 ?_
        refine g_aload_n C dX0_reduce_59 rfl ?_
        refine g_dup C dX0_reduce_60 rfl ?_
        refine g_get C kwX0 0 rfl rfl 4 (by decide) kfX0_32 rfl dX0_reduce_61 ?_
        refine g_lload_n C dX0_reduce_64 rfl ?_
        refine g_ldiv C dX0_reduce_65 (fun q => absurd ((lN_eq (b := 0) (by omega) (by decide)).mp q) (by omega)) ?_
        refine g_topl (v := lN (L / Nat.gcd U L)) (lx_div hL (by omega)) ?_
        refine g_put (ws' := [(h, .inr (0, [.ref w, .ref mt, .int mm, .long (lN (U / Nat.gcd U L)), .long (lN (L / Nat.gcd U L))]))]) C kwX0 tyX0 tyX0_ok nmX0 0 rfl rfl 4 (by decide) kfX0_32 rfl rfl rfl (Nat.le_of_ble_eq_true rfl) rfl dX0_reduce_66 ?_
        exact g_vret C hR (⟨rfl, rfl⟩) dX0_reduce_69
    · skip
      exact absurd ((nI_leI (a := 1000) (by decide) (by omega)).mpr (by omega)) c18
  | succ f ih =>
    intro i a b hi ha hb he
    unfold eucF at he
    refine g_iload C dX0_reduce_13 rfl ?_
    refine g_sipush (v := 1000) C dX0_reduce_15 (by decide) ?_
    refine g_icmp_ge (tgt := 43) C dX0_reduce_18 (by decide) (fun c18 => ?_) (fun c18 => ?_)
    · skip
      exact absurd ((nI_leI (a := 1000) (by decide) (by omega)).mp c18) (by omega)
    · skip
      refine g_lload_n C dX0_reduce_21 rfl ?_
      refine g_lconst (v := 0) C dX0_reduce_22 rfl ?_
      refine g_lcmp C dX0_reduce_23 ?_
      refine g_if_eq (tgt := 43) C dX0_reduce_24 (by decide) (fun c24 => ?_) (fun c24 => ?_)
      · skip
        have hb0 : b = 0 := (lN_eq hb (by decide)).mp ((lg_cmp_eq _ _).mp c24)
        rw [if_pos hb0] at he
        have e1 : a = Nat.gcd U L := congrArg Prod.fst he
        subst e1
        refine g_lload_n C dX0_reduce_43 rfl ?_
        refine g_lconst (v := 0) C dX0_reduce_44 rfl ?_
        refine g_lcmp C dX0_reduce_45 ?_
        refine g_if_le (tgt := 69) C dX0_reduce_46 (by decide) (fun c46 => ?_) (fun c46 => ?_)
        · skip
          exact absurd ((lN_le (b := 0) (by omega) (by decide)).mp ((lg_cmp_le _ _).mp c46)) (by omega)
        · skip
          refine g_aload_n C dX0_reduce_49 rfl ?_
          refine g_dup C dX0_reduce_50 rfl ?_
          refine g_get C kwX0 0 rfl rfl 3 (by decide) kfX0_28 rfl dX0_reduce_51 ?_
          refine g_lload_n C dX0_reduce_54 rfl ?_
          refine g_ldiv C dX0_reduce_55 (fun q => absurd ((lN_eq (b := 0) (by omega) (by decide)).mp q) (by omega)) ?_
          refine g_topl (v := lN (U / Nat.gcd U L)) (lx_div hU (by omega)) ?_
          refine g_put (ws' := [(h, .inr (0, [.ref w, .ref mt, .int mm, .long (lN (U / Nat.gcd U L)), .long (lN L)]))]) C kwX0 tyX0 tyX0_ok nmX0 0 rfl rfl 3 (by decide) kfX0_28 rfl rfl rfl (Nat.le_of_ble_eq_true rfl) rfl dX0_reduce_56 ?_
          refine g_aload_n C dX0_reduce_59 rfl ?_
          refine g_dup C dX0_reduce_60 rfl ?_
          refine g_get C kwX0 0 rfl rfl 4 (by decide) kfX0_32 rfl dX0_reduce_61 ?_
          refine g_lload_n C dX0_reduce_64 rfl ?_
          refine g_ldiv C dX0_reduce_65 (fun q => absurd ((lN_eq (b := 0) (by omega) (by decide)).mp q) (by omega)) ?_
          refine g_topl (v := lN (L / Nat.gcd U L)) (lx_div hL (by omega)) ?_
          refine g_put (ws' := [(h, .inr (0, [.ref w, .ref mt, .int mm, .long (lN (U / Nat.gcd U L)), .long (lN (L / Nat.gcd U L))]))]) C kwX0 tyX0 tyX0_ok nmX0 0 rfl rfl 4 (by decide) kfX0_32 rfl rfl rfl (Nat.le_of_ble_eq_true rfl) rfl dX0_reduce_66 ?_
          exact g_vret C hR (⟨rfl, rfl⟩) dX0_reduce_69
      · skip
        have hb0 : ¬ b = 0 := fun q => c24 ((lg_cmp_eq _ _).mpr (by rw [q]; rfl))
        rw [if_neg hb0] at he
        refine g_lload_n C dX0_reduce_27 rfl ?_
        refine g_lload_n C dX0_reduce_28 rfl ?_
        refine g_lrem C dX0_reduce_29 (fun q => hb0 ((lN_eq hb (by decide)).mp q)) ?_
        refine g_topl (v := lN (a % b)) (lx_rem ha hb) ?_
        refine g_lstore (lv' := [some (.ref h), some (.long (lN a)), none, some (.long (lN b)), none, some (.int (nI i)), some (.long (lN (a % b))), none]) C dX0_reduce_30 (hnl 7 (by decide)) rfl rfl ?_
        refine g_lload_n C dX0_reduce_32 rfl ?_
        refine g_lstore_n (lv' := [some (.ref h), some (.long (lN b)), none, some (.long (lN b)), none, some (.int (nI i)), some (.long (lN (a % b))), none]) C dX0_reduce_33 (hnl 2 (by decide)) rfl rfl ?_
        refine g_lload C dX0_reduce_34 rfl ?_
        refine g_lstore_n (lv' := [some (.ref h), some (.long (lN b)), none, some (.long (lN (a % b))), none, some (.int (nI i)), some (.long (lN (a % b))), none]) C dX0_reduce_36 (hnl 4 (by decide)) rfl rfl ?_
        refine g_iinc (v := nI (i + 1)) (lv' := [some (.ref h), some (.long (lN b)), none, some (.long (lN (a % b))), none, some (.int (nI (i + 1))), some (.long (lN (a % b))), none]) C dX0_reduce_37 rfl (nI_add _ 1) (hnl 5 (by decide)) rfl rfl ?_
        refine g_goto (tgt := 13) C dX0_reduce_40 (by decide) ?_
        refine g_kill 6 (lv' := [some (.ref h), some (.long (lN b)), none, some (.long (lN (a % b))), none, some (.int (nI (i + 1))), none, none]) rfl ?_
        exact ih (i + 1) b (a % b) (by omega) hb (Nat.lt_trans (Nat.mod_lt a (Nat.pos_of_ne_zero hb0)) hb) he

set_option maxHeartbeats 4000000 in
set_option maxRecDepth 100000 in
theorem c_X0_reduce (l : Launch) (E : EX) (h : Nat) (w : Nat) (mt : Nat) (mm : Int32) (U : Nat) (L : Nat) (hU : U < 2 ^ 31) (hL : L < 2 ^ 31) (hL0 : 0 < L) : Ct l E yX0_reduce cX0_reduce 8 none (rmL 1 0 0) [.ref h] [(h, .inr (0, [.ref w, .ref mt, .int mm, .long (lN U), .long (lN L)]))] (fun (rv_ : Option Value) (rw_ : va_W) => rv_ = none ∧ rw_ = [(h, .inr (0, [.ref w, .ref mt, .int mm, .long (lN (U / Nat.gcd U L)), .long (lN (L / Nat.gcd U L))]))]) 0 0 := by
  refine Ct_of (by decide) (Nat.le_of_ble_eq_true rfl) ?_
  intro k hkl hnl C hR hin_
  subst hkl
  show G k E 0 0 0 [some (.ref h), none, none, none, none, none, none, none] [] [(h, .inr (0, [.ref w, .ref mt, .int mm, .long (lN U), .long (lN L)]))]
  refine g_aload_n C dX0_reduce_0 rfl ?_
  refine g_get C kwX0 0 rfl rfl 4 (by decide) kfX0_32 rfl dX0_reduce_1 ?_
  refine g_lstore_n (lv' := [some (.ref h), some (.long (lN L)), none, none, none, none, none, none]) C dX0_reduce_4 (hnl 2 (by decide)) rfl rfl ?_
  refine g_aload_n C dX0_reduce_5 rfl ?_
  refine g_get C kwX0 0 rfl rfl 3 (by decide) kfX0_28 rfl dX0_reduce_6 ?_
  refine g_lstore_n (lv' := [some (.ref h), some (.long (lN L)), none, some (.long (lN U)), none, none, none, none]) C dX0_reduce_9 (hnl 4 (by decide)) rfl rfl ?_
  refine g_iconst (v := 0) C dX0_reduce_10 (by decide) ?_
  refine g_istore (lv' := [some (.ref h), some (.long (lN L)), none, some (.long (lN U)), none, some (.int 0), none, none]) C dX0_reduce_11 (hnl 5 (by decide)) rfl rfl ?_
  exact lp_X0_reduce C hnl hU hL hL0 hR 1000 0 L U (by omega) hL hU (eucF_1000 hU)
