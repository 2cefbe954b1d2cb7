set_option maxHeartbeats 4000000 in
set_option maxRecDepth 100000 in
theorem c_X1_add (l : Launch) (E : EX) (c : Nat) (s1 : Nat) (s2 : Nat) (s3 : Nat) (s4 : Nat) (s5 : Nat) (s6 : Nat) (w : Nat) (m : Nat) (po : Int32) (e1 : Nat → Int32) (e2 : Nat → Int32) (e3 : Nat → Int32) (x : Int32) (y : Int32) (z0 : Int32) (hm6 : m < 6) : Ct l E yX1_add cX1_add 4 (some .boolean) (rmL 1 0 0) [.ref c, .int x, .int y, .int z0] [(c, .inr (1, [.ref w, .ref s1, .ref s2, .ref s3, .ref s4, .ref s5, .ref s6, .int (nI m), .int po])), aI E s1 6 e1, aI E s2 6 e2, aI E s3 6 e3] (fun (rv_ : Option Value) (rw_ : va_W) => rv_ = some (.int 1) ∧ rw_ = [(c, .inr (1, [.ref w, .ref s1, .ref s2, .ref s3, .ref s4, .ref s5, .ref s6, .int (nI (m + 1)), .int po])), aI E s1 6 (upd e1 m x), aI E s2 6 (upd e2 m y), aI E s3 6 (upd e3 m z0)]) 0 0 := by
  refine Ct_of (by decide) (Nat.le_of_ble_eq_true rfl) ?_
  intro k hkl hnl C hR hin_
  subst hkl
  show G k E 0 0 0 [some (.ref c), some (.int x), some (.int y), some (.int z0)] [] [(c, .inr (1, [.ref w, .ref s1, .ref s2, .ref s3, .ref s4, .ref s5, .ref s6, .int (nI m), .int po])), aI E s1 6 e1, aI E s2 6 e2, aI E s3 6 e3]
  refine g_aload_n C dX1_add_0 rfl ?_
  refine g_get C kwX1 0 rfl rfl 7 (by decide) kfX1_34 rfl dX1_add_1 ?_
  refine g_bipush (v := 6) C dX1_add_4 (by decide) ?_
  refine g_icmp_lt (tgt := 11) C dX1_add_6 (by decide) (fun c6 => ?_) (fun c6 => ?_)
  · skip
    refine g_aload_n C dX1_add_11 rfl ?_
    refine g_get C kwX1 0 rfl rfl 1 (by decide) kfX1_9 rfl dX1_add_12 ?_
    refine g_aload_n C dX1_add_15 rfl ?_
    refine g_get C kwX1 0 rfl rfl 7 (by decide) kfX1_34 rfl dX1_add_16 ?_
    refine g_iload_n C dX1_add_19 rfl ?_
    refine g_iast (ws' := [(c, .inr (1, [.ref w, .ref s1, .ref s2, .ref s3, .ref s4, .ref s5, .ref s6, .int (nI m), .int po])), aI E s1 6 (upd e1 m x), aI E s2 6 e2, aI E s3 6 e3]) C 1 m rfl (rfl) (by omega) (by decide) rfl dX1_add_20 ?_
    refine g_aload_n C dX1_add_21 rfl ?_
    refine g_get C kwX1 0 rfl rfl 2 (by decide) kfX1_15 rfl dX1_add_22 ?_
    refine g_aload_n C dX1_add_25 rfl ?_
    refine g_get C kwX1 0 rfl rfl 7 (by decide) kfX1_34 rfl dX1_add_26 ?_
    refine g_iload_n C dX1_add_29 rfl ?_
    refine g_iast (ws' := [(c, .inr (1, [.ref w, .ref s1, .ref s2, .ref s3, .ref s4, .ref s5, .ref s6, .int (nI m), .int po])), aI E s1 6 (upd e1 m x), aI E s2 6 (upd e2 m y), aI E s3 6 e3]) C 2 m rfl (rfl) (by omega) (by decide) rfl dX1_add_30 ?_
    refine g_aload_n C dX1_add_31 rfl ?_
    refine g_get C kwX1 0 rfl rfl 3 (by decide) kfX1_18 rfl dX1_add_32 ?_
    refine g_aload_n C dX1_add_35 rfl ?_
    refine g_get C kwX1 0 rfl rfl 7 (by decide) kfX1_34 rfl dX1_add_36 ?_
    refine g_iload_n C dX1_add_39 rfl ?_
    refine g_iast (ws' := [(c, .inr (1, [.ref w, .ref s1, .ref s2, .ref s3, .ref s4, .ref s5, .ref s6, .int (nI m), .int po])), aI E s1 6 (upd e1 m x), aI E s2 6 (upd e2 m y), aI E s3 6 (upd e3 m z0)]) C 3 m rfl (rfl) (by omega) (by decide) rfl dX1_add_40 ?_
    refine g_aload_n C dX1_add_41 rfl ?_
    refine g_dup C dX1_add_42 rfl ?_
    refine g_get C kwX1 0 rfl rfl 7 (by decide) kfX1_34 rfl dX1_add_43 ?_
    refine g_iconst (v := 1) C dX1_add_46 (by decide) ?_
    refine g_iadd C dX1_add_47 ?_
    refine g_topi (v := nI (m + 1)) (nI_1 m) ?_
    refine g_put (ws' := [(c, .inr (1, [.ref w, .ref s1, .ref s2, .ref s3, .ref s4, .ref s5, .ref s6, .int (nI (m + 1)), .int po])), aI E s1 6 (upd e1 m x), aI E s2 6 (upd e2 m y), aI E s3 6 (upd e3 m z0)]) C kwX1 tyX1 tyX1_ok nmX1 0 rfl rfl 7 (by decide) kfX1_34 rfl rfl rfl (Nat.le_of_ble_eq_true rfl) rfl dX1_add_48 ?_
    refine g_iconst (v := 1) C dX1_add_51 (by decide) ?_
    exact g_zret C hR (by first | exact Or.inl rfl | exact Or.inr rfl | exact bI01 _) (⟨rfl, rfl⟩) dX1_add_52
  · skip
    exact absurd ((nI_ltI (b := 6) (by omega) (by decide)).mpr hm6) c6

set_option maxHeartbeats 4000000 in
set_option maxRecDepth 100000 in
theorem c_X1_add6 (l : Launch) (E : EX) (c : Nat) (s1 : Nat) (s2 : Nat) (s3 : Nat) (s4 : Nat) (s5 : Nat) (s6 : Nat) (w : Nat) (po : Int32) (x : Int32) (y : Int32) (z0 : Int32) : Ct l E yX1_add cX1_add 4 (some .boolean) (rmL 1 0 0) [.ref c, .int x, .int y, .int z0] [(c, .inr (1, [.ref w, .ref s1, .ref s2, .ref s3, .ref s4, .ref s5, .ref s6, .int (nI 6), .int po]))] (fun (rv_ : Option Value) (rw_ : va_W) => rv_ = some (.int 0) ∧ rw_ = [(c, .inr (1, [.ref w, .ref s1, .ref s2, .ref s3, .ref s4, .ref s5, .ref s6, .int (nI 6), .int po]))]) 0 0 := by
  refine Ct_of (by decide) (Nat.le_of_ble_eq_true rfl) ?_
  intro k hkl hnl C hR hin_
  subst hkl
  show G k E 0 0 0 [some (.ref c), some (.int x), some (.int y), some (.int z0)] [] [(c, .inr (1, [.ref w, .ref s1, .ref s2, .ref s3, .ref s4, .ref s5, .ref s6, .int (nI 6), .int po]))]
  refine g_aload_n C dX1_add_0 rfl ?_
  refine g_get C kwX1 0 rfl rfl 7 (by decide) kfX1_34 rfl dX1_add_1 ?_
  refine g_bipush (v := 6) C dX1_add_4 (by decide) ?_
  refine g_icmp_lt (tgt := 11) C dX1_add_6 (by decide) (fun c6 => ?_) (fun c6 => ?_)
  · skip
    exact absurd c6 (by decide)
  · skip
    refine g_iconst (v := 0) C dX1_add_9 (by decide) ?_
    exact g_zret C hR (by first | exact Or.inl rfl | exact Or.inr rfl | exact bI01 _) (⟨rfl, rfl⟩) dX1_add_10

set_option maxHeartbeats 4000000 in
set_option maxRecDepth 100000 in
theorem lp_X1_explains {k : KX} {E : EX} (C : Cx k E cX1_explains RX1 (rmL 5 0 0)) (hnl : ∀ j : Nat, j < 4 → j < k.nL) {c : Nat} {s1 : Nat} {s2 : Nat} {s3 : Nat} {s4 : Nat} {s5 : Nat} {s6 : Nat} {po : Int32} {m : Nat} {bs : Nat → Nat} {e1 : Nat → Int32} {e2 : Nat → Int32} {e3 : Nat → Int32} {w : Nat} {p : Nat} {wm : Nat} {ph : Nat} {pd : Nat} {pm : Nat} {n : Nat} {lg : Int32} {sf : Int32} {dg : Int32} {hi : Nat → Int32} {de : Nat → Int32} {ma : Nat → Int32} {x : Int32} {y : Int32} {t : Bool} (hn : n ≤ 9) (hm6 : m ≤ 6) (hbs : ∀ j, j < m → e1 j = nI (bs j) ∧ bs j < n) (hR : Rt k E (fun (rv_ : Option Value) (rw_ : va_W) => ∃ (a2 : Int32) (v2 : Int32) (fl2 : Int32) (sl2 : Int32), rv_ = some (.int (bI (t = true))) ∧ rw_ = [(c, .inr (1, [.ref w, .ref s1, .ref s2, .ref s3, .ref s4, .ref s5, .ref s6, .int (nI m), .int po])), aI E s1 6 e1, aI E s2 6 e2, aI E s3 6 e3, (w, .inr (7, [.ref p, .ref wm, .int x, .int y, .int a2, .int v2, .int fl2, .int sl2])), (p, .inr (5, [.ref ph, .ref pd, .ref pm, .int (nI n), .int lg, .int sf, .int dg])), aI E ph 9 hi, aI E pd 9 de, aI E wm 9 ma]) 0 0 (some .boolean)) : ∀ (f i : Nat) (a0 v fl sl : Int32), i + f = m → exB n hi de ma lg bs e2 e3 x y f i = t → G k E 0 0 18 [some (.ref c), some (.int x), some (.int y), some (.int (nI i))] [] [(c, .inr (1, [.ref w, .ref s1, .ref s2, .ref s3, .ref s4, .ref s5, .ref s6, .int (nI m), .int po])), aI E s1 6 e1, aI E s2 6 e2, aI E s3 6 e3, (w, .inr (7, [.ref p, .ref wm, .int x, .int y, .int a0, .int v, .int fl, .int sl])), (p, .inr (5, [.ref ph, .ref pd, .ref pm, .int (nI n), .int lg, .int sf, .int dg])), aI E ph 9 hi, aI E pd 9 de, aI E wm 9 ma] := by
  intro f
  induction f with
  | zero =>
    intro i a0 v fl sl hi_ ht
    refine g_iload_n C dX1_explains_18 rfl ?_
    refine g_aload_n C dX1_explains_19 rfl ?_
    refine g_get C kwX1 0 rfl rfl 7 (by decide) kfX1_34 rfl dX1_explains_20 ?_
    refine g_icmp_ge (tgt := 62) C dX1_explains_23 (by decide) (fun c23 => ?_) (fun c23 => ?_)
    · skip
      refine g_iconst (v := 1) C dX1_explains_62 (by decide) ?_
      exact g_zret C hR (by first | exact Or.inl rfl | exact Or.inr rfl | exact bI01 _) (⟨_, _, _, _, by rw [← ht]; rfl, rfl⟩) dX1_explains_63
    · skip
      exact absurd ((nI_leI (by omega) (by omega)).mpr (by omega)) c23
  | succ f ih =>
    intro i a0 v fl sl hi_ ht
    unfold exB at ht
    have hb := hbs i (by omega)
    refine g_iload_n C dX1_explains_18 rfl ?_
    refine g_aload_n C dX1_explains_19 rfl ?_
    refine g_get C kwX1 0 rfl rfl 7 (by decide) kfX1_34 rfl dX1_explains_20 ?_
    refine g_icmp_ge (tgt := 62) C dX1_explains_23 (by decide) (fun c23 => ?_) (fun c23 => ?_)
    · skip
      exact absurd ((nI_leI (by omega) (by omega)).mp c23) (by omega)
    · skip
      refine g_aload_n C dX1_explains_26 rfl ?_
      refine g_get C kwX1 0 rfl rfl 0 (by decide) kfX1_30 rfl dX1_explains_27 ?_
      refine g_aload_n C dX1_explains_30 rfl ?_
      refine g_get C kwX1 0 rfl rfl 1 (by decide) kfX1_9 rfl dX1_explains_31 ?_
      refine g_iload_n C dX1_explains_34 rfl ?_
      refine g_iald C 1 i rfl (rfl) (by omega) (by decide) dX1_explains_35 ?_
      refine g_topi (v := nI (bs i)) (hb.1) ?_
      refine g_aload_n C dX1_explains_36 rfl ?_
      refine g_get C kwX1 0 rfl rfl 2 (by decide) kfX1_15 rfl dX1_explains_37 ?_
      refine g_iload_n C dX1_explains_40 rfl ?_
      refine g_iald C 2 i rfl (rfl) (by omega) (by decide) dX1_explains_41 ?_
      refine g_callV C (c_X7_run k.l E w p wm x y a0 v fl sl ph pd pm n lg sf dg hi de ma (bs i) (e2 i) (by first | assumption | omega) (by omega)) kmX1_57 kiX7_run ksX7_run knX7 kcX7_run ⟨rfl, rfl⟩ ⟨rfl, kdX7_run⟩ ⟨by decide, by decide⟩ ⟨by decide, by decide⟩ [4, 5, 6, 7, 8] [0, 1, 2, 3] rfl (wr := [(c, .inr (1, [.ref w, .ref s1, .ref s2, .ref s3, .ref s4, .ref s5, .ref s6, .int (nI m), .int po])), aI E s1 6 e1, aI E s2 6 e2, aI E s3 6 e3]) rfl (by decide +kernel) (by decide +kernel) (by decide +kernel) 4 7 rfl rfl rfl (As := [.int (nI (bs i)), .int (e2 i)]) (rest := []) rfl (Nat.le_of_ble_eq_true rfl) dX1_explains_42 (fun rv_ rw_ hp_ => ?_)
      obtain ⟨rfl, rfl⟩ := hp_
      refine g_rep [0, 1, 2, 3, 4, 5, 6, 7, 8] (ws' := [(c, .inr (1, [.ref w, .ref s1, .ref s2, .ref s3, .ref s4, .ref s5, .ref s6, .int (nI m), .int po])), aI E s1 6 e1, aI E s2 6 e2, aI E s3 6 e3, (w, .inr (7, [.ref p, .ref wm, .int x, .int y, .int (nI (runF n hi de ma lg x y 9 (bs i) (e2 i) 0 0).1), .int ((runF n hi de ma lg x y 9 (bs i) (e2 i) 0 0).2.1), .int ((runF n hi de ma lg x y 9 (bs i) (e2 i) 0 0).2.2.2), .int ((runF n hi de ma lg x y 9 (bs i) (e2 i) 0 0).2.2.1)])), (p, .inr (5, [.ref ph, .ref pd, .ref pm, .int (nI n), .int lg, .int sf, .int dg])), aI E ph 9 hi, aI E pd 9 de, aI E wm 9 ma]) (st' := [.int (nI (runF n hi de ma lg x y 9 (bs i) (e2 i) 0 0).1)]) (n' := 0) (z' := 0) (pc' := 45) rfl rfl rfl rfl (by decide +kernel) rfl ?_
      refine g_aload_n C dX1_explains_45 rfl ?_
      refine g_get C kwX1 0 rfl rfl 3 (by decide) kfX1_18 rfl dX1_explains_46 ?_
      refine g_iload_n C dX1_explains_49 rfl ?_
      refine g_iald C 3 i rfl (rfl) (by omega) (by decide) dX1_explains_50 ?_
      refine g_icmp_eq (tgt := 56) C dX1_explains_51 (by decide) (fun c51 => ?_) (fun c51 => ?_)
      · skip
        rw [if_pos c51] at ht
        refine g_iinc (v := nI (i + 1)) (lv' := [some (.ref c), some (.int x), some (.int y), some (.int (nI (i + 1)))]) C dX1_explains_56 rfl (nI_add _ 1) (hnl 3 (by decide)) rfl rfl ?_
        refine g_goto (tgt := 18) C dX1_explains_59 (by decide) ?_
        exact ih (i + 1) _ _ _ _ (by omega) ht
      · skip
        rw [if_neg c51] at ht
        refine g_iconst (v := 0) C dX1_explains_54 (by decide) ?_
        exact g_zret C hR (by first | exact Or.inl rfl | exact Or.inr rfl | exact bI01 _) (⟨_, _, _, _, by rw [← ht]; rfl, rfl⟩) dX1_explains_55

set_option maxHeartbeats 4000000 in
set_option maxRecDepth 100000 in
theorem c_X1_explains (l : Launch) (E : EX) (c : Nat) (s1 : Nat) (s2 : Nat) (s3 : Nat) (s4 : Nat) (s5 : Nat) (s6 : Nat) (po : Int32) (m : Nat) (bs : Nat → Nat) (e1 : Nat → Int32) (e2 : Nat → Int32) (e3 : Nat → Int32) (w : Nat) (p : Nat) (wm : Nat) (st : Int32) (dr : Int32) (a0 : Int32) (v : Int32) (fl : Int32) (sl : Int32) (ph : Nat) (pd : Nat) (pm : Nat) (n : Nat) (lg : Int32) (sf : Int32) (dg : Int32) (hi : Nat → Int32) (de : Nat → Int32) (ma : Nat → Int32) (x : Int32) (y : Int32) (hn : n ≤ 9) (hm6 : m ≤ 6) (hbs : ∀ j, j < m → e1 j = nI (bs j) ∧ bs j < n) : Ct l E yX1_explains cX1_explains 4 (some .boolean) (rmL 5 0 0) [.ref c, .int x, .int y] [(c, .inr (1, [.ref w, .ref s1, .ref s2, .ref s3, .ref s4, .ref s5, .ref s6, .int (nI m), .int po])), aI E s1 6 e1, aI E s2 6 e2, aI E s3 6 e3, (w, .inr (7, [.ref p, .ref wm, .int st, .int dr, .int a0, .int v, .int fl, .int sl])), (p, .inr (5, [.ref ph, .ref pd, .ref pm, .int (nI n), .int lg, .int sf, .int dg])), aI E ph 9 hi, aI E pd 9 de, aI E wm 9 ma] (fun (rv_ : Option Value) (rw_ : va_W) => ∃ (a2 : Int32) (v2 : Int32) (fl2 : Int32) (sl2 : Int32), rv_ = some (.int (bI (exB n hi de ma lg bs e2 e3 x y m 0 = true))) ∧ rw_ = [(c, .inr (1, [.ref w, .ref s1, .ref s2, .ref s3, .ref s4, .ref s5, .ref s6, .int (nI m), .int po])), aI E s1 6 e1, aI E s2 6 e2, aI E s3 6 e3, (w, .inr (7, [.ref p, .ref wm, .int x, .int y, .int a2, .int v2, .int fl2, .int sl2])), (p, .inr (5, [.ref ph, .ref pd, .ref pm, .int (nI n), .int lg, .int sf, .int dg])), aI E ph 9 hi, aI E pd 9 de, aI E wm 9 ma]) 0 0 := by
  refine Ct_of (by decide) (Nat.le_of_ble_eq_true rfl) ?_
  intro k hkl hnl C hR hin_
  subst hkl
  show G k E 0 0 0 [some (.ref c), some (.int x), some (.int y), none] [] [(c, .inr (1, [.ref w, .ref s1, .ref s2, .ref s3, .ref s4, .ref s5, .ref s6, .int (nI m), .int po])), aI E s1 6 e1, aI E s2 6 e2, aI E s3 6 e3, (w, .inr (7, [.ref p, .ref wm, .int st, .int dr, .int a0, .int v, .int fl, .int sl])), (p, .inr (5, [.ref ph, .ref pd, .ref pm, .int (nI n), .int lg, .int sf, .int dg])), aI E ph 9 hi, aI E pd 9 de, aI E wm 9 ma]
  refine g_aload_n C dX1_explains_0 rfl ?_
  refine g_get C kwX1 0 rfl rfl 0 (by decide) kfX1_30 rfl dX1_explains_1 ?_
  refine g_iload_n C dX1_explains_4 rfl ?_
  refine g_put (ws' := [(c, .inr (1, [.ref w, .ref s1, .ref s2, .ref s3, .ref s4, .ref s5, .ref s6, .int (nI m), .int po])), aI E s1 6 e1, aI E s2 6 e2, aI E s3 6 e3, (w, .inr (7, [.ref p, .ref wm, .int x, .int dr, .int a0, .int v, .int fl, .int sl])), (p, .inr (5, [.ref ph, .ref pd, .ref pm, .int (nI n), .int lg, .int sf, .int dg])), aI E ph 9 hi, aI E pd 9 de, aI E wm 9 ma]) C kwX7 tyX7 tyX7_ok nmX7 4 rfl rfl 2 (by decide) kfX1_51 rfl rfl rfl (Nat.le_of_ble_eq_true rfl) rfl dX1_explains_5 ?_
  refine g_aload_n C dX1_explains_8 rfl ?_
  refine g_get C kwX1 0 rfl rfl 0 (by decide) kfX1_30 rfl dX1_explains_9 ?_
  refine g_iload_n C dX1_explains_12 rfl ?_
  refine g_put (ws' := [(c, .inr (1, [.ref w, .ref s1, .ref s2, .ref s3, .ref s4, .ref s5, .ref s6, .int (nI m), .int po])), aI E s1 6 e1, aI E s2 6 e2, aI E s3 6 e3, (w, .inr (7, [.ref p, .ref wm, .int x, .int y, .int a0, .int v, .int fl, .int sl])), (p, .inr (5, [.ref ph, .ref pd, .ref pm, .int (nI n), .int lg, .int sf, .int dg])), aI E ph 9 hi, aI E pd 9 de, aI E wm 9 ma]) C kwX7 tyX7 tyX7_ok nmX7 4 rfl rfl 3 (by decide) kfX1_54 rfl rfl rfl (Nat.le_of_ble_eq_true rfl) rfl dX1_explains_13 ?_
  refine g_iconst (v := 0) C dX1_explains_16 (by decide) ?_
  refine g_istore_n (lv' := [some (.ref c), some (.int x), some (.int y), some (.int 0)]) C dX1_explains_17 (hnl 3 (by decide)) rfl rfl ?_
  exact lp_X1_explains C hnl hn hm6 hbs hR m 0 a0 v fl sl (by omega) rfl

set_option maxHeartbeats 4000000 in
set_option maxRecDepth 100000 in
theorem lpi_X1_fp {k : KX} {E : EX} (C : Cx k E cX1_findPossible RX1 (rmL 6 0 0)) (hnl : ∀ j : Nat, j < 4 → j < k.nL) {c : Nat} {s1 : Nat} {s2 : Nat} {s3 : Nat} {s4 : Nat} {s5 : Nat} {s6 : Nat} {m : Nat} {bs : Nat → Nat} {e1 : Nat → Int32} {e2 : Nat → Int32} {e3 : Nat → Int32} {w : Nat} {p : Nat} {wm : Nat} {ph : Nat} {pd : Nat} {pm : Nat} {n : Nat} {lg : Int32} {sf : Int32} {dg : Int32} {hi : Nat → Int32} {de : Nat → Int32} {o : Nat} {om : Nat} {pl : Int32} {vg : Int32} {fp : Int32} {ma0 : Nat → Int32} {ma : Nat → Int32} (hn : n ≤ 9) (hm6 : m ≤ 6) (hbs : ∀ j, j < m → e1 j = nI (bs j) ∧ bs j < n) {s : Nat} (hs : s < 9) (kout : ∀ (c0 : Nat) (f4 f5 : Nat → Int32) (st dr a0 v fl sl : Int32), wayInv (WW n hi de ma lg bs e2 e3 m) (4 * (s + 1)) c0 f4 f5 → G k E 0 0 73 [some (.ref c), some (.ref o), some (.int (nI (s + 1))), some (.int (nI 4))] [] [(c, .inr (1, [.ref w, .ref s1, .ref s2, .ref s3, .ref s4, .ref s5, .ref s6, .int (nI m), .int (nI c0)])), aI E s1 6 e1, aI E s2 6 e2, aI E s3 6 e3, aI E s4 36 f4, aI E s5 36 f5, (w, .inr (7, [.ref p, .ref wm, .int st, .int dr, .int a0, .int v, .int fl, .int sl])), (p, .inr (5, [.ref ph, .ref pd, .ref pm, .int (nI n), .int lg, .int sf, .int dg])), aI E ph 9 hi, aI E pd 9 de, aI E wm 9 ma, (o, .inr (4, [.ref om, .int pl, .int vg, .int fp])), aI E om 9 ma0]) : ∀ (g d : Nat) (c0 : Nat) (f4 f5 : Nat → Int32) (st dr a0 v fl sl : Int32), d + g = 4 → wayInv (WW n hi de ma lg bs e2 e3 m) (4 * s + d) c0 f4 f5 → G k E 0 0 23 [some (.ref c), some (.ref o), some (.int (nI (s + 1))), some (.int (nI d))] [] [(c, .inr (1, [.ref w, .ref s1, .ref s2, .ref s3, .ref s4, .ref s5, .ref s6, .int (nI m), .int (nI c0)])), aI E s1 6 e1, aI E s2 6 e2, aI E s3 6 e3, aI E s4 36 f4, aI E s5 36 f5, (w, .inr (7, [.ref p, .ref wm, .int st, .int dr, .int a0, .int v, .int fl, .int sl])), (p, .inr (5, [.ref ph, .ref pd, .ref pm, .int (nI n), .int lg, .int sf, .int dg])), aI E ph 9 hi, aI E pd 9 de, aI E wm 9 ma, (o, .inr (4, [.ref om, .int pl, .int vg, .int fp])), aI E om 9 ma0] := by
  intro g
  induction g with
  | zero =>
    intro d c0 f4 f5 st dr a0 v fl sl hd hw
    have e : d = 4 := by omega
    subst e
    refine g_iload_n C dX1_findPossible_23 rfl ?_
    refine g_iconst (v := 3) C dX1_findPossible_24 (by decide) ?_
    refine g_icmp_gt (tgt := 73) C dX1_findPossible_25 (by decide) (fun c25 => ?_) (fun c25 => ?_)
    · skip
      exact kout _ _ _ _ _ _ _ _ _ hw
    · skip
      exact absurd (by decide) c25
  | succ g ih =>
    intro d c0 f4 f5 st dr a0 v fl sl hd hw
    have hc0 := wayL_len (WW n hi de ma lg bs e2 e3 m) (4 * s + d)
    have hc1 := hw.1
    have e8_ : 1 + (4 * s + d) / 4 = s + 1 := by omega
    have e9 : (4 * s + d) % 4 = d := by omega
    have hx : (WW n hi de ma lg bs e2 e3 m) (4 * s + d) = exB n hi de ma lg bs e2 e3 (nI (s + 1)) (nI d) m 0 := by
      show exB n hi de ma lg bs e2 e3 (nI (1 + (4 * s + d) / 4)) (nI ((4 * s + d) % 4)) m 0 = _
      rw [e8_, e9]
    refine g_iload_n C dX1_findPossible_23 rfl ?_
    refine g_iconst (v := 3) C dX1_findPossible_24 (by decide) ?_
    refine g_icmp_gt (tgt := 73) C dX1_findPossible_25 (by decide) (fun c25 => ?_) (fun c25 => ?_)
    · skip
      exact absurd ((nI_ltI (a := 3) (by decide) (by omega)).mp c25) (by omega)
    · skip
      refine g_aload_n C dX1_findPossible_28 rfl ?_
      refine g_iload_n C dX1_findPossible_29 rfl ?_
      refine g_iload_n C dX1_findPossible_30 rfl ?_
      refine g_callV C (c_X1_explains k.l E c s1 s2 s3 s4 s5 s6 (nI c0) m bs e1 e2 e3 w p wm st dr a0 v fl sl ph pd pm n lg sf dg hi de ma (nI (s + 1)) (nI d) (by first | assumption | omega) (by first | assumption | omega) (by first | assumption | omega)) kmX1_47 kiX1_explains ksX1_explains knX1 kcX1_explains ⟨rfl, rfl⟩ ⟨rfl, kdX1_explains⟩ ⟨by decide, by decide⟩ ⟨by decide, by decide⟩ [0, 1, 2, 3, 6, 7, 8, 9, 10] [4, 5, 11, 12] rfl (wr := [aI E s4 36 f4, aI E s5 36 f5, (o, .inr (4, [.ref om, .int pl, .int vg, .int fp])), aI E om 9 ma0]) rfl (by decide +kernel) (by decide +kernel) (by decide +kernel) 0 1 rfl rfl rfl (As := [.int (nI (s + 1)), .int (nI d)]) (rest := []) rfl (Nat.le_of_ble_eq_true rfl) dX1_findPossible_31 (fun rv_ rw_ hp_ => ?_)
      obtain ⟨a2_1, v2_2, fl2_3, sl2_4, rfl, rfl⟩ := hp_
      refine g_rep [4, 5, 6, 7, 0, 1, 8, 9, 10, 11, 12, 2, 3] (ws' := [(c, .inr (1, [.ref w, .ref s1, .ref s2, .ref s3, .ref s4, .ref s5, .ref s6, .int (nI m), .int (nI c0)])), aI E s1 6 e1, aI E s2 6 e2, aI E s3 6 e3, aI E s4 36 f4, aI E s5 36 f5, (w, .inr (7, [.ref p, .ref wm, .int (nI (s + 1)), .int (nI d), .int a2_1, .int v2_2, .int fl2_3, .int sl2_4])), (p, .inr (5, [.ref ph, .ref pd, .ref pm, .int (nI n), .int lg, .int sf, .int dg])), aI E ph 9 hi, aI E pd 9 de, aI E wm 9 ma, (o, .inr (4, [.ref om, .int pl, .int vg, .int fp])), aI E om 9 ma0]) (st' := [.int (bI (exB n hi de ma lg bs e2 e3 (nI (s + 1)) (nI d) m 0 = true))]) (n' := 0) (z' := 0) (pc' := 34) rfl rfl rfl rfl (by decide +kernel) rfl ?_
      refine g_if_eq (tgt := 67) C dX1_findPossible_34 (by decide) (fun c34 => ?_) (fun c34 => ?_)
      · skip
        have hW : ¬ (WW n hi de ma lg bs e2 e3 m) (4 * s + d) = true := by rw [hx]; exact bI_0 c34
        refine g_iinc (v := nI (d + 1)) (lv' := [some (.ref c), some (.ref o), some (.int (nI (s + 1))), some (.int (nI (d + 1)))]) C dX1_findPossible_67 rfl (nI_add _ 1) (hnl 3 (by decide)) rfl rfl ?_
        refine g_goto (tgt := 23) C dX1_findPossible_70 (by decide) ?_
        exact ih (d + 1) _ _ _ _ _ _ _ _ _ (by omega) (wayInv_no hw hW)
      · skip
        have hW : (WW n hi de ma lg bs e2 e3 m) (4 * s + d) = true := by rw [hx]; exact bI_1 c34
        refine g_aload_n C dX1_findPossible_37 rfl ?_
        refine g_get C kwX1 0 rfl rfl 4 (by decide) kfX1_21 rfl dX1_findPossible_38 ?_
        refine g_aload_n C dX1_findPossible_41 rfl ?_
        refine g_get C kwX1 0 rfl rfl 8 (by decide) kfX1_44 rfl dX1_findPossible_42 ?_
        refine g_iload_n C dX1_findPossible_45 rfl ?_
        refine g_iast (ws' := [(c, .inr (1, [.ref w, .ref s1, .ref s2, .ref s3, .ref s4, .ref s5, .ref s6, .int (nI m), .int (nI c0)])), aI E s1 6 e1, aI E s2 6 e2, aI E s3 6 e3, aI E s4 36 (upd f4 c0 (nI (s + 1))), aI E s5 36 f5, (w, .inr (7, [.ref p, .ref wm, .int (nI (s + 1)), .int (nI d), .int a2_1, .int v2_2, .int fl2_3, .int sl2_4])), (p, .inr (5, [.ref ph, .ref pd, .ref pm, .int (nI n), .int lg, .int sf, .int dg])), aI E ph 9 hi, aI E pd 9 de, aI E wm 9 ma, (o, .inr (4, [.ref om, .int pl, .int vg, .int fp])), aI E om 9 ma0]) C 4 c0 rfl (rfl) (by omega) (by decide) rfl dX1_findPossible_46 ?_
        refine g_aload_n C dX1_findPossible_47 rfl ?_
        refine g_get C kwX1 0 rfl rfl 5 (by decide) kfX1_24 rfl dX1_findPossible_48 ?_
        refine g_aload_n C dX1_findPossible_51 rfl ?_
        refine g_get C kwX1 0 rfl rfl 8 (by decide) kfX1_44 rfl dX1_findPossible_52 ?_
        refine g_iload_n C dX1_findPossible_55 rfl ?_
        refine g_iast (ws' := [(c, .inr (1, [.ref w, .ref s1, .ref s2, .ref s3, .ref s4, .ref s5, .ref s6, .int (nI m), .int (nI c0)])), aI E s1 6 e1, aI E s2 6 e2, aI E s3 6 e3, aI E s4 36 (upd f4 c0 (nI (s + 1))), aI E s5 36 (upd f5 c0 (nI d)), (w, .inr (7, [.ref p, .ref wm, .int (nI (s + 1)), .int (nI d), .int a2_1, .int v2_2, .int fl2_3, .int sl2_4])), (p, .inr (5, [.ref ph, .ref pd, .ref pm, .int (nI n), .int lg, .int sf, .int dg])), aI E ph 9 hi, aI E pd 9 de, aI E wm 9 ma, (o, .inr (4, [.ref om, .int pl, .int vg, .int fp])), aI E om 9 ma0]) C 5 c0 rfl (rfl) (by omega) (by decide) rfl dX1_findPossible_56 ?_
        refine g_aload_n C dX1_findPossible_57 rfl ?_
        refine g_dup C dX1_findPossible_58 rfl ?_
        refine g_get C kwX1 0 rfl rfl 8 (by decide) kfX1_44 rfl dX1_findPossible_59 ?_
        refine g_iconst (v := 1) C dX1_findPossible_62 (by decide) ?_
        refine g_iadd C dX1_findPossible_63 ?_
        refine g_topi (v := nI (c0 + 1)) (nI_1 c0) ?_
        refine g_put (ws' := [(c, .inr (1, [.ref w, .ref s1, .ref s2, .ref s3, .ref s4, .ref s5, .ref s6, .int (nI m), .int (nI (c0 + 1))])), aI E s1 6 e1, aI E s2 6 e2, aI E s3 6 e3, aI E s4 36 (upd f4 c0 (nI (s + 1))), aI E s5 36 (upd f5 c0 (nI d)), (w, .inr (7, [.ref p, .ref wm, .int (nI (s + 1)), .int (nI d), .int a2_1, .int v2_2, .int fl2_3, .int sl2_4])), (p, .inr (5, [.ref ph, .ref pd, .ref pm, .int (nI n), .int lg, .int sf, .int dg])), aI E ph 9 hi, aI E pd 9 de, aI E wm 9 ma, (o, .inr (4, [.ref om, .int pl, .int vg, .int fp])), aI E om 9 ma0]) C kwX1 tyX1 tyX1_ok nmX1 0 rfl rfl 8 (by decide) kfX1_44 rfl rfl rfl (Nat.le_of_ble_eq_true rfl) rfl dX1_findPossible_64 ?_
        refine g_iinc (v := nI (d + 1)) (lv' := [some (.ref c), some (.ref o), some (.int (nI (s + 1))), some (.int (nI (d + 1)))]) C dX1_findPossible_67 rfl (nI_add _ 1) (hnl 3 (by decide)) rfl rfl ?_
        refine g_goto (tgt := 23) C dX1_findPossible_70 (by decide) ?_
        have hy := wayInv_yes hw hW
        rw [e8_, e9] at hy
        exact ih (d + 1) _ _ _ _ _ _ _ _ _ (by omega) hy

set_option maxHeartbeats 4000000 in
set_option maxRecDepth 100000 in
theorem lpo_X1_fp {k : KX} {E : EX} (C : Cx k E cX1_findPossible RX1 (rmL 6 0 0)) (hnl : ∀ j : Nat, j < 4 → j < k.nL) {c : Nat} {s1 : Nat} {s2 : Nat} {s3 : Nat} {s4 : Nat} {s5 : Nat} {s6 : Nat} {m : Nat} {bs : Nat → Nat} {e1 : Nat → Int32} {e2 : Nat → Int32} {e3 : Nat → Int32} {w : Nat} {p : Nat} {wm : Nat} {ph : Nat} {pd : Nat} {pm : Nat} {n : Nat} {lg : Int32} {sf : Int32} {dg : Int32} {hi : Nat → Int32} {de : Nat → Int32} {o : Nat} {om : Nat} {pl : Int32} {vg : Int32} {fp : Int32} {ma0 : Nat → Int32} {ma : Nat → Int32} (hn : n ≤ 9) (hm6 : m ≤ 6) (hbs : ∀ j, j < m → e1 j = nI (bs j) ∧ bs j < n) (hR : Rt k E (fun (rv_ : Option Value) (rw_ : va_W) => ∃ (c2 : Nat) (f42 : Nat → Int32) (f52 : Nat → Int32) (st2 : Int32) (dr2 : Int32) (a2 : Int32) (v2 : Int32) (fl2 : Int32) (sl2 : Int32), rv_ = none ∧ rw_ = [(c, .inr (1, [.ref w, .ref s1, .ref s2, .ref s3, .ref s4, .ref s5, .ref s6, .int (nI m), .int (nI c2)])), aI E s1 6 e1, aI E s2 6 e2, aI E s3 6 e3, aI E s4 36 f42, aI E s5 36 f52, (w, .inr (7, [.ref p, .ref wm, .int st2, .int dr2, .int a2, .int v2, .int fl2, .int sl2])), (p, .inr (5, [.ref ph, .ref pd, .ref pm, .int (nI n), .int lg, .int sf, .int dg])), aI E ph 9 hi, aI E pd 9 de, aI E wm 9 ma, (o, .inr (4, [.ref om, .int pl, .int vg, .int fp])), aI E om 9 ma0] ∧ (wayInv (WW n hi de ma lg bs e2 e3 m) 36 c2 f42 f52)) 0 0 none) : ∀ (g s : Nat) (c0 : Nat) (f4 f5 : Nat → Int32) (st dr a0 v fl sl : Int32), s + g = 9 → wayInv (WW n hi de ma lg bs e2 e3 m) (4 * s) c0 f4 f5 → G k E 0 0 15 [some (.ref c), some (.ref o), some (.int (nI (s + 1))), none] [] [(c, .inr (1, [.ref w, .ref s1, .ref s2, .ref s3, .ref s4, .ref s5, .ref s6, .int (nI m), .int (nI c0)])), aI E s1 6 e1, aI E s2 6 e2, aI E s3 6 e3, aI E s4 36 f4, aI E s5 36 f5, (w, .inr (7, [.ref p, .ref wm, .int st, .int dr, .int a0, .int v, .int fl, .int sl])), (p, .inr (5, [.ref ph, .ref pd, .ref pm, .int (nI n), .int lg, .int sf, .int dg])), aI E ph 9 hi, aI E pd 9 de, aI E wm 9 ma, (o, .inr (4, [.ref om, .int pl, .int vg, .int fp])), aI E om 9 ma0] := by
  intro g
  induction g with
  | zero =>
    intro s c0 f4 f5 st dr a0 v fl sl hs hw
    have e : s = 9 := by omega
    subst e
    refine g_iload_n C dX1_findPossible_15 rfl ?_
    refine g_bipush (v := 9) C dX1_findPossible_16 (by decide) ?_
    refine g_icmp_gt (tgt := 79) C dX1_findPossible_18 (by decide) (fun c18 => ?_) (fun c18 => ?_)
    · skip
      exact g_vret C hR (⟨_, _, _, _, _, _, _, _, _, rfl, rfl, hw⟩) dX1_findPossible_79
    · skip
      exact absurd (by decide) c18
  | succ g ih =>
    intro s c0 f4 f5 st dr a0 v fl sl hs hw
    refine g_iload_n C dX1_findPossible_15 rfl ?_
    refine g_bipush (v := 9) C dX1_findPossible_16 (by decide) ?_
    refine g_icmp_gt (tgt := 79) C dX1_findPossible_18 (by decide) (fun c18 => ?_) (fun c18 => ?_)
    · skip
      exact absurd ((nI_ltI (a := 9) (by decide) (by omega)).mp c18) (by omega)
    · skip
      refine g_iconst (v := 0) C dX1_findPossible_21 (by decide) ?_
      refine g_istore_n (lv' := [some (.ref c), some (.ref o), some (.int (nI (s + 1))), some (.int 0)]) C dX1_findPossible_22 (hnl 3 (by decide)) rfl rfl ?_
      refine lpi_X1_fp C hnl hn hm6 hbs (by omega) (fun c0 f4 f5 st dr a0 v fl sl hw => ?_) 4 0 _ _ _ _ _ _ _ _ _ (by omega) hw
      refine g_iinc (v := nI ((s + 1) + 1)) (lv' := [some (.ref c), some (.ref o), some (.int (nI ((s + 1) + 1))), some (.int (nI 4))]) C dX1_findPossible_73 rfl (nI_add _ 1) (hnl 2 (by decide)) rfl rfl ?_
      refine g_goto (tgt := 15) C dX1_findPossible_76 (by decide) ?_
      refine g_kill 3 (lv' := [some (.ref c), some (.ref o), some (.int (nI ((s + 1) + 1))), none]) rfl ?_
      exact ih (s + 1) _ _ _ _ _ _ _ _ _ (by omega) hw

set_option maxHeartbeats 4000000 in
set_option maxRecDepth 100000 in
theorem c_X1_findPossible (l : Launch) (E : EX) (c : Nat) (s1 : Nat) (s2 : Nat) (s3 : Nat) (s4 : Nat) (s5 : Nat) (s6 : Nat) (po : Int32) (m : Nat) (bs : Nat → Nat) (e1 : Nat → Int32) (e2 : Nat → Int32) (e3 : Nat → Int32) (f4 : Nat → Int32) (f5 : Nat → Int32) (w : Nat) (p : Nat) (wm : Nat) (st : Int32) (dr : Int32) (a0 : Int32) (v : Int32) (fl : Int32) (sl : Int32) (ph : Nat) (pd : Nat) (pm : Nat) (n : Nat) (lg : Int32) (sf : Int32) (dg : Int32) (hi : Nat → Int32) (de : Nat → Int32) (wma : Nat → Int32) (o : Nat) (om : Nat) (pl : Int32) (vg : Int32) (fp : Int32) (ma0 : Nat → Int32) (hn : n ≤ 9) (hm6 : m ≤ 6) (hbs : ∀ j, j < m → e1 j = nI (bs j) ∧ bs j < n) : Ct l E yX1_findPossible cX1_findPossible 4 none (rmL 6 0 0) [.ref c, .ref o] [(c, .inr (1, [.ref w, .ref s1, .ref s2, .ref s3, .ref s4, .ref s5, .ref s6, .int (nI m), .int po])), aI E s1 6 e1, aI E s2 6 e2, aI E s3 6 e3, aI E s4 36 f4, aI E s5 36 f5, (w, .inr (7, [.ref p, .ref wm, .int st, .int dr, .int a0, .int v, .int fl, .int sl])), (p, .inr (5, [.ref ph, .ref pd, .ref pm, .int (nI n), .int lg, .int sf, .int dg])), aI E ph 9 hi, aI E pd 9 de, aI E wm 9 wma, (o, .inr (4, [.ref om, .int pl, .int vg, .int fp])), aI E om 9 ma0] (fun (rv_ : Option Value) (rw_ : va_W) => ∃ (c2 : Nat) (f42 : Nat → Int32) (f52 : Nat → Int32) (st2 : Int32) (dr2 : Int32) (a2 : Int32) (v2 : Int32) (fl2 : Int32) (sl2 : Int32), rv_ = none ∧ rw_ = [(c, .inr (1, [.ref w, .ref s1, .ref s2, .ref s3, .ref s4, .ref s5, .ref s6, .int (nI m), .int (nI c2)])), aI E s1 6 e1, aI E s2 6 e2, aI E s3 6 e3, aI E s4 36 f42, aI E s5 36 f52, (w, .inr (7, [.ref p, .ref wm, .int st2, .int dr2, .int a2, .int v2, .int fl2, .int sl2])), (p, .inr (5, [.ref ph, .ref pd, .ref pm, .int (nI n), .int lg, .int sf, .int dg])), aI E ph 9 hi, aI E pd 9 de, aI E wm 9 (va_cpy ma0 wma 0 0 9), (o, .inr (4, [.ref om, .int pl, .int vg, .int fp])), aI E om 9 ma0] ∧ (wayInv (WW n hi de (va_cpy ma0 wma 0 0 9) lg bs e2 e3 m) 36 c2 f42 f52)) 0 0 := by
  refine Ct_of (by decide) (Nat.le_of_ble_eq_true rfl) ?_
  intro k hkl hnl C hR hin_
  subst hkl
  show G k E 0 0 0 [some (.ref c), some (.ref o), none, none] [] [(c, .inr (1, [.ref w, .ref s1, .ref s2, .ref s3, .ref s4, .ref s5, .ref s6, .int (nI m), .int po])), aI E s1 6 e1, aI E s2 6 e2, aI E s3 6 e3, aI E s4 36 f4, aI E s5 36 f5, (w, .inr (7, [.ref p, .ref wm, .int st, .int dr, .int a0, .int v, .int fl, .int sl])), (p, .inr (5, [.ref ph, .ref pd, .ref pm, .int (nI n), .int lg, .int sf, .int dg])), aI E ph 9 hi, aI E pd 9 de, aI E wm 9 wma, (o, .inr (4, [.ref om, .int pl, .int vg, .int fp])), aI E om 9 ma0]
  refine g_aload_n C dX1_findPossible_0 rfl ?_
  refine g_get C kwX1 0 rfl rfl 0 (by decide) kfX1_30 rfl dX1_findPossible_1 ?_
  refine g_aload_n C dX1_findPossible_4 rfl ?_
  refine g_callV C (c_X7_prepare k.l E w p wm st dr a0 v fl sl ph pd pm (nI n) lg sf dg o om pl vg fp ma0 wma) kmX1_38 kiX7_prepare ksX7_prepare knX7 kcX7_prepare ⟨rfl, rfl⟩ ⟨rfl, kdX7_prepare⟩ ⟨by decide, by decide⟩ ⟨by decide, by decide⟩ [6, 10, 7, 11, 12] [0, 1, 2, 3, 4, 5, 8, 9] rfl (wr := [(c, .inr (1, [.ref w, .ref s1, .ref s2, .ref s3, .ref s4, .ref s5, .ref s6, .int (nI m), .int po])), aI E s1 6 e1, aI E s2 6 e2, aI E s3 6 e3, aI E s4 36 f4, aI E s5 36 f5, aI E ph 9 hi, aI E pd 9 de]) rfl (by decide +kernel) (by decide +kernel) (by decide +kernel) 6 7 rfl rfl rfl (As := [.ref o]) (rest := []) rfl (Nat.le_of_ble_eq_true rfl) dX1_findPossible_5 (fun rv_ rw_ hp_ => ?_)
  obtain ⟨rfl, rfl⟩ := hp_
  refine g_rep [0, 1, 2, 3, 4, 5, 8, 10, 6, 7, 9, 11, 12] (ws' := [(c, .inr (1, [.ref w, .ref s1, .ref s2, .ref s3, .ref s4, .ref s5, .ref s6, .int (nI m), .int po])), aI E s1 6 e1, aI E s2 6 e2, aI E s3 6 e3, aI E s4 36 f4, aI E s5 36 f5, (w, .inr (7, [.ref p, .ref wm, .int sf, .int dg, .int a0, .int v, .int fl, .int sl])), (p, .inr (5, [.ref ph, .ref pd, .ref pm, .int (nI n), .int lg, .int sf, .int dg])), aI E ph 9 hi, aI E pd 9 de, aI E wm 9 (va_cpy ma0 wma 0 0 9), (o, .inr (4, [.ref om, .int pl, .int vg, .int fp])), aI E om 9 ma0]) (st' := []) (n' := 0) (z' := 0) (pc' := 8) rfl rfl rfl rfl (by decide +kernel) rfl ?_
  refine g_aload_n C dX1_findPossible_8 rfl ?_
  refine g_iconst (v := 0) C dX1_findPossible_9 (by decide) ?_
  refine g_put (ws' := [(c, .inr (1, [.ref w, .ref s1, .ref s2, .ref s3, .ref s4, .ref s5, .ref s6, .int (nI m), .int 0])), aI E s1 6 e1, aI E s2 6 e2, aI E s3 6 e3, aI E s4 36 f4, aI E s5 36 f5, (w, .inr (7, [.ref p, .ref wm, .int sf, .int dg, .int a0, .int v, .int fl, .int sl])), (p, .inr (5, [.ref ph, .ref pd, .ref pm, .int (nI n), .int lg, .int sf, .int dg])), aI E ph 9 hi, aI E pd 9 de, aI E wm 9 (va_cpy ma0 wma 0 0 9), (o, .inr (4, [.ref om, .int pl, .int vg, .int fp])), aI E om 9 ma0]) C kwX1 tyX1 tyX1_ok nmX1 0 rfl rfl 8 (by decide) kfX1_44 rfl rfl rfl (Nat.le_of_ble_eq_true rfl) rfl dX1_findPossible_10 ?_
  refine g_iconst (v := 1) C dX1_findPossible_13 (by decide) ?_
  refine g_istore_n (lv' := [some (.ref c), some (.ref o), some (.int 1), none]) C dX1_findPossible_14 (hnl 2 (by decide)) rfl rfl ?_
  exact lpo_X1_fp C hnl hn hm6 hbs hR 9 0 0 f4 f5 sf dg a0 v fl sl (by omega) (wayInv_0 _ _ _)

set_option maxHeartbeats 4000000 in
set_option maxRecDepth 100000 in
theorem lp_X1_most {k : KX} {E : EX} (C : Cx k E cX1_mostAtOnePlace RX1 (rmL 5 0 0)) (hnl : ∀ j : Nat, j < 6 → j < k.nL) {c : Nat} {s1 : Nat} {s2 : Nat} {s3 : Nat} {s4 : Nat} {s5 : Nat} {s6 : Nat} {w : Nat} {m0 : Int32} {c0 : Nat} {f4 : Nat → Int32} {f5 : Nat → Int32} {p : Nat} {wm : Nat} {ph : Nat} {pd : Nat} {pm : Nat} {n : Nat} {lg : Int32} {sf : Int32} {dg : Int32} {hi : Nat → Int32} {de : Nat → Int32} {ma : Nat → Int32} {W : Nat → Bool} {a : Nat} {y : Int32} (hn : n ≤ 9) (ha : a ≤ n) (hw : wayInv W 36 c0 f4 f5) (hR : Rt k E (fun (rv_ : Option Value) (rw_ : va_W) => ∃ (f62 : Nat → Int32) (st2 : Int32) (dr2 : Int32) (a2 : Int32) (v2 : Int32) (fl2 : Int32) (sl2 : Int32), rv_ = some (.int (nI (mostG (plF n hi de ma lg W a y) c0).2)) ∧ rw_ = [(c, .inr (1, [.ref w, .ref s1, .ref s2, .ref s3, .ref s4, .ref s5, .ref s6, .int m0, .int (nI c0)])), aI E s4 36 f4, aI E s5 36 f5, aI E s6 10 f62, (w, .inr (7, [.ref p, .ref wm, .int st2, .int dr2, .int a2, .int v2, .int fl2, .int sl2])), (p, .inr (5, [.ref ph, .ref pd, .ref pm, .int (nI n), .int lg, .int sf, .int dg])), aI E ph 9 hi, aI E pd 9 de, aI E wm 9 ma]) 0 0 (some .int)) : ∀ (g i : Nat) (f6 : Nat → Int32) (st dr a0 v fl sl : Int32), i + g = c0 → (∀ p, p ≤ n → f6 p = nI ((mostG (plF n hi de ma lg W a y) i).1 p)) → G k E 0 0 13 [some (.ref c), some (.int (nI a)), some (.int y), some (.int (nI (mostG (plF n hi de ma lg W a y) i).2)), some (.int (nI i)), none] [] [(c, .inr (1, [.ref w, .ref s1, .ref s2, .ref s3, .ref s4, .ref s5, .ref s6, .int m0, .int (nI c0)])), aI E s4 36 f4, aI E s5 36 f5, aI E s6 10 f6, (w, .inr (7, [.ref p, .ref wm, .int st, .int dr, .int a0, .int v, .int fl, .int sl])), (p, .inr (5, [.ref ph, .ref pd, .ref pm, .int (nI n), .int lg, .int sf, .int dg])), aI E ph 9 hi, aI E pd 9 de, aI E wm 9 ma] := by
  have hc36 : c0 ≤ 36 := by rw [hw.1]; exact wayL_len W 36
  intro g
  induction g with
  | zero =>
    intro i f6 st dr a0 v fl sl hi_ h6
    have e : i = c0 := by omega
    subst e
    refine g_iload C dX1_mostAtOnePlace_13 rfl ?_
    refine g_aload_n C dX1_mostAtOnePlace_15 rfl ?_
    refine g_get C kwX1 0 rfl rfl 8 (by decide) kfX1_44 rfl dX1_mostAtOnePlace_16 ?_
    refine g_icmp_ge (tgt := 90) C dX1_mostAtOnePlace_19 (by decide) (fun c19 => ?_) (fun c19 => ?_)
    · skip
      refine g_iload_n C dX1_mostAtOnePlace_90 rfl ?_
      exact g_iret C hR (⟨_, _, _, _, _, _, _, rfl, rfl⟩) dX1_mostAtOnePlace_91
    · skip
      exact absurd (Int32.le_refl _) c19
  | succ g ih =>
    intro i f6 st dr a0 v fl sl hi_ h6
    have hwi := hw.2 i (by omega)
    have hr := runF_le (n := n) (hi := hi) (de := de) (ma := ma) (lg := lg) (st := nI (1 + (wayL W 36).getD i 0 / 4)) (dr := nI ((wayL W 36).getD i 0 % 4)) 9 a y 0 0 ha
    have hml := mostG_le (plF n hi de ma lg W a y) i
    refine g_iload C dX1_mostAtOnePlace_13 rfl ?_
    refine g_aload_n C dX1_mostAtOnePlace_15 rfl ?_
    refine g_get C kwX1 0 rfl rfl 8 (by decide) kfX1_44 rfl dX1_mostAtOnePlace_16 ?_
    refine g_icmp_ge (tgt := 90) C dX1_mostAtOnePlace_19 (by decide) (fun c19 => ?_) (fun c19 => ?_)
    · skip
      exact absurd ((nI_leI (by omega) (by omega)).mp c19) (by omega)
    · skip
      refine g_aload_n C dX1_mostAtOnePlace_22 rfl ?_
      refine g_get C kwX1 0 rfl rfl 0 (by decide) kfX1_30 rfl dX1_mostAtOnePlace_23 ?_
      refine g_aload_n C dX1_mostAtOnePlace_26 rfl ?_
      refine g_get C kwX1 0 rfl rfl 4 (by decide) kfX1_21 rfl dX1_mostAtOnePlace_27 ?_
      refine g_iload C dX1_mostAtOnePlace_30 rfl ?_
      refine g_iald C 1 i rfl (rfl) (by omega) (by decide) dX1_mostAtOnePlace_32 ?_
      refine g_topi (v := nI (1 + (wayL W 36).getD i 0 / 4)) (hwi.1) ?_
      refine g_put (ws' := [(c, .inr (1, [.ref w, .ref s1, .ref s2, .ref s3, .ref s4, .ref s5, .ref s6, .int m0, .int (nI c0)])), aI E s4 36 f4, aI E s5 36 f5, aI E s6 10 f6, (w, .inr (7, [.ref p, .ref wm, .int (nI (1 + (wayL W 36).getD i 0 / 4)), .int dr, .int a0, .int v, .int fl, .int sl])), (p, .inr (5, [.ref ph, .ref pd, .ref pm, .int (nI n), .int lg, .int sf, .int dg])), aI E ph 9 hi, aI E pd 9 de, aI E wm 9 ma]) C kwX7 tyX7 tyX7_ok nmX7 4 rfl rfl 2 (by decide) kfX1_51 rfl rfl rfl (Nat.le_of_ble_eq_true rfl) rfl dX1_mostAtOnePlace_33 ?_
      refine g_aload_n C dX1_mostAtOnePlace_36 rfl ?_
      refine g_get C kwX1 0 rfl rfl 0 (by decide) kfX1_30 rfl dX1_mostAtOnePlace_37 ?_
      refine g_aload_n C dX1_mostAtOnePlace_40 rfl ?_
      refine g_get C kwX1 0 rfl rfl 5 (by decide) kfX1_24 rfl dX1_mostAtOnePlace_41 ?_
      refine g_iload C dX1_mostAtOnePlace_44 rfl ?_
      refine g_iald C 2 i rfl (rfl) (by omega) (by decide) dX1_mostAtOnePlace_46 ?_
      refine g_topi (v := nI ((wayL W 36).getD i 0 % 4)) (hwi.2) ?_
      refine g_put (ws' := [(c, .inr (1, [.ref w, .ref s1, .ref s2, .ref s3, .ref s4, .ref s5, .ref s6, .int m0, .int (nI c0)])), aI E s4 36 f4, aI E s5 36 f5, aI E s6 10 f6, (w, .inr (7, [.ref p, .ref wm, .int (nI (1 + (wayL W 36).getD i 0 / 4)), .int (nI ((wayL W 36).getD i 0 % 4)), .int a0, .int v, .int fl, .int sl])), (p, .inr (5, [.ref ph, .ref pd, .ref pm, .int (nI n), .int lg, .int sf, .int dg])), aI E ph 9 hi, aI E pd 9 de, aI E wm 9 ma]) C kwX7 tyX7 tyX7_ok nmX7 4 rfl rfl 3 (by decide) kfX1_54 rfl rfl rfl (Nat.le_of_ble_eq_true rfl) rfl dX1_mostAtOnePlace_47 ?_
      refine g_aload_n C dX1_mostAtOnePlace_50 rfl ?_
      refine g_get C kwX1 0 rfl rfl 0 (by decide) kfX1_30 rfl dX1_mostAtOnePlace_51 ?_
      refine g_iload_n C dX1_mostAtOnePlace_54 rfl ?_
      refine g_iload_n C dX1_mostAtOnePlace_55 rfl ?_
      refine g_callV C (c_X7_run k.l E w p wm (nI (1 + (wayL W 36).getD i 0 / 4)) (nI ((wayL W 36).getD i 0 % 4)) a0 v fl sl ph pd pm n lg sf dg hi de ma a y (by first | assumption | omega) (by first | assumption | omega)) kmX1_57 kiX7_run ksX7_run knX7 kcX7_run ⟨rfl, rfl⟩ ⟨rfl, kdX7_run⟩ ⟨by decide, by decide⟩ ⟨by decide, by decide⟩ [4, 5, 6, 7, 8] [0, 1, 2, 3] rfl (wr := [(c, .inr (1, [.ref w, .ref s1, .ref s2, .ref s3, .ref s4, .ref s5, .ref s6, .int m0, .int (nI c0)])), aI E s4 36 f4, aI E s5 36 f5, aI E s6 10 f6]) rfl (by decide +kernel) (by decide +kernel) (by decide +kernel) 4 7 rfl rfl rfl (As := [.int (nI a), .int y]) (rest := []) rfl (Nat.le_of_ble_eq_true rfl) dX1_mostAtOnePlace_56 (fun rv_ rw_ hp_ => ?_)
      obtain ⟨rfl, rfl⟩ := hp_
      refine g_rep [0, 1, 2, 3, 4, 5, 6, 7, 8] (ws' := [(c, .inr (1, [.ref w, .ref s1, .ref s2, .ref s3, .ref s4, .ref s5, .ref s6, .int m0, .int (nI c0)])), aI E s4 36 f4, aI E s5 36 f5, aI E s6 10 f6, (w, .inr (7, [.ref p, .ref wm, .int (nI (1 + (wayL W 36).getD i 0 / 4)), .int (nI ((wayL W 36).getD i 0 % 4)), .int (nI (runF n hi de ma lg (nI (1 + (wayL W 36).getD i 0 / 4)) (nI ((wayL W 36).getD i 0 % 4)) 9 a y 0 0).1), .int ((runF n hi de ma lg (nI (1 + (wayL W 36).getD i 0 / 4)) (nI ((wayL W 36).getD i 0 % 4)) 9 a y 0 0).2.1), .int ((runF n hi de ma lg (nI (1 + (wayL W 36).getD i 0 / 4)) (nI ((wayL W 36).getD i 0 % 4)) 9 a y 0 0).2.2.2), .int ((runF n hi de ma lg (nI (1 + (wayL W 36).getD i 0 / 4)) (nI ((wayL W 36).getD i 0 % 4)) 9 a y 0 0).2.2.1)])), (p, .inr (5, [.ref ph, .ref pd, .ref pm, .int (nI n), .int lg, .int sf, .int dg])), aI E ph 9 hi, aI E pd 9 de, aI E wm 9 ma]) (st' := [.int (nI (runF n hi de ma lg (nI (1 + (wayL W 36).getD i 0 / 4)) (nI ((wayL W 36).getD i 0 % 4)) 9 a y 0 0).1)]) (n' := 0) (z' := 0) (pc' := 59) rfl rfl rfl rfl (by decide +kernel) rfl ?_
      refine g_istore (lv' := [some (.ref c), some (.int (nI a)), some (.int y), some (.int (nI (mostG (plF n hi de ma lg W a y) i).2)), some (.int (nI i)), some (.int (nI (runF n hi de ma lg (nI (1 + (wayL W 36).getD i 0 / 4)) (nI ((wayL W 36).getD i 0 % 4)) 9 a y 0 0).1))]) C dX1_mostAtOnePlace_59 (hnl 5 (by decide)) rfl rfl ?_
      refine g_aload_n C dX1_mostAtOnePlace_61 rfl ?_
      refine g_get C kwX1 0 rfl rfl 6 (by decide) kfX1_27 rfl dX1_mostAtOnePlace_62 ?_
      refine g_iload C dX1_mostAtOnePlace_65 rfl ?_
      refine g_dup2 C dX1_mostAtOnePlace_67 rfl rfl ?_
      refine g_iald C 3 ((runF n hi de ma lg (nI (1 + (wayL W 36).getD i 0 / 4)) (nI ((wayL W 36).getD i 0 % 4)) 9 a y 0 0).1) rfl (rfl) (by omega) (by decide) dX1_mostAtOnePlace_68 ?_
      refine g_topi (v := nI ((mostG (plF n hi de ma lg W a y) i).1 (runF n hi de ma lg (nI (1 + (wayL W 36).getD i 0 / 4)) (nI ((wayL W 36).getD i 0 % 4)) 9 a y 0 0).1)) (h6 _ hr) ?_
      refine g_iconst (v := 1) C dX1_mostAtOnePlace_69 (by decide) ?_
      refine g_iadd C dX1_mostAtOnePlace_70 ?_
      refine g_topi (v := nI ((mostG (plF n hi de ma lg W a y) i).1 (runF n hi de ma lg (nI (1 + (wayL W 36).getD i 0 / 4)) (nI ((wayL W 36).getD i 0 % 4)) 9 a y 0 0).1 + 1)) (nI_1 _) ?_
      refine g_iast (ws' := [(c, .inr (1, [.ref w, .ref s1, .ref s2, .ref s3, .ref s4, .ref s5, .ref s6, .int m0, .int (nI c0)])), aI E s4 36 f4, aI E s5 36 f5, aI E s6 10 (upd f6 ((runF n hi de ma lg (nI (1 + (wayL W 36).getD i 0 / 4)) (nI ((wayL W 36).getD i 0 % 4)) 9 a y 0 0).1) (nI ((mostG (plF n hi de ma lg W a y) i).1 (runF n hi de ma lg (nI (1 + (wayL W 36).getD i 0 / 4)) (nI ((wayL W 36).getD i 0 % 4)) 9 a y 0 0).1 + 1))), (w, .inr (7, [.ref p, .ref wm, .int (nI (1 + (wayL W 36).getD i 0 / 4)), .int (nI ((wayL W 36).getD i 0 % 4)), .int (nI (runF n hi de ma lg (nI (1 + (wayL W 36).getD i 0 / 4)) (nI ((wayL W 36).getD i 0 % 4)) 9 a y 0 0).1), .int ((runF n hi de ma lg (nI (1 + (wayL W 36).getD i 0 / 4)) (nI ((wayL W 36).getD i 0 % 4)) 9 a y 0 0).2.1), .int ((runF n hi de ma lg (nI (1 + (wayL W 36).getD i 0 / 4)) (nI ((wayL W 36).getD i 0 % 4)) 9 a y 0 0).2.2.2), .int ((runF n hi de ma lg (nI (1 + (wayL W 36).getD i 0 / 4)) (nI ((wayL W 36).getD i 0 % 4)) 9 a y 0 0).2.2.1)])), (p, .inr (5, [.ref ph, .ref pd, .ref pm, .int (nI n), .int lg, .int sf, .int dg])), aI E ph 9 hi, aI E pd 9 de, aI E wm 9 ma]) C 3 ((runF n hi de ma lg (nI (1 + (wayL W 36).getD i 0 / 4)) (nI ((wayL W 36).getD i 0 % 4)) 9 a y 0 0).1) rfl (rfl) (by omega) (by decide) rfl dX1_mostAtOnePlace_71 ?_
      refine g_iload_n C dX1_mostAtOnePlace_72 rfl ?_
      refine g_aload_n C dX1_mostAtOnePlace_73 rfl ?_
      refine g_get C kwX1 0 rfl rfl 6 (by decide) kfX1_27 rfl dX1_mostAtOnePlace_74 ?_
      refine g_iload C dX1_mostAtOnePlace_77 rfl ?_
      refine g_iald C 3 ((runF n hi de ma lg (nI (1 + (wayL W 36).getD i 0 / 4)) (nI ((wayL W 36).getD i 0 % 4)) 9 a y 0 0).1) rfl (rfl) (by omega) (by decide) dX1_mostAtOnePlace_79 ?_
      refine g_topi (v := nI ((mostG (plF n hi de ma lg W a y) i).1 (runF n hi de ma lg (nI (1 + (wayL W 36).getD i 0 / 4)) (nI ((wayL W 36).getD i 0 % 4)) 9 a y 0 0).1 + 1)) (upd_self _ _ _) ?_
      refine g_max C kmX1_70 (by decide) (Nat.le_of_ble_eq_true rfl) ⟨by decide, by decide⟩ dX1_mostAtOnePlace_80 ?_
      refine g_topi (v := nI (mostG (plF n hi de ma lg W a y) (i + 1)).2) (by rw [nI_max (by omega) (by have := hml.1 (runF n hi de ma lg (nI (1 + (wayL W 36).getD i 0 / 4)) (nI ((wayL W 36).getD i 0 % 4)) 9 a y 0 0).1; omega), mostG_2 (r := (runF n hi de ma lg (nI (1 + (wayL W 36).getD i 0 / 4)) (nI ((wayL W 36).getD i 0 % 4)) 9 a y 0 0).1) rfl]) ?_
      refine g_istore_n (lv' := [some (.ref c), some (.int (nI a)), some (.int y), some (.int (nI (mostG (plF n hi de ma lg W a y) (i + 1)).2)), some (.int (nI i)), some (.int (nI (runF n hi de ma lg (nI (1 + (wayL W 36).getD i 0 / 4)) (nI ((wayL W 36).getD i 0 % 4)) 9 a y 0 0).1))]) C dX1_mostAtOnePlace_83 (hnl 3 (by decide)) rfl rfl ?_
      refine g_iinc (v := nI (i + 1)) (lv' := [some (.ref c), some (.int (nI a)), some (.int y), some (.int (nI (mostG (plF n hi de ma lg W a y) (i + 1)).2)), some (.int (nI (i + 1))), some (.int (nI (runF n hi de ma lg (nI (1 + (wayL W 36).getD i 0 / 4)) (nI ((wayL W 36).getD i 0 % 4)) 9 a y 0 0).1))]) C dX1_mostAtOnePlace_84 rfl (nI_add _ 1) (hnl 4 (by decide)) rfl rfl ?_
      refine g_goto (tgt := 13) C dX1_mostAtOnePlace_87 (by decide) ?_
      refine g_kill 5 (lv' := [some (.ref c), some (.int (nI a)), some (.int y), some (.int (nI (mostG (plF n hi de ma lg W a y) (i + 1)).2)), some (.int (nI (i + 1))), none]) rfl ?_
      exact ih (i + 1) _ _ _ _ _ _ _ (by omega) (mostG_step rfl h6)

set_option maxHeartbeats 4000000 in
set_option maxRecDepth 100000 in
theorem c_X1_mostAtOnePlace (l : Launch) (E : EX) (c : Nat) (s1 : Nat) (s2 : Nat) (s3 : Nat) (s4 : Nat) (s5 : Nat) (s6 : Nat) (w : Nat) (m0 : Int32) (c0 : Nat) (f4 : Nat → Int32) (f5 : Nat → Int32) (f6 : Nat → Int32) (p : Nat) (wm : Nat) (st : Int32) (dr : Int32) (a0 : Int32) (v : Int32) (fl : Int32) (sl : Int32) (ph : Nat) (pd : Nat) (pm : Nat) (n : Nat) (lg : Int32) (sf : Int32) (dg : Int32) (hi : Nat → Int32) (de : Nat → Int32) (ma : Nat → Int32) (W : Nat → Bool) (a : Nat) (y : Int32) (hn : n ≤ 9) (ha : a ≤ n) (hw : wayInv W 36 c0 f4 f5) : Ct l E yX1_mostAtOnePlace cX1_mostAtOnePlace 6 (some .int) (rmL 5 0 0) [.ref c, .int (nI a), .int y] [(c, .inr (1, [.ref w, .ref s1, .ref s2, .ref s3, .ref s4, .ref s5, .ref s6, .int m0, .int (nI c0)])), aI E s4 36 f4, aI E s5 36 f5, aI E s6 10 f6, (w, .inr (7, [.ref p, .ref wm, .int st, .int dr, .int a0, .int v, .int fl, .int sl])), (p, .inr (5, [.ref ph, .ref pd, .ref pm, .int (nI n), .int lg, .int sf, .int dg])), aI E ph 9 hi, aI E pd 9 de, aI E wm 9 ma] (fun (rv_ : Option Value) (rw_ : va_W) => ∃ (f62 : Nat → Int32) (st2 : Int32) (dr2 : Int32) (a2 : Int32) (v2 : Int32) (fl2 : Int32) (sl2 : Int32), rv_ = some (.int (nI (mostG (plF n hi de ma lg W a y) c0).2)) ∧ rw_ = [(c, .inr (1, [.ref w, .ref s1, .ref s2, .ref s3, .ref s4, .ref s5, .ref s6, .int m0, .int (nI c0)])), aI E s4 36 f4, aI E s5 36 f5, aI E s6 10 f62, (w, .inr (7, [.ref p, .ref wm, .int st2, .int dr2, .int a2, .int v2, .int fl2, .int sl2])), (p, .inr (5, [.ref ph, .ref pd, .ref pm, .int (nI n), .int lg, .int sf, .int dg])), aI E ph 9 hi, aI E pd 9 de, aI E wm 9 ma]) 0 0 := by
  refine Ct_of (by decide) (Nat.le_of_ble_eq_true rfl) ?_
  intro k hkl hnl C hR hin_
  subst hkl
  show G k E 0 0 0 [some (.ref c), some (.int (nI a)), some (.int y), none, none, none] [] [(c, .inr (1, [.ref w, .ref s1, .ref s2, .ref s3, .ref s4, .ref s5, .ref s6, .int m0, .int (nI c0)])), aI E s4 36 f4, aI E s5 36 f5, aI E s6 10 f6, (w, .inr (7, [.ref p, .ref wm, .int st, .int dr, .int a0, .int v, .int fl, .int sl])), (p, .inr (5, [.ref ph, .ref pd, .ref pm, .int (nI n), .int lg, .int sf, .int dg])), aI E ph 9 hi, aI E pd 9 de, aI E wm 9 ma]
  refine g_aload_n C dX1_mostAtOnePlace_0 rfl ?_
  refine g_get C kwX1 0 rfl rfl 6 (by decide) kfX1_27 rfl dX1_mostAtOnePlace_1 ?_
  refine g_iconst (v := 0) C dX1_mostAtOnePlace_4 (by decide) ?_
  refine g_callS C (c_J7_fill k.l E s6 10 f6 0 (by decide)) kmX1_64 ktJ7_fill knJ7 kcJ7_fill ⟨rfl, rfl⟩ kdJ7_fill ⟨by decide, by decide⟩ ⟨by decide, by decide⟩ [3] [0, 1, 2, 4, 5, 6, 7, 8] rfl (wr := [(c, .inr (1, [.ref w, .ref s1, .ref s2, .ref s3, .ref s4, .ref s5, .ref s6, .int m0, .int (nI c0)])), aI E s4 36 f4, aI E s5 36 f5, (w, .inr (7, [.ref p, .ref wm, .int st, .int dr, .int a0, .int v, .int fl, .int sl])), (p, .inr (5, [.ref ph, .ref pd, .ref pm, .int (nI n), .int lg, .int sf, .int dg])), aI E ph 9 hi, aI E pd 9 de, aI E wm 9 ma]) rfl (by decide +kernel) (by decide +kernel) (by decide +kernel) rfl (As := [.ref s6, .int 0]) (rest := []) rfl (Nat.le_of_ble_eq_true rfl) dX1_mostAtOnePlace_5 (fun rv_ rw_ hp_ => ?_)
  obtain ⟨rfl, rfl⟩ := hp_
  refine g_rep [0, 1, 2, 8, 3, 4, 5, 6, 7] (ws' := [(c, .inr (1, [.ref w, .ref s1, .ref s2, .ref s3, .ref s4, .ref s5, .ref s6, .int m0, .int (nI c0)])), aI E s4 36 f4, aI E s5 36 f5, aI E s6 10 (fillF f6 10 0), (w, .inr (7, [.ref p, .ref wm, .int st, .int dr, .int a0, .int v, .int fl, .int sl])), (p, .inr (5, [.ref ph, .ref pd, .ref pm, .int (nI n), .int lg, .int sf, .int dg])), aI E ph 9 hi, aI E pd 9 de, aI E wm 9 ma]) (st' := []) (n' := 0) (z' := 0) (pc' := 8) rfl rfl rfl rfl (by decide +kernel) rfl ?_
  refine g_iconst (v := 0) C dX1_mostAtOnePlace_8 (by decide) ?_
  refine g_istore_n (lv' := [some (.ref c), some (.int (nI a)), some (.int y), some (.int 0), none, none]) C dX1_mostAtOnePlace_9 (hnl 3 (by decide)) rfl rfl ?_
  refine g_iconst (v := 0) C dX1_mostAtOnePlace_10 (by decide) ?_
  refine g_istore (lv' := [some (.ref c), some (.int (nI a)), some (.int y), some (.int 0), some (.int 0), none]) C dX1_mostAtOnePlace_11 (hnl 4 (by decide)) rfl rfl ?_
  exact lp_X1_most C hnl hn ha hw hR c0 0 _ st dr a0 v fl sl (by omega) (fun p hp => by unfold fillF; exact if_pos (by omega))

set_option maxHeartbeats 4000000 in
set_option maxRecDepth 100000 in
theorem lp_X1_best {k : KX} {E : EX} (C : Cx k E cX1_bestTry RX1 (rmL 6 0 0)) (hnl : ∀ j : Nat, j < 6 → j < k.nL) {c : Nat} {s1 : Nat} {s2 : Nat} {s3 : Nat} {s4 : Nat} {s5 : Nat} {s6 : Nat} {w : Nat} {m0 : Int32} {c0 : Nat} {f4 : Nat → Int32} {f5 : Nat → Int32} {p : Nat} {wm : Nat} {ph : Nat} {pd : Nat} {pm : Nat} {n : Nat} {lg : Int32} {sf : Int32} {dg : Int32} {hi : Nat → Int32} {de : Nat → Int32} {ma : Nat → Int32} {W : Nat → Bool} {a : Nat} (hn : n ≤ 9) (ha : a ≤ n) (hw : wayInv W 36 c0 f4 f5) (h1 : ¬ c0 ≤ 1) (hR : Rt k E (fun (rv_ : Option Value) (rw_ : va_W) => ∃ (f62 : Nat → Int32) (st2 : Int32) (dr2 : Int32) (a2 : Int32) (v2 : Int32) (fl2 : Int32) (sl2 : Int32), rv_ = some (.int (if c0 ≤ 1 then -9 else (tryG (fun vq => (mostG (plF n hi de ma lg W a (nI vq)) c0).2) (c0 + 1) 60).2)) ∧ rw_ = [(c, .inr (1, [.ref w, .ref s1, .ref s2, .ref s3, .ref s4, .ref s5, .ref s6, .int m0, .int (nI c0)])), aI E s4 36 f4, aI E s5 36 f5, aI E s6 10 f62, (w, .inr (7, [.ref p, .ref wm, .int st2, .int dr2, .int a2, .int v2, .int fl2, .int sl2])), (p, .inr (5, [.ref ph, .ref pd, .ref pm, .int (nI n), .int lg, .int sf, .int dg])), aI E ph 9 hi, aI E pd 9 de, aI E wm 9 ma]) 0 0 (some .int)) : ∀ (g j : Nat) (f6 : Nat → Int32) (st dr a0 v fl sl : Int32), j + g = 60 → G k E 0 0 24 [some (.ref c), some (.int (nI a)), some (.int ((tryG (fun vq => (mostG (plF n hi de ma lg W a (nI vq)) c0).2) (c0 + 1) j).2)), some (.int (nI (tryG (fun vq => (mostG (plF n hi de ma lg W a (nI vq)) c0).2) (c0 + 1) j).1)), some (.int (nI (j + 1))), none] [] [(c, .inr (1, [.ref w, .ref s1, .ref s2, .ref s3, .ref s4, .ref s5, .ref s6, .int m0, .int (nI c0)])), aI E s4 36 f4, aI E s5 36 f5, aI E s6 10 f6, (w, .inr (7, [.ref p, .ref wm, .int st, .int dr, .int a0, .int v, .int fl, .int sl])), (p, .inr (5, [.ref ph, .ref pd, .ref pm, .int (nI n), .int lg, .int sf, .int dg])), aI E ph 9 hi, aI E pd 9 de, aI E wm 9 ma] := by
  have hc36 : c0 ≤ 36 := by rw [hw.1]; exact wayL_len W 36
  intro g
  induction g with
  | zero =>
    intro j f6 st dr a0 v fl sl hj
    have e : j = 60 := by omega
    subst e
    refine g_iload C dX1_bestTry_24 rfl ?_
    refine g_bipush (v := 60) C dX1_bestTry_26 (by decide) ?_
    refine g_icmp_gt (tgt := 58) C dX1_bestTry_28 (by decide) (fun c28 => ?_) (fun c28 => ?_)
    · skip
      refine g_iload_n C dX1_bestTry_58 rfl ?_
      exact g_iret C hR (⟨_, _, _, _, _, _, _, by rw [if_neg h1], rfl⟩) dX1_bestTry_59
    · skip
      exact absurd (by decide) c28
  | succ g ih =>
    intro j f6 st dr a0 v fl sl hj
    have hle := tryG_le (M := (fun vq => (mostG (plF n hi de ma lg W a (nI vq)) c0).2)) (f0 := c0 + 1) (B := c0 + 1) (fun j => by have := (mostG_le (plF n hi de ma lg W a (nI j)) c0).2; omega) (Nat.le_refl _) j
    have hmm := (mostG_le (plF n hi de ma lg W a (nI (j + 1))) c0).2
    refine g_iload C dX1_bestTry_24 rfl ?_
    refine g_bipush (v := 60) C dX1_bestTry_26 (by decide) ?_
    refine g_icmp_gt (tgt := 58) C dX1_bestTry_28 (by decide) (fun c28 => ?_) (fun c28 => ?_)
    · skip
      exact absurd ((nI_ltI (a := 60) (by decide) (by omega)).mp c28) (by omega)
    · skip
      refine g_aload_n C dX1_bestTry_31 rfl ?_
      refine g_iload_n C dX1_bestTry_32 rfl ?_
      refine g_iload C dX1_bestTry_33 rfl ?_
      refine g_callV C (c_X1_mostAtOnePlace k.l E c s1 s2 s3 s4 s5 s6 w m0 c0 f4 f5 f6 p wm st dr a0 v fl sl ph pd pm n lg sf dg hi de ma W a (nI (j + 1)) (by first | assumption | omega) (by first | assumption | omega) (by first | assumption | omega)) kmX1_61 kiX1_mostAtOnePlace ksX1_mostAtOnePlace knX1 kcX1_mostAtOnePlace ⟨rfl, rfl⟩ ⟨rfl, kdX1_mostAtOnePlace⟩ ⟨by decide, by decide⟩ ⟨by decide, by decide⟩ [0, 1, 2, 3, 4, 5, 6, 7, 8] [] rfl (wr := []) rfl (by decide +kernel) (by decide +kernel) (by decide +kernel) 0 1 rfl rfl rfl (As := [.int (nI a), .int (nI (j + 1))]) (rest := []) rfl (Nat.le_of_ble_eq_true rfl) dX1_bestTry_35 (fun rv_ rw_ hp_ => ?_)
      obtain ⟨f62_1, st2_2, dr2_3, a2_4, v2_5, fl2_6, sl2_7, rfl, rfl⟩ := hp_
      refine g_rep [0, 1, 2, 3, 4, 5, 6, 7, 8] (ws' := [(c, .inr (1, [.ref w, .ref s1, .ref s2, .ref s3, .ref s4, .ref s5, .ref s6, .int m0, .int (nI c0)])), aI E s4 36 f4, aI E s5 36 f5, aI E s6 10 f62_1, (w, .inr (7, [.ref p, .ref wm, .int st2_2, .int dr2_3, .int a2_4, .int v2_5, .int fl2_6, .int sl2_7])), (p, .inr (5, [.ref ph, .ref pd, .ref pm, .int (nI n), .int lg, .int sf, .int dg])), aI E ph 9 hi, aI E pd 9 de, aI E wm 9 ma]) (st' := [.int (nI (mostG (plF n hi de ma lg W a (nI (j + 1))) c0).2)]) (n' := 0) (z' := 0) (pc' := 38) rfl rfl rfl rfl (by decide +kernel) rfl ?_
      refine g_istore (lv' := [some (.ref c), some (.int (nI a)), some (.int ((tryG (fun vq => (mostG (plF n hi de ma lg W a (nI vq)) c0).2) (c0 + 1) j).2)), some (.int (nI (tryG (fun vq => (mostG (plF n hi de ma lg W a (nI vq)) c0).2) (c0 + 1) j).1)), some (.int (nI (j + 1))), some (.int (nI (mostG (plF n hi de ma lg W a (nI (j + 1))) c0).2))]) C dX1_bestTry_38 (hnl 5 (by decide)) rfl rfl ?_
      refine g_iload C dX1_bestTry_40 rfl ?_
      refine g_iload_n C dX1_bestTry_42 rfl ?_
      refine g_icmp_ge (tgt := 52) C dX1_bestTry_43 (by decide) (fun c43 => ?_) (fun c43 => ?_)
      · skip
        have et : tryG (fun vq => (mostG (plF n hi de ma lg W a (nI vq)) c0).2) (c0 + 1) (j + 1) = tryG (fun vq => (mostG (plF n hi de ma lg W a (nI vq)) c0).2) (c0 + 1) j := if_neg (fun q => absurd ((nI_leI (by omega) (by omega)).mp c43) (Nat.not_le.mpr q))
        refine g_iinc (v := nI ((j + 1) + 1)) (lv' := [some (.ref c), some (.int (nI a)), some (.int ((tryG (fun vq => (mostG (plF n hi de ma lg W a (nI vq)) c0).2) (c0 + 1) j).2)), some (.int (nI (tryG (fun vq => (mostG (plF n hi de ma lg W a (nI vq)) c0).2) (c0 + 1) j).1)), some (.int (nI ((j + 1) + 1))), some (.int (nI (mostG (plF n hi de ma lg W a (nI (j + 1))) c0).2))]) C dX1_bestTry_52 rfl (nI_add _ 1) (hnl 4 (by decide)) rfl rfl ?_
        refine g_goto (tgt := 24) C dX1_bestTry_55 (by decide) ?_
        refine g_kill 5 (lv' := [some (.ref c), some (.int (nI a)), some (.int ((tryG (fun vq => (mostG (plF n hi de ma lg W a (nI vq)) c0).2) (c0 + 1) j).2)), some (.int (nI (tryG (fun vq => (mostG (plF n hi de ma lg W a (nI vq)) c0).2) (c0 + 1) j).1)), some (.int (nI ((j + 1) + 1))), none]) rfl ?_
        have hi2 := fun a b c d e f g => ih (j + 1) a b c d e f g (by omega)
        simp only [et] at hi2
        exact hi2 _ _ _ _ _ _ _
      · skip
        have et : tryG (fun vq => (mostG (plF n hi de ma lg W a (nI vq)) c0).2) (c0 + 1) (j + 1) = ((mostG (plF n hi de ma lg W a (nI (j + 1))) c0).2, nI (j + 1)) := if_pos (nx_nge (by omega) (by omega) c43)
        refine g_iload C dX1_bestTry_46 rfl ?_
        refine g_istore_n (lv' := [some (.ref c), some (.int (nI a)), some (.int ((tryG (fun vq => (mostG (plF n hi de ma lg W a (nI vq)) c0).2) (c0 + 1) j).2)), some (.int (nI (mostG (plF n hi de ma lg W a (nI (j + 1))) c0).2)), some (.int (nI (j + 1))), some (.int (nI (mostG (plF n hi de ma lg W a (nI (j + 1))) c0).2))]) C dX1_bestTry_48 (hnl 3 (by decide)) rfl rfl ?_
        refine g_iload C dX1_bestTry_49 rfl ?_
        refine g_istore_n (lv' := [some (.ref c), some (.int (nI a)), some (.int (nI (j + 1))), some (.int (nI (mostG (plF n hi de ma lg W a (nI (j + 1))) c0).2)), some (.int (nI (j + 1))), some (.int (nI (mostG (plF n hi de ma lg W a (nI (j + 1))) c0).2))]) C dX1_bestTry_51 (hnl 2 (by decide)) rfl rfl ?_
        refine g_iinc (v := nI ((j + 1) + 1)) (lv' := [some (.ref c), some (.int (nI a)), some (.int (nI (j + 1))), some (.int (nI (mostG (plF n hi de ma lg W a (nI (j + 1))) c0).2)), some (.int (nI ((j + 1) + 1))), some (.int (nI (mostG (plF n hi de ma lg W a (nI (j + 1))) c0).2))]) C dX1_bestTry_52 rfl (nI_add _ 1) (hnl 4 (by decide)) rfl rfl ?_
        refine g_goto (tgt := 24) C dX1_bestTry_55 (by decide) ?_
        refine g_kill 5 (lv' := [some (.ref c), some (.int (nI a)), some (.int (nI (j + 1))), some (.int (nI (mostG (plF n hi de ma lg W a (nI (j + 1))) c0).2)), some (.int (nI ((j + 1) + 1))), none]) rfl ?_
        have hi2 := fun a b c d e f g => ih (j + 1) a b c d e f g (by omega)
        simp only [et] at hi2
        exact hi2 _ _ _ _ _ _ _

set_option maxHeartbeats 4000000 in
set_option maxRecDepth 100000 in
theorem c_X1_bestTry (l : Launch) (E : EX) (c : Nat) (s1 : Nat) (s2 : Nat) (s3 : Nat) (s4 : Nat) (s5 : Nat) (s6 : Nat) (w : Nat) (m0 : Int32) (c0 : Nat) (f4 : Nat → Int32) (f5 : Nat → Int32) (f6 : Nat → Int32) (p : Nat) (wm : Nat) (st : Int32) (dr : Int32) (a0 : Int32) (v : Int32) (fl : Int32) (sl : Int32) (ph : Nat) (pd : Nat) (pm : Nat) (n : Nat) (lg : Int32) (sf : Int32) (dg : Int32) (hi : Nat → Int32) (de : Nat → Int32) (ma : Nat → Int32) (W : Nat → Bool) (a : Nat) (hn : n ≤ 9) (ha : a ≤ n) (hw : wayInv W 36 c0 f4 f5) : Ct l E yX1_bestTry cX1_bestTry 6 (some .int) (rmL 6 0 0) [.ref c, .int (nI a)] [(c, .inr (1, [.ref w, .ref s1, .ref s2, .ref s3, .ref s4, .ref s5, .ref s6, .int m0, .int (nI c0)])), aI E s4 36 f4, aI E s5 36 f5, aI E s6 10 f6, (w, .inr (7, [.ref p, .ref wm, .int st, .int dr, .int a0, .int v, .int fl, .int sl])), (p, .inr (5, [.ref ph, .ref pd, .ref pm, .int (nI n), .int lg, .int sf, .int dg])), aI E ph 9 hi, aI E pd 9 de, aI E wm 9 ma] (fun (rv_ : Option Value) (rw_ : va_W) => ∃ (f62 : Nat → Int32) (st2 : Int32) (dr2 : Int32) (a2 : Int32) (v2 : Int32) (fl2 : Int32) (sl2 : Int32), rv_ = some (.int (if c0 ≤ 1 then -9 else (tryG (fun vq => (mostG (plF n hi de ma lg W a (nI vq)) c0).2) (c0 + 1) 60).2)) ∧ rw_ = [(c, .inr (1, [.ref w, .ref s1, .ref s2, .ref s3, .ref s4, .ref s5, .ref s6, .int m0, .int (nI c0)])), aI E s4 36 f4, aI E s5 36 f5, aI E s6 10 f62, (w, .inr (7, [.ref p, .ref wm, .int st2, .int dr2, .int a2, .int v2, .int fl2, .int sl2])), (p, .inr (5, [.ref ph, .ref pd, .ref pm, .int (nI n), .int lg, .int sf, .int dg])), aI E ph 9 hi, aI E pd 9 de, aI E wm 9 ma]) 0 0 := by
  refine Ct_of (by decide) (Nat.le_of_ble_eq_true rfl) ?_
  intro k hkl hnl C hR hin_
  subst hkl
  show G k E 0 0 0 [some (.ref c), some (.int (nI a)), none, none, none, none] [] [(c, .inr (1, [.ref w, .ref s1, .ref s2, .ref s3, .ref s4, .ref s5, .ref s6, .int m0, .int (nI c0)])), aI E s4 36 f4, aI E s5 36 f5, aI E s6 10 f6, (w, .inr (7, [.ref p, .ref wm, .int st, .int dr, .int a0, .int v, .int fl, .int sl])), (p, .inr (5, [.ref ph, .ref pd, .ref pm, .int (nI n), .int lg, .int sf, .int dg])), aI E ph 9 hi, aI E pd 9 de, aI E wm 9 ma]
  refine g_aload_n C dX1_bestTry_0 rfl ?_
  refine g_get C kwX1 0 rfl rfl 8 (by decide) kfX1_44 rfl dX1_bestTry_1 ?_
  refine g_iconst (v := 1) C dX1_bestTry_4 (by decide) ?_
  refine g_icmp_gt (tgt := 11) C dX1_bestTry_5 (by decide) (fun c5 => ?_) (fun c5 => ?_)
  · skip
    have h1 : ¬ c0 ≤ 1 := by have := (nI_ltI (a := 1) (by decide) (by have := hw.1; have := wayL_len W 36; omega)).mp c5; omega
    refine g_bipush (v := (-9)) C dX1_bestTry_11 (by decide) ?_
    refine g_istore_n (lv' := [some (.ref c), some (.int (nI a)), some (.int (-9)), none, none, none]) C dX1_bestTry_13 (hnl 2 (by decide)) rfl rfl ?_
    refine g_aload_n C dX1_bestTry_14 rfl ?_
    refine g_get C kwX1 0 rfl rfl 8 (by decide) kfX1_44 rfl dX1_bestTry_15 ?_
    refine g_iconst (v := 1) C dX1_bestTry_18 (by decide) ?_
    refine g_iadd C dX1_bestTry_19 ?_
    refine g_topi (v := nI (c0 + 1)) (nI_1 c0) ?_
    refine g_istore_n (lv' := [some (.ref c), some (.int (nI a)), some (.int (-9)), some (.int (nI (c0 + 1))), none, none]) C dX1_bestTry_20 (hnl 3 (by decide)) rfl rfl ?_
    refine g_iconst (v := 1) C dX1_bestTry_21 (by decide) ?_
    refine g_istore (lv' := [some (.ref c), some (.int (nI a)), some (.int (-9)), some (.int (nI (c0 + 1))), some (.int 1), none]) C dX1_bestTry_22 (hnl 4 (by decide)) rfl rfl ?_
    exact lp_X1_best C hnl hn ha hw h1 hR 60 0 f6 st dr a0 v fl sl (by omega)
  · skip
    refine g_bipush (v := (-9)) C dX1_bestTry_8 (by decide) ?_
    exact g_iret C hR (⟨f6, st, dr, a0, v, fl, sl, by rw [if_pos (by have := nx_nlt (a := 1) (by decide) (by have := hw.1; have := wayL_len W 36; omega) c5; omega)], rfl⟩) dX1_bestTry_10
