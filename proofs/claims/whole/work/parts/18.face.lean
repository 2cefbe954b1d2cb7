set_option maxHeartbeats 4000000 in
set_option maxRecDepth 100000 in
theorem c_X8_runFrom (l : Launch) (E : EX) (x : Nat) (p : Nat) (r : Nat) (o : Nat) (h : Nat) (im : Nat) (ik : Nat) (w : Nat) (g : Nat) (c : Nat) (ch : Nat) (tr : Int64) (ph : Nat) (pd : Nat) (pm : Nat) (n : Nat) (lg : Int32) (sf : Int32) (dg : Int32) (hi : Nat → Int32) (de : Nat → Int32) (om : Nat) (a : Nat) (u : Nat) (fl : Nat) (ma : Nat → Int32) (wm : Nat) (st : Int32) (dr : Int32) (a0 : Int32) (v : Int32) (wfl : Int32) (sl : Int32) (wma : Nat → Int32) (y : Int32) (hn : n ≤ 9) (ha : a ≤ n) : Ct l E yX8_runFrom cX8_runFrom 2 (some .int) (rmL 5 0 0) [.ref x, .int y] [(x, .inr (8, [.ref p, .ref r, .ref o, .ref h, .ref im, .ref ik, .ref w, .ref g, .ref c, .ref ch, .long tr])), (p, .inr (5, [.ref ph, .ref pd, .ref pm, .int (nI n), .int lg, .int sf, .int dg])), aI E ph 9 hi, aI E pd 9 de, (o, .inr (4, [.ref om, .int (nI a), .int (nI u), .int (nI fl)])), aI E om 9 ma, (w, .inr (7, [.ref p, .ref wm, .int st, .int dr, .int a0, .int v, .int wfl, .int sl])), aI E wm 9 wma] (fun (rv_ : Option Value) (rw_ : va_W) => ∃ (wm2 : Nat → Int32) (st2 : Int32) (dr2 : Int32) (a2 : Int32) (v2 : Int32), rv_ = some (.int (nI (runF n hi de ma lg sf dg 9 a y 0 0).1)) ∧ rw_ = [(x, .inr (8, [.ref p, .ref r, .ref o, .ref h, .ref im, .ref ik, .ref w, .ref g, .ref c, .ref ch, .long tr])), (p, .inr (5, [.ref ph, .ref pd, .ref pm, .int (nI n), .int lg, .int sf, .int dg])), aI E ph 9 hi, aI E pd 9 de, (o, .inr (4, [.ref om, .int (nI a), .int (nI u), .int (nI fl)])), aI E om 9 ma, (w, .inr (7, [.ref p, .ref wm, .int st2, .int dr2, .int a2, .int v2, .int ((runF n hi de ma lg sf dg 9 a y 0 0).2.2.2), .int ((runF n hi de ma lg sf dg 9 a y 0 0).2.2.1)])), aI E wm 9 wm2]) 0 0 := by
  refine Ct_of (by decide) (Nat.le_of_ble_eq_true rfl) ?_
  intro k hkl hnl C hR hin_
  subst hkl
  show G k E 0 0 0 [some (.ref x), some (.int y)] [] [(x, .inr (8, [.ref p, .ref r, .ref o, .ref h, .ref im, .ref ik, .ref w, .ref g, .ref c, .ref ch, .long tr])), (p, .inr (5, [.ref ph, .ref pd, .ref pm, .int (nI n), .int lg, .int sf, .int dg])), aI E ph 9 hi, aI E pd 9 de, (o, .inr (4, [.ref om, .int (nI a), .int (nI u), .int (nI fl)])), aI E om 9 ma, (w, .inr (7, [.ref p, .ref wm, .int st, .int dr, .int a0, .int v, .int wfl, .int sl])), aI E wm 9 wma]
  refine g_aload_n C dX8_runFrom_0 rfl ?_
  refine g_get C kwX8 0 rfl rfl 6 (by decide) kfX8_50 rfl dX8_runFrom_1 ?_
  refine g_aload_n C dX8_runFrom_4 rfl ?_
  refine g_get C kwX8 0 rfl rfl 2 (by decide) kfX8_26 rfl dX8_runFrom_5 ?_
  refine g_callV C (c_X7_prepare k.l E w p wm st dr a0 v wfl sl ph pd pm (nI n) lg sf dg o om (nI a) (nI u) (nI fl) ma wma) kmX8_157 kiX7_prepare ksX7_prepare knX7 kcX7_prepare ⟨rfl, rfl⟩ ⟨rfl, kdX7_prepare⟩ ⟨by decide, by decide⟩ ⟨by decide, by decide⟩ [6, 7, 1, 4, 5] [0, 2, 3] rfl (wr := [(x, .inr (8, [.ref p, .ref r, .ref o, .ref h, .ref im, .ref ik, .ref w, .ref g, .ref c, .ref ch, .long tr])), aI E ph 9 hi, aI E pd 9 de]) rfl (by decide +kernel) (by decide +kernel) (by decide +kernel) 6 7 rfl rfl rfl (As := [.ref o]) (rest := []) rfl (Nat.le_of_ble_eq_true rfl) dX8_runFrom_8 (fun rv_ rw_ hp_ => ?_)
  obtain ⟨rfl, rfl⟩ := hp_
  refine g_rep [0, 5, 1, 2, 6, 7, 3, 4] (ws' := [(x, .inr (8, [.ref p, .ref r, .ref o, .ref h, .ref im, .ref ik, .ref w, .ref g, .ref c, .ref ch, .long tr])), (p, .inr (5, [.ref ph, .ref pd, .ref pm, .int (nI n), .int lg, .int sf, .int dg])), aI E ph 9 hi, aI E pd 9 de, (o, .inr (4, [.ref om, .int (nI a), .int (nI u), .int (nI fl)])), aI E om 9 ma, (w, .inr (7, [.ref p, .ref wm, .int sf, .int dg, .int a0, .int v, .int wfl, .int sl])), aI E wm 9 (va_cpy ma wma 0 0 9)]) (st' := []) (n' := 0) (z' := 0) (pc' := 11) rfl rfl rfl rfl (by decide +kernel) rfl ?_
  refine g_aload_n C dX8_runFrom_11 rfl ?_
  refine g_get C kwX8 0 rfl rfl 6 (by decide) kfX8_50 rfl dX8_runFrom_12 ?_
  refine g_aload_n C dX8_runFrom_15 rfl ?_
  refine g_get C kwX8 0 rfl rfl 2 (by decide) kfX8_26 rfl dX8_runFrom_16 ?_
  refine g_get C kwX4 4 rfl rfl 1 (by decide) kfX8_132 rfl dX8_runFrom_19 ?_
  refine g_iload_n C dX8_runFrom_22 rfl ?_
  refine g_callV C (c_X7_run k.l E w p wm sf dg a0 v wfl sl ph pd pm n lg sf dg hi de (va_cpy ma wma 0 0 9) a y (by first | assumption | omega) (ha)) kmX8_247 kiX7_run ksX7_run knX7 kcX7_run ⟨rfl, rfl⟩ ⟨rfl, kdX7_run⟩ ⟨by decide, by decide⟩ ⟨by decide, by decide⟩ [6, 1, 2, 3, 7] [0, 4, 5] rfl (wr := [(x, .inr (8, [.ref p, .ref r, .ref o, .ref h, .ref im, .ref ik, .ref w, .ref g, .ref c, .ref ch, .long tr])), (o, .inr (4, [.ref om, .int (nI a), .int (nI u), .int (nI fl)])), aI E om 9 ma]) rfl (by decide +kernel) (by decide +kernel) (by decide +kernel) 6 7 rfl rfl rfl (As := [.int (nI a), .int y]) (rest := []) rfl (Nat.le_of_ble_eq_true rfl) dX8_runFrom_23 (fun rv_ rw_ hp_ => ?_)
  obtain ⟨rfl, rfl⟩ := hp_
  refine g_rep [0, 4, 5, 6, 1, 2, 3, 7] (ws' := [(x, .inr (8, [.ref p, .ref r, .ref o, .ref h, .ref im, .ref ik, .ref w, .ref g, .ref c, .ref ch, .long tr])), (p, .inr (5, [.ref ph, .ref pd, .ref pm, .int (nI n), .int lg, .int sf, .int dg])), aI E ph 9 hi, aI E pd 9 de, (o, .inr (4, [.ref om, .int (nI a), .int (nI u), .int (nI fl)])), aI E om 9 ma, (w, .inr (7, [.ref p, .ref wm, .int sf, .int dg, .int (nI (runF n hi de (va_cpy ma wma 0 0 9) lg sf dg 9 a y 0 0).1), .int ((runF n hi de (va_cpy ma wma 0 0 9) lg sf dg 9 a y 0 0).2.1), .int ((runF n hi de (va_cpy ma wma 0 0 9) lg sf dg 9 a y 0 0).2.2.2), .int ((runF n hi de (va_cpy ma wma 0 0 9) lg sf dg 9 a y 0 0).2.2.1)])), aI E wm 9 (va_cpy ma wma 0 0 9)]) (st' := [.int (nI (runF n hi de (va_cpy ma wma 0 0 9) lg sf dg 9 a y 0 0).1)]) (n' := 0) (z' := 0) (pc' := 26) rfl rfl rfl rfl (by decide +kernel) rfl ?_
  have hcg : runF n hi de (va_cpy ma wma 0 0 9) lg sf dg 9 a y 0 0 = runF n hi de ma lg sf dg 9 a y 0 0 := runF_congr (fun s hs => ⟨rfl, rfl, cpy_lt (by omega)⟩) 9 a y 0 0
  exact g_iret C hR (⟨_, _, _, _, _, by rw [hcg], by rw [hcg]⟩) dX8_runFrom_26

set_option maxHeartbeats 4000000 in
set_option maxRecDepth 100000 in
theorem c_X8_runWithMat (l : Launch) (E : EX) (x : Nat) (p : Nat) (r : Nat) (o : Nat) (h : Nat) (im : Nat) (ik : Nat) (w : Nat) (g : Nat) (c : Nat) (ch : Nat) (tr : Int64) (ph : Nat) (pd : Nat) (pm : Nat) (n : Nat) (lg : Int32) (sf : Int32) (dg : Int32) (hi : Nat → Int32) (de : Nat → Int32) (om : Nat) (a : Nat) (u : Nat) (fl : Nat) (ma : Nat → Int32) (wm : Nat) (st : Int32) (dr : Int32) (a0 : Int32) (v : Int32) (wfl : Int32) (sl : Int32) (wma : Nat → Int32) (j : Nat) (y : Int32) (hn : n ≤ 9) (ha : a ≤ n) (hj : j < n) : Ct l E yX8_runWithMat cX8_runWithMat 3 (some .int) (rmL 5 0 0) [.ref x, .int (nI j), .int y] [(x, .inr (8, [.ref p, .ref r, .ref o, .ref h, .ref im, .ref ik, .ref w, .ref g, .ref c, .ref ch, .long tr])), (p, .inr (5, [.ref ph, .ref pd, .ref pm, .int (nI n), .int lg, .int sf, .int dg])), aI E ph 9 hi, aI E pd 9 de, (o, .inr (4, [.ref om, .int (nI a), .int (nI u), .int (nI fl)])), aI E om 9 ma, (w, .inr (7, [.ref p, .ref wm, .int st, .int dr, .int a0, .int v, .int wfl, .int sl])), aI E wm 9 wma] (fun (rv_ : Option Value) (rw_ : va_W) => ∃ (wm2 : Nat → Int32) (st2 : Int32) (dr2 : Int32) (a2 : Int32) (v2 : Int32) (fl2 : Int32) (sl2 : Int32), rv_ = some (.int (nI (runF n hi de (upd ma j y) lg sf dg 9 a (nI u) 0 0).1)) ∧ rw_ = [(x, .inr (8, [.ref p, .ref r, .ref o, .ref h, .ref im, .ref ik, .ref w, .ref g, .ref c, .ref ch, .long tr])), (p, .inr (5, [.ref ph, .ref pd, .ref pm, .int (nI n), .int lg, .int sf, .int dg])), aI E ph 9 hi, aI E pd 9 de, (o, .inr (4, [.ref om, .int (nI a), .int (nI u), .int (nI fl)])), aI E om 9 ma, (w, .inr (7, [.ref p, .ref wm, .int st2, .int dr2, .int a2, .int v2, .int fl2, .int sl2])), aI E wm 9 wm2]) 0 0 := by
  refine Ct_of (by decide) (Nat.le_of_ble_eq_true rfl) ?_
  intro k hkl hnl C hR hin_
  subst hkl
  show G k E 0 0 0 [some (.ref x), some (.int (nI j)), some (.int y)] [] [(x, .inr (8, [.ref p, .ref r, .ref o, .ref h, .ref im, .ref ik, .ref w, .ref g, .ref c, .ref ch, .long tr])), (p, .inr (5, [.ref ph, .ref pd, .ref pm, .int (nI n), .int lg, .int sf, .int dg])), aI E ph 9 hi, aI E pd 9 de, (o, .inr (4, [.ref om, .int (nI a), .int (nI u), .int (nI fl)])), aI E om 9 ma, (w, .inr (7, [.ref p, .ref wm, .int st, .int dr, .int a0, .int v, .int wfl, .int sl])), aI E wm 9 wma]
  refine g_aload_n C dX8_runWithMat_0 rfl ?_
  refine g_get C kwX8 0 rfl rfl 6 (by decide) kfX8_50 rfl dX8_runWithMat_1 ?_
  refine g_aload_n C dX8_runWithMat_4 rfl ?_
  refine g_get C kwX8 0 rfl rfl 2 (by decide) kfX8_26 rfl dX8_runWithMat_5 ?_
  refine g_callV C (c_X7_prepare k.l E w p wm st dr a0 v wfl sl ph pd pm (nI n) lg sf dg o om (nI a) (nI u) (nI fl) ma wma) kmX8_157 kiX7_prepare ksX7_prepare knX7 kcX7_prepare ⟨rfl, rfl⟩ ⟨rfl, kdX7_prepare⟩ ⟨by decide, by decide⟩ ⟨by decide, by decide⟩ [6, 7, 1, 4, 5] [0, 2, 3] rfl (wr := [(x, .inr (8, [.ref p, .ref r, .ref o, .ref h, .ref im, .ref ik, .ref w, .ref g, .ref c, .ref ch, .long tr])), aI E ph 9 hi, aI E pd 9 de]) rfl (by decide +kernel) (by decide +kernel) (by decide +kernel) 6 7 rfl rfl rfl (As := [.ref o]) (rest := []) rfl (Nat.le_of_ble_eq_true rfl) dX8_runWithMat_8 (fun rv_ rw_ hp_ => ?_)
  obtain ⟨rfl, rfl⟩ := hp_
  refine g_rep [0, 5, 1, 2, 6, 7, 3, 4] (ws' := [(x, .inr (8, [.ref p, .ref r, .ref o, .ref h, .ref im, .ref ik, .ref w, .ref g, .ref c, .ref ch, .long tr])), (p, .inr (5, [.ref ph, .ref pd, .ref pm, .int (nI n), .int lg, .int sf, .int dg])), aI E ph 9 hi, aI E pd 9 de, (o, .inr (4, [.ref om, .int (nI a), .int (nI u), .int (nI fl)])), aI E om 9 ma, (w, .inr (7, [.ref p, .ref wm, .int sf, .int dg, .int a0, .int v, .int wfl, .int sl])), aI E wm 9 (va_cpy ma wma 0 0 9)]) (st' := []) (n' := 0) (z' := 0) (pc' := 11) rfl rfl rfl rfl (by decide +kernel) rfl ?_
  refine g_aload_n C dX8_runWithMat_11 rfl ?_
  refine g_get C kwX8 0 rfl rfl 6 (by decide) kfX8_50 rfl dX8_runWithMat_12 ?_
  refine g_get C kwX7 6 rfl rfl 1 (by decide) kfX8_250 rfl dX8_runWithMat_15 ?_
  refine g_iload_n C dX8_runWithMat_18 rfl ?_
  refine g_iload_n C dX8_runWithMat_19 rfl ?_
  refine g_iast (ws' := [(x, .inr (8, [.ref p, .ref r, .ref o, .ref h, .ref im, .ref ik, .ref w, .ref g, .ref c, .ref ch, .long tr])), (p, .inr (5, [.ref ph, .ref pd, .ref pm, .int (nI n), .int lg, .int sf, .int dg])), aI E ph 9 hi, aI E pd 9 de, (o, .inr (4, [.ref om, .int (nI a), .int (nI u), .int (nI fl)])), aI E om 9 ma, (w, .inr (7, [.ref p, .ref wm, .int sf, .int dg, .int a0, .int v, .int wfl, .int sl])), aI E wm 9 (upd (va_cpy ma wma 0 0 9) j y)]) C 7 j rfl (rfl) (by omega) (by decide) rfl dX8_runWithMat_20 ?_
  refine g_aload_n C dX8_runWithMat_21 rfl ?_
  refine g_get C kwX8 0 rfl rfl 6 (by decide) kfX8_50 rfl dX8_runWithMat_22 ?_
  refine g_aload_n C dX8_runWithMat_25 rfl ?_
  refine g_get C kwX8 0 rfl rfl 2 (by decide) kfX8_26 rfl dX8_runWithMat_26 ?_
  refine g_get C kwX4 4 rfl rfl 1 (by decide) kfX8_132 rfl dX8_runWithMat_29 ?_
  refine g_aload_n C dX8_runWithMat_32 rfl ?_
  refine g_get C kwX8 0 rfl rfl 2 (by decide) kfX8_26 rfl dX8_runWithMat_33 ?_
  refine g_get C kwX4 4 rfl rfl 2 (by decide) kfX8_135 rfl dX8_runWithMat_36 ?_
  refine g_callV C (c_X7_run k.l E w p wm sf dg a0 v wfl sl ph pd pm n lg sf dg hi de (upd (va_cpy ma wma 0 0 9) j y) a (nI u) (by first | assumption | omega) (ha)) kmX8_247 kiX7_run ksX7_run knX7 kcX7_run ⟨rfl, rfl⟩ ⟨rfl, kdX7_run⟩ ⟨by decide, by decide⟩ ⟨by decide, by decide⟩ [6, 1, 2, 3, 7] [0, 4, 5] rfl (wr := [(x, .inr (8, [.ref p, .ref r, .ref o, .ref h, .ref im, .ref ik, .ref w, .ref g, .ref c, .ref ch, .long tr])), (o, .inr (4, [.ref om, .int (nI a), .int (nI u), .int (nI fl)])), aI E om 9 ma]) rfl (by decide +kernel) (by decide +kernel) (by decide +kernel) 6 7 rfl rfl rfl (As := [.int (nI a), .int (nI u)]) (rest := []) rfl (Nat.le_of_ble_eq_true rfl) dX8_runWithMat_39 (fun rv_ rw_ hp_ => ?_)
  obtain ⟨rfl, rfl⟩ := hp_
  refine g_rep [0, 4, 5, 6, 1, 2, 3, 7] (ws' := [(x, .inr (8, [.ref p, .ref r, .ref o, .ref h, .ref im, .ref ik, .ref w, .ref g, .ref c, .ref ch, .long tr])), (p, .inr (5, [.ref ph, .ref pd, .ref pm, .int (nI n), .int lg, .int sf, .int dg])), aI E ph 9 hi, aI E pd 9 de, (o, .inr (4, [.ref om, .int (nI a), .int (nI u), .int (nI fl)])), aI E om 9 ma, (w, .inr (7, [.ref p, .ref wm, .int sf, .int dg, .int (nI (runF n hi de (upd (va_cpy ma wma 0 0 9) j y) lg sf dg 9 a (nI u) 0 0).1), .int ((runF n hi de (upd (va_cpy ma wma 0 0 9) j y) lg sf dg 9 a (nI u) 0 0).2.1), .int ((runF n hi de (upd (va_cpy ma wma 0 0 9) j y) lg sf dg 9 a (nI u) 0 0).2.2.2), .int ((runF n hi de (upd (va_cpy ma wma 0 0 9) j y) lg sf dg 9 a (nI u) 0 0).2.2.1)])), aI E wm 9 (upd (va_cpy ma wma 0 0 9) j y)]) (st' := [.int (nI (runF n hi de (upd (va_cpy ma wma 0 0 9) j y) lg sf dg 9 a (nI u) 0 0).1)]) (n' := 0) (z' := 0) (pc' := 42) rfl rfl rfl rfl (by decide +kernel) rfl ?_
  have hcg : runF n hi de (upd (va_cpy ma wma 0 0 9) j y) lg sf dg 9 a (nI u) 0 0 = runF n hi de (upd ma j y) lg sf dg 9 a (nI u) 0 0 := runF_congr (fun s hs => ⟨rfl, rfl, by unfold upd; by_cases q : s = j; rw [if_pos q, if_pos q]; rw [if_neg q, if_neg q, cpy_lt (by omega)]⟩) 9 a (nI u) 0 0
  exact g_iret C hR (⟨_, _, _, _, _, _, _, by rw [hcg], rfl⟩) dX8_runWithMat_42

set_option maxHeartbeats 4000000 in
set_option maxRecDepth 100000 in
theorem c_X8_asCoil (l : Launch) (E : EX) (x : Nat) (p : Nat) (r : Nat) (o : Nat) (h : Nat) (im : Nat) (ik : Nat) (w : Nat) (g : Nat) (c : Nat) (ch : Nat) (tr : Int64) (ph : Nat) (pd : Nat) (pm : Nat) (n : Nat) (lg : Int32) (sf : Int32) (dg : Int32) (hi : Nat → Int32) (de : Nat → Int32) (om : Nat) (a : Nat) (u : Nat) (fl : Nat) (ma : Nat → Int32) (j : Nat) (hn : n ≤ 9) (hj : j < n) : Ct l E yX8_asCoil cX8_asCoil 2 (some .int) (rmL 1 0 0) [.ref x, .int (nI j)] [(x, .inr (8, [.ref p, .ref r, .ref o, .ref h, .ref im, .ref ik, .ref w, .ref g, .ref c, .ref ch, .long tr])), (p, .inr (5, [.ref ph, .ref pd, .ref pm, .int (nI n), .int lg, .int sf, .int dg])), aI E ph 9 hi, aI E pd 9 de, (o, .inr (4, [.ref om, .int (nI a), .int (nI u), .int (nI fl)])), aI E om 9 ma] (fun (rv_ : Option Value) (rw_ : va_W) => rv_ = some (.int (hi j)) ∧ rw_ = [(x, .inr (8, [.ref p, .ref r, .ref o, .ref h, .ref im, .ref ik, .ref w, .ref g, .ref c, .ref ch, .long (tr + 1)])), (p, .inr (5, [.ref ph, .ref pd, .ref pm, .int (nI n), .int lg, .int sf, .int dg])), aI E ph 9 hi, aI E pd 9 de, (o, .inr (4, [.ref om, .int (nI a), .int (nI u), .int (nI fl)])), aI E om 9 ma]) 0 0 := by
  refine Ct_of (by decide) (Nat.le_of_ble_eq_true rfl) ?_
  intro k hkl hnl C hR hin_
  subst hkl
  show G k E 0 0 0 [some (.ref x), some (.int (nI j))] [] [(x, .inr (8, [.ref p, .ref r, .ref o, .ref h, .ref im, .ref ik, .ref w, .ref g, .ref c, .ref ch, .long tr])), (p, .inr (5, [.ref ph, .ref pd, .ref pm, .int (nI n), .int lg, .int sf, .int dg])), aI E ph 9 hi, aI E pd 9 de, (o, .inr (4, [.ref om, .int (nI a), .int (nI u), .int (nI fl)])), aI E om 9 ma]
  refine g_aload_n C dX8_asCoil_0 rfl ?_
  refine g_dup C dX8_asCoil_1 rfl ?_
  refine g_get C kwX8 0 rfl rfl 10 (by decide) kfX8_77 rfl dX8_asCoil_2 ?_
  refine g_lconst (v := 1) C dX8_asCoil_5 rfl ?_
  refine g_ladd C dX8_asCoil_6 ?_
  refine g_put (ws' := [(x, .inr (8, [.ref p, .ref r, .ref o, .ref h, .ref im, .ref ik, .ref w, .ref g, .ref c, .ref ch, .long (tr + 1)])), (p, .inr (5, [.ref ph, .ref pd, .ref pm, .int (nI n), .int lg, .int sf, .int dg])), aI E ph 9 hi, aI E pd 9 de, (o, .inr (4, [.ref om, .int (nI a), .int (nI u), .int (nI fl)])), aI E om 9 ma]) C kwX8 tyX8 tyX8_ok nmX8 0 rfl rfl 10 (by decide) kfX8_77 rfl rfl rfl (Nat.le_of_ble_eq_true rfl) rfl dX8_asCoil_7 ?_
  refine g_aload_n C dX8_asCoil_10 rfl ?_
  refine g_get C kwX8 0 rfl rfl 0 (by decide) kfX8_12 rfl dX8_asCoil_11 ?_
  refine g_get C kwX5 1 rfl rfl 0 (by decide) kfX8_122 rfl dX8_asCoil_14 ?_
  refine g_iload_n C dX8_asCoil_17 rfl ?_
  refine g_iald C 2 j rfl (rfl) (by omega) (by decide) dX8_asCoil_18 ?_
  exact g_iret C hR (⟨rfl, rfl⟩) dX8_asCoil_19

set_option maxHeartbeats 4000000 in
set_option maxRecDepth 100000 in
theorem c_X8_asBrass (l : Launch) (E : EX) (x : Nat) (p : Nat) (r : Nat) (o : Nat) (h : Nat) (im : Nat) (ik : Nat) (w : Nat) (g : Nat) (c : Nat) (ch : Nat) (tr : Int64) (ph : Nat) (pd : Nat) (pm : Nat) (n : Nat) (lg : Int32) (sf : Int32) (dg : Int32) (hi : Nat → Int32) (de : Nat → Int32) (om : Nat) (a : Nat) (u : Nat) (fl : Nat) (ma : Nat → Int32) (j : Nat) (hn : n ≤ 9) (hj : j < n) : Ct l E yX8_asBrass cX8_asBrass 2 (some .int) (rmL 2 0 0) [.ref x, .int (nI j)] [(x, .inr (8, [.ref p, .ref r, .ref o, .ref h, .ref im, .ref ik, .ref w, .ref g, .ref c, .ref ch, .long tr])), (p, .inr (5, [.ref ph, .ref pd, .ref pm, .int (nI n), .int lg, .int sf, .int dg])), aI E ph 9 hi, aI E pd 9 de, (o, .inr (4, [.ref om, .int (nI a), .int (nI u), .int (nI fl)])), aI E om 9 ma] (fun (rv_ : Option Value) (rw_ : va_W) => rv_ = some (.int (hi j + de j)) ∧ rw_ = [(x, .inr (8, [.ref p, .ref r, .ref o, .ref h, .ref im, .ref ik, .ref w, .ref g, .ref c, .ref ch, .long ((tr + 10) + 1)])), (p, .inr (5, [.ref ph, .ref pd, .ref pm, .int (nI n), .int lg, .int sf, .int dg])), aI E ph 9 hi, aI E pd 9 de, (o, .inr (4, [.ref om, .int (nI a), .int (nI u), .int (nI fl)])), aI E om 9 ma]) 0 0 := by
  refine Ct_of (by decide) (Nat.le_of_ble_eq_true rfl) ?_
  intro k hkl hnl C hR hin_
  subst hkl
  show G k E 0 0 0 [some (.ref x), some (.int (nI j))] [] [(x, .inr (8, [.ref p, .ref r, .ref o, .ref h, .ref im, .ref ik, .ref w, .ref g, .ref c, .ref ch, .long tr])), (p, .inr (5, [.ref ph, .ref pd, .ref pm, .int (nI n), .int lg, .int sf, .int dg])), aI E ph 9 hi, aI E pd 9 de, (o, .inr (4, [.ref om, .int (nI a), .int (nI u), .int (nI fl)])), aI E om 9 ma]
  refine g_aload_n C dX8_asBrass_0 rfl ?_
  refine g_dup C dX8_asBrass_1 rfl ?_
  refine g_get C kwX8 0 rfl rfl 10 (by decide) kfX8_77 rfl dX8_asBrass_2 ?_
  refine g_ldc2 C dX8_asBrass_5 kkX8_251 ?_
  refine g_ladd C dX8_asBrass_8 ?_
  refine g_put (ws' := [(x, .inr (8, [.ref p, .ref r, .ref o, .ref h, .ref im, .ref ik, .ref w, .ref g, .ref c, .ref ch, .long (tr + 10)])), (p, .inr (5, [.ref ph, .ref pd, .ref pm, .int (nI n), .int lg, .int sf, .int dg])), aI E ph 9 hi, aI E pd 9 de, (o, .inr (4, [.ref om, .int (nI a), .int (nI u), .int (nI fl)])), aI E om 9 ma]) C kwX8 tyX8 tyX8_ok nmX8 0 rfl rfl 10 (by decide) kfX8_77 rfl rfl rfl (Nat.le_of_ble_eq_true rfl) rfl dX8_asBrass_9 ?_
  refine g_aload_n C dX8_asBrass_12 rfl ?_
  refine g_iload_n C dX8_asBrass_13 rfl ?_
  refine g_callV C (c_X8_asCoil k.l E x p r o h im ik w g c ch (tr + 10) ph pd pm n lg sf dg hi de om a u fl ma j (by first | assumption | omega) (by first | assumption | omega)) kmX8_218 kiX8_asCoil ksX8_asCoil knX8 kcX8_asCoil ⟨rfl, rfl⟩ ⟨rfl, kdX8_asCoil⟩ ⟨by decide, by decide⟩ ⟨by decide, by decide⟩ [0, 1, 2, 3, 4, 5] [] rfl (wr := []) rfl (by decide +kernel) (by decide +kernel) (by decide +kernel) 0 8 rfl rfl rfl (As := [.int (nI j)]) (rest := []) rfl (Nat.le_of_ble_eq_true rfl) dX8_asBrass_14 (fun rv_ rw_ hp_ => ?_)
  obtain ⟨rfl, rfl⟩ := hp_
  refine g_rep [0, 1, 2, 3, 4, 5] (ws' := [(x, .inr (8, [.ref p, .ref r, .ref o, .ref h, .ref im, .ref ik, .ref w, .ref g, .ref c, .ref ch, .long ((tr + 10) + 1)])), (p, .inr (5, [.ref ph, .ref pd, .ref pm, .int (nI n), .int lg, .int sf, .int dg])), aI E ph 9 hi, aI E pd 9 de, (o, .inr (4, [.ref om, .int (nI a), .int (nI u), .int (nI fl)])), aI E om 9 ma]) (st' := [.int (hi j)]) (n' := 0) (z' := 0) (pc' := 17) rfl rfl rfl rfl (by decide +kernel) rfl ?_
  refine g_aload_n C dX8_asBrass_17 rfl ?_
  refine g_get C kwX8 0 rfl rfl 0 (by decide) kfX8_12 rfl dX8_asBrass_18 ?_
  refine g_get C kwX5 1 rfl rfl 1 (by decide) kfX8_126 rfl dX8_asBrass_21 ?_
  refine g_iload_n C dX8_asBrass_24 rfl ?_
  refine g_iald C 3 j rfl (rfl) (by omega) (by decide) dX8_asBrass_25 ?_
  refine g_iadd C dX8_asBrass_26 ?_
  exact g_iret C hR (⟨rfl, rfl⟩) dX8_asBrass_27

set_option maxHeartbeats 4000000 in
set_option maxRecDepth 100000 in
theorem c_X8_asPaper (l : Launch) (E : EX) (x : Nat) (p : Nat) (r : Nat) (o : Nat) (h : Nat) (im : Nat) (ik : Nat) (w : Nat) (g : Nat) (c : Nat) (ch : Nat) (tr : Int64) (ph : Nat) (pd : Nat) (pm : Nat) (n : Nat) (lg : Int32) (sf : Int32) (dg : Int32) (hi : Nat → Int32) (de : Nat → Int32) (om : Nat) (a : Nat) (u : Nat) (fl : Nat) (ma : Nat → Int32) (j : Nat) (hn : n ≤ 9) (hj : j < n) : Ct l E yX8_asPaper cX8_asPaper 2 (some .int) (rmL 2 0 0) [.ref x, .int (nI j)] [(x, .inr (8, [.ref p, .ref r, .ref o, .ref h, .ref im, .ref ik, .ref w, .ref g, .ref c, .ref ch, .long tr])), (p, .inr (5, [.ref ph, .ref pd, .ref pm, .int (nI n), .int lg, .int sf, .int dg])), aI E ph 9 hi, aI E pd 9 de, (o, .inr (4, [.ref om, .int (nI a), .int (nI u), .int (nI fl)])), aI E om 9 ma] (fun (rv_ : Option Value) (rw_ : va_W) => rv_ = some (.int (hi j - 2 * ma j)) ∧ rw_ = [(x, .inr (8, [.ref p, .ref r, .ref o, .ref h, .ref im, .ref ik, .ref w, .ref g, .ref c, .ref ch, .long ((tr + 100) + 1)])), (p, .inr (5, [.ref ph, .ref pd, .ref pm, .int (nI n), .int lg, .int sf, .int dg])), aI E ph 9 hi, aI E pd 9 de, (o, .inr (4, [.ref om, .int (nI a), .int (nI u), .int (nI fl)])), aI E om 9 ma]) 0 0 := by
  refine Ct_of (by decide) (Nat.le_of_ble_eq_true rfl) ?_
  intro k hkl hnl C hR hin_
  subst hkl
  show G k E 0 0 0 [some (.ref x), some (.int (nI j))] [] [(x, .inr (8, [.ref p, .ref r, .ref o, .ref h, .ref im, .ref ik, .ref w, .ref g, .ref c, .ref ch, .long tr])), (p, .inr (5, [.ref ph, .ref pd, .ref pm, .int (nI n), .int lg, .int sf, .int dg])), aI E ph 9 hi, aI E pd 9 de, (o, .inr (4, [.ref om, .int (nI a), .int (nI u), .int (nI fl)])), aI E om 9 ma]
  refine g_aload_n C dX8_asPaper_0 rfl ?_
  refine g_dup C dX8_asPaper_1 rfl ?_
  refine g_get C kwX8 0 rfl rfl 10 (by decide) kfX8_77 rfl dX8_asPaper_2 ?_
  refine g_ldc2 C dX8_asPaper_5 kkX8_253 ?_
  refine g_ladd C dX8_asPaper_8 ?_
  refine g_put (ws' := [(x, .inr (8, [.ref p, .ref r, .ref o, .ref h, .ref im, .ref ik, .ref w, .ref g, .ref c, .ref ch, .long (tr + 100)])), (p, .inr (5, [.ref ph, .ref pd, .ref pm, .int (nI n), .int lg, .int sf, .int dg])), aI E ph 9 hi, aI E pd 9 de, (o, .inr (4, [.ref om, .int (nI a), .int (nI u), .int (nI fl)])), aI E om 9 ma]) C kwX8 tyX8 tyX8_ok nmX8 0 rfl rfl 10 (by decide) kfX8_77 rfl rfl rfl (Nat.le_of_ble_eq_true rfl) rfl dX8_asPaper_9 ?_
  refine g_aload_n C dX8_asPaper_12 rfl ?_
  refine g_iload_n C dX8_asPaper_13 rfl ?_
  refine g_callV C (c_X8_asCoil k.l E x p r o h im ik w g c ch (tr + 100) ph pd pm n lg sf dg hi de om a u fl ma j (by first | assumption | omega) (by first | assumption | omega)) kmX8_218 kiX8_asCoil ksX8_asCoil knX8 kcX8_asCoil ⟨rfl, rfl⟩ ⟨rfl, kdX8_asCoil⟩ ⟨by decide, by decide⟩ ⟨by decide, by decide⟩ [0, 1, 2, 3, 4, 5] [] rfl (wr := []) rfl (by decide +kernel) (by decide +kernel) (by decide +kernel) 0 8 rfl rfl rfl (As := [.int (nI j)]) (rest := []) rfl (Nat.le_of_ble_eq_true rfl) dX8_asPaper_14 (fun rv_ rw_ hp_ => ?_)
  obtain ⟨rfl, rfl⟩ := hp_
  refine g_rep [0, 1, 2, 3, 4, 5] (ws' := [(x, .inr (8, [.ref p, .ref r, .ref o, .ref h, .ref im, .ref ik, .ref w, .ref g, .ref c, .ref ch, .long ((tr + 100) + 1)])), (p, .inr (5, [.ref ph, .ref pd, .ref pm, .int (nI n), .int lg, .int sf, .int dg])), aI E ph 9 hi, aI E pd 9 de, (o, .inr (4, [.ref om, .int (nI a), .int (nI u), .int (nI fl)])), aI E om 9 ma]) (st' := [.int (hi j)]) (n' := 0) (z' := 0) (pc' := 17) rfl rfl rfl rfl (by decide +kernel) rfl ?_
  refine g_iconst (v := 2) C dX8_asPaper_17 (by decide) ?_
  refine g_aload_n C dX8_asPaper_18 rfl ?_
  refine g_get C kwX8 0 rfl rfl 2 (by decide) kfX8_26 rfl dX8_asPaper_19 ?_
  refine g_get C kwX4 4 rfl rfl 0 (by decide) kfX8_129 rfl dX8_asPaper_22 ?_
  refine g_iload_n C dX8_asPaper_25 rfl ?_
  refine g_iald C 5 j rfl (rfl) (by omega) (by decide) dX8_asPaper_26 ?_
  refine g_imul C dX8_asPaper_27 ?_
  refine g_isub C dX8_asPaper_28 ?_
  exact g_iret C hR (⟨rfl, rfl⟩) dX8_asPaper_29

set_option maxHeartbeats 4000000 in
set_option maxRecDepth 100000 in
theorem c_X8_asSilver (l : Launch) (E : EX) (x : Nat) (p : Nat) (r : Nat) (o : Nat) (h : Nat) (im : Nat) (ik : Nat) (w : Nat) (g : Nat) (c : Nat) (ch : Nat) (tr : Int64) (ph : Nat) (pd : Nat) (pm : Nat) (n : Nat) (lg : Int32) (sf : Int32) (dg : Int32) (hi : Nat → Int32) (de : Nat → Int32) (om : Nat) (a : Nat) (u : Nat) (fl : Nat) (ma : Nat → Int32) (j : Nat) (hn : n ≤ 9) (hj : j < n) : Ct l E yX8_asSilver cX8_asSilver 2 (some .int) (rmL 3 0 0) [.ref x, .int (nI j)] [(x, .inr (8, [.ref p, .ref r, .ref o, .ref h, .ref im, .ref ik, .ref w, .ref g, .ref c, .ref ch, .long tr])), (p, .inr (5, [.ref ph, .ref pd, .ref pm, .int (nI n), .int lg, .int sf, .int dg])), aI E ph 9 hi, aI E pd 9 de, (o, .inr (4, [.ref om, .int (nI a), .int (nI u), .int (nI fl)])), aI E om 9 ma] (fun (rv_ : Option Value) (rw_ : va_W) => rv_ = some (.int (2 * (hi j + de j))) ∧ rw_ = [(x, .inr (8, [.ref p, .ref r, .ref o, .ref h, .ref im, .ref ik, .ref w, .ref g, .ref c, .ref ch, .long (((tr + 1000) + 10) + 1)])), (p, .inr (5, [.ref ph, .ref pd, .ref pm, .int (nI n), .int lg, .int sf, .int dg])), aI E ph 9 hi, aI E pd 9 de, (o, .inr (4, [.ref om, .int (nI a), .int (nI u), .int (nI fl)])), aI E om 9 ma]) 0 0 := by
  refine Ct_of (by decide) (Nat.le_of_ble_eq_true rfl) ?_
  intro k hkl hnl C hR hin_
  subst hkl
  show G k E 0 0 0 [some (.ref x), some (.int (nI j))] [] [(x, .inr (8, [.ref p, .ref r, .ref o, .ref h, .ref im, .ref ik, .ref w, .ref g, .ref c, .ref ch, .long tr])), (p, .inr (5, [.ref ph, .ref pd, .ref pm, .int (nI n), .int lg, .int sf, .int dg])), aI E ph 9 hi, aI E pd 9 de, (o, .inr (4, [.ref om, .int (nI a), .int (nI u), .int (nI fl)])), aI E om 9 ma]
  refine g_aload_n C dX8_asSilver_0 rfl ?_
  refine g_dup C dX8_asSilver_1 rfl ?_
  refine g_get C kwX8 0 rfl rfl 10 (by decide) kfX8_77 rfl dX8_asSilver_2 ?_
  refine g_ldc2 C dX8_asSilver_5 kkX8_255 ?_
  refine g_ladd C dX8_asSilver_8 ?_
  refine g_put (ws' := [(x, .inr (8, [.ref p, .ref r, .ref o, .ref h, .ref im, .ref ik, .ref w, .ref g, .ref c, .ref ch, .long (tr + 1000)])), (p, .inr (5, [.ref ph, .ref pd, .ref pm, .int (nI n), .int lg, .int sf, .int dg])), aI E ph 9 hi, aI E pd 9 de, (o, .inr (4, [.ref om, .int (nI a), .int (nI u), .int (nI fl)])), aI E om 9 ma]) C kwX8 tyX8 tyX8_ok nmX8 0 rfl rfl 10 (by decide) kfX8_77 rfl rfl rfl (Nat.le_of_ble_eq_true rfl) rfl dX8_asSilver_9 ?_
  refine g_iconst (v := 2) C dX8_asSilver_12 (by decide) ?_
  refine g_aload_n C dX8_asSilver_13 rfl ?_
  refine g_iload_n C dX8_asSilver_14 rfl ?_
  refine g_callV C (c_X8_asBrass k.l E x p r o h im ik w g c ch (tr + 1000) ph pd pm n lg sf dg hi de om a u fl ma j (by first | assumption | omega) (by first | assumption | omega)) kmX8_221 kiX8_asBrass ksX8_asBrass knX8 kcX8_asBrass ⟨rfl, rfl⟩ ⟨rfl, kdX8_asBrass⟩ ⟨by decide, by decide⟩ ⟨by decide, by decide⟩ [0, 1, 2, 3, 4, 5] [] rfl (wr := []) rfl (by decide +kernel) (by decide +kernel) (by decide +kernel) 0 8 rfl rfl rfl (As := [.int (nI j)]) (rest := [.int 2]) rfl (Nat.le_of_ble_eq_true rfl) dX8_asSilver_15 (fun rv_ rw_ hp_ => ?_)
  obtain ⟨rfl, rfl⟩ := hp_
  refine g_rep [0, 1, 2, 3, 4, 5] (ws' := [(x, .inr (8, [.ref p, .ref r, .ref o, .ref h, .ref im, .ref ik, .ref w, .ref g, .ref c, .ref ch, .long (((tr + 1000) + 10) + 1)])), (p, .inr (5, [.ref ph, .ref pd, .ref pm, .int (nI n), .int lg, .int sf, .int dg])), aI E ph 9 hi, aI E pd 9 de, (o, .inr (4, [.ref om, .int (nI a), .int (nI u), .int (nI fl)])), aI E om 9 ma]) (st' := [.int (hi j + de j), .int 2]) (n' := 0) (z' := 0) (pc' := 18) rfl rfl rfl rfl (by decide +kernel) rfl ?_
  refine g_imul C dX8_asSilver_18 ?_
  exact g_iret C hR (⟨rfl, rfl⟩) dX8_asSilver_19

set_option maxHeartbeats 4000000 in
set_option maxRecDepth 100000 in
theorem c_X8_asTwine (l : Launch) (E : EX) (x : Nat) (p : Nat) (r : Nat) (o : Nat) (h : Nat) (im : Nat) (ik : Nat) (w : Nat) (g : Nat) (c : Nat) (ch : Nat) (tr : Int64) (ph : Nat) (pd : Nat) (pm : Nat) (n : Nat) (lg : Int32) (sf : Int32) (dg : Int32) (hi : Nat → Int32) (de : Nat → Int32) (om : Nat) (a : Nat) (u : Nat) (fl : Nat) (ma : Nat → Int32) (j : Nat) (hn : n ≤ 9) (hj : j < n) : Ct l E yX8_asTwine cX8_asTwine 2 (some .int) (rmL 3 0 0) [.ref x, .int (nI j)] [(x, .inr (8, [.ref p, .ref r, .ref o, .ref h, .ref im, .ref ik, .ref w, .ref g, .ref c, .ref ch, .long tr])), (p, .inr (5, [.ref ph, .ref pd, .ref pm, .int (nI n), .int lg, .int sf, .int dg])), aI E ph 9 hi, aI E pd 9 de, (o, .inr (4, [.ref om, .int (nI a), .int (nI u), .int (nI fl)])), aI E om 9 ma] (fun (rv_ : Option Value) (rw_ : va_W) => rv_ = some (.int ((hi j - 2 * ma j) + nI j)) ∧ rw_ = [(x, .inr (8, [.ref p, .ref r, .ref o, .ref h, .ref im, .ref ik, .ref w, .ref g, .ref c, .ref ch, .long (((tr + 10000) + 100) + 1)])), (p, .inr (5, [.ref ph, .ref pd, .ref pm, .int (nI n), .int lg, .int sf, .int dg])), aI E ph 9 hi, aI E pd 9 de, (o, .inr (4, [.ref om, .int (nI a), .int (nI u), .int (nI fl)])), aI E om 9 ma]) 0 0 := by
  refine Ct_of (by decide) (Nat.le_of_ble_eq_true rfl) ?_
  intro k hkl hnl C hR hin_
  subst hkl
  show G k E 0 0 0 [some (.ref x), some (.int (nI j))] [] [(x, .inr (8, [.ref p, .ref r, .ref o, .ref h, .ref im, .ref ik, .ref w, .ref g, .ref c, .ref ch, .long tr])), (p, .inr (5, [.ref ph, .ref pd, .ref pm, .int (nI n), .int lg, .int sf, .int dg])), aI E ph 9 hi, aI E pd 9 de, (o, .inr (4, [.ref om, .int (nI a), .int (nI u), .int (nI fl)])), aI E om 9 ma]
  refine g_aload_n C dX8_asTwine_0 rfl ?_
  refine g_dup C dX8_asTwine_1 rfl ?_
  refine g_get C kwX8 0 rfl rfl 10 (by decide) kfX8_77 rfl dX8_asTwine_2 ?_
  refine g_ldc2 C dX8_asTwine_5 kkX8_257 ?_
  refine g_ladd C dX8_asTwine_8 ?_
  refine g_put (ws' := [(x, .inr (8, [.ref p, .ref r, .ref o, .ref h, .ref im, .ref ik, .ref w, .ref g, .ref c, .ref ch, .long (tr + 10000)])), (p, .inr (5, [.ref ph, .ref pd, .ref pm, .int (nI n), .int lg, .int sf, .int dg])), aI E ph 9 hi, aI E pd 9 de, (o, .inr (4, [.ref om, .int (nI a), .int (nI u), .int (nI fl)])), aI E om 9 ma]) C kwX8 tyX8 tyX8_ok nmX8 0 rfl rfl 10 (by decide) kfX8_77 rfl rfl rfl (Nat.le_of_ble_eq_true rfl) rfl dX8_asTwine_9 ?_
  refine g_aload_n C dX8_asTwine_12 rfl ?_
  refine g_iload_n C dX8_asTwine_13 rfl ?_
  refine g_callV C (c_X8_asPaper k.l E x p r o h im ik w g c ch (tr + 10000) ph pd pm n lg sf dg hi de om a u fl ma j (by first | assumption | omega) (by first | assumption | omega)) kmX8_224 kiX8_asPaper ksX8_asPaper knX8 kcX8_asPaper ⟨rfl, rfl⟩ ⟨rfl, kdX8_asPaper⟩ ⟨by decide, by decide⟩ ⟨by decide, by decide⟩ [0, 1, 2, 3, 4, 5] [] rfl (wr := []) rfl (by decide +kernel) (by decide +kernel) (by decide +kernel) 0 8 rfl rfl rfl (As := [.int (nI j)]) (rest := []) rfl (Nat.le_of_ble_eq_true rfl) dX8_asTwine_14 (fun rv_ rw_ hp_ => ?_)
  obtain ⟨rfl, rfl⟩ := hp_
  refine g_rep [0, 1, 2, 3, 4, 5] (ws' := [(x, .inr (8, [.ref p, .ref r, .ref o, .ref h, .ref im, .ref ik, .ref w, .ref g, .ref c, .ref ch, .long (((tr + 10000) + 100) + 1)])), (p, .inr (5, [.ref ph, .ref pd, .ref pm, .int (nI n), .int lg, .int sf, .int dg])), aI E ph 9 hi, aI E pd 9 de, (o, .inr (4, [.ref om, .int (nI a), .int (nI u), .int (nI fl)])), aI E om 9 ma]) (st' := [.int (hi j - 2 * ma j)]) (n' := 0) (z' := 0) (pc' := 17) rfl rfl rfl rfl (by decide +kernel) rfl ?_
  refine g_iload_n C dX8_asTwine_17 rfl ?_
  refine g_iadd C dX8_asTwine_18 ?_
  exact g_iret C hR (⟨rfl, rfl⟩) dX8_asTwine_19

set_option maxHeartbeats 4000000 in
set_option maxRecDepth 100000 in
theorem c_X8_asLead (l : Launch) (E : EX) (x : Nat) (p : Nat) (r : Nat) (o : Nat) (h : Nat) (im : Nat) (ik : Nat) (w : Nat) (g : Nat) (c : Nat) (ch : Nat) (tr : Int64) (ph : Nat) (pd : Nat) (pm : Nat) (n : Nat) (lg : Int32) (sf : Int32) (dg : Int32) (hi : Nat → Int32) (de : Nat → Int32) (om : Nat) (a : Nat) (u : Nat) (fl : Nat) (ma : Nat → Int32) (j : Nat) (hn : n ≤ 9) (hj : j < n) : Ct l E yX8_asLead cX8_asLead 2 (some .int) (rmL 2 0 0) [.ref x, .int (nI j)] [(x, .inr (8, [.ref p, .ref r, .ref o, .ref h, .ref im, .ref ik, .ref w, .ref g, .ref c, .ref ch, .long tr])), (p, .inr (5, [.ref ph, .ref pd, .ref pm, .int (nI n), .int lg, .int sf, .int dg])), aI E ph 9 hi, aI E pd 9 de, (o, .inr (4, [.ref om, .int (nI a), .int (nI u), .int (nI fl)])), aI E om 9 ma] (fun (rv_ : Option Value) (rw_ : va_W) => rv_ = some (.int (hi j + nI u)) ∧ rw_ = [(x, .inr (8, [.ref p, .ref r, .ref o, .ref h, .ref im, .ref ik, .ref w, .ref g, .ref c, .ref ch, .long ((tr + 100000) + 1)])), (p, .inr (5, [.ref ph, .ref pd, .ref pm, .int (nI n), .int lg, .int sf, .int dg])), aI E ph 9 hi, aI E pd 9 de, (o, .inr (4, [.ref om, .int (nI a), .int (nI u), .int (nI fl)])), aI E om 9 ma]) 0 0 := by
  refine Ct_of (by decide) (Nat.le_of_ble_eq_true rfl) ?_
  intro k hkl hnl C hR hin_
  subst hkl
  show G k E 0 0 0 [some (.ref x), some (.int (nI j))] [] [(x, .inr (8, [.ref p, .ref r, .ref o, .ref h, .ref im, .ref ik, .ref w, .ref g, .ref c, .ref ch, .long tr])), (p, .inr (5, [.ref ph, .ref pd, .ref pm, .int (nI n), .int lg, .int sf, .int dg])), aI E ph 9 hi, aI E pd 9 de, (o, .inr (4, [.ref om, .int (nI a), .int (nI u), .int (nI fl)])), aI E om 9 ma]
  refine g_aload_n C dX8_asLead_0 rfl ?_
  refine g_dup C dX8_asLead_1 rfl ?_
  refine g_get C kwX8 0 rfl rfl 10 (by decide) kfX8_77 rfl dX8_asLead_2 ?_
  refine g_ldc2 C dX8_asLead_5 kkX8_259 ?_
  refine g_ladd C dX8_asLead_8 ?_
  refine g_put (ws' := [(x, .inr (8, [.ref p, .ref r, .ref o, .ref h, .ref im, .ref ik, .ref w, .ref g, .ref c, .ref ch, .long (tr + 100000)])), (p, .inr (5, [.ref ph, .ref pd, .ref pm, .int (nI n), .int lg, .int sf, .int dg])), aI E ph 9 hi, aI E pd 9 de, (o, .inr (4, [.ref om, .int (nI a), .int (nI u), .int (nI fl)])), aI E om 9 ma]) C kwX8 tyX8 tyX8_ok nmX8 0 rfl rfl 10 (by decide) kfX8_77 rfl rfl rfl (Nat.le_of_ble_eq_true rfl) rfl dX8_asLead_9 ?_
  refine g_aload_n C dX8_asLead_12 rfl ?_
  refine g_iload_n C dX8_asLead_13 rfl ?_
  refine g_callV C (c_X8_asCoil k.l E x p r o h im ik w g c ch (tr + 100000) ph pd pm n lg sf dg hi de om a u fl ma j (by first | assumption | omega) (by first | assumption | omega)) kmX8_218 kiX8_asCoil ksX8_asCoil knX8 kcX8_asCoil ⟨rfl, rfl⟩ ⟨rfl, kdX8_asCoil⟩ ⟨by decide, by decide⟩ ⟨by decide, by decide⟩ [0, 1, 2, 3, 4, 5] [] rfl (wr := []) rfl (by decide +kernel) (by decide +kernel) (by decide +kernel) 0 8 rfl rfl rfl (As := [.int (nI j)]) (rest := []) rfl (Nat.le_of_ble_eq_true rfl) dX8_asLead_14 (fun rv_ rw_ hp_ => ?_)
  obtain ⟨rfl, rfl⟩ := hp_
  refine g_rep [0, 1, 2, 3, 4, 5] (ws' := [(x, .inr (8, [.ref p, .ref r, .ref o, .ref h, .ref im, .ref ik, .ref w, .ref g, .ref c, .ref ch, .long ((tr + 100000) + 1)])), (p, .inr (5, [.ref ph, .ref pd, .ref pm, .int (nI n), .int lg, .int sf, .int dg])), aI E ph 9 hi, aI E pd 9 de, (o, .inr (4, [.ref om, .int (nI a), .int (nI u), .int (nI fl)])), aI E om 9 ma]) (st' := [.int (hi j)]) (n' := 0) (z' := 0) (pc' := 17) rfl rfl rfl rfl (by decide +kernel) rfl ?_
  refine g_aload_n C dX8_asLead_17 rfl ?_
  refine g_get C kwX8 0 rfl rfl 2 (by decide) kfX8_26 rfl dX8_asLead_18 ?_
  refine g_get C kwX4 4 rfl rfl 2 (by decide) kfX8_135 rfl dX8_asLead_21 ?_
  refine g_iadd C dX8_asLead_24 ?_
  exact g_iret C hR (⟨rfl, rfl⟩) dX8_asLead_25

set_option maxHeartbeats 4000000 in
set_option maxRecDepth 100000 in
theorem c_X8_rate (l : Launch) (E : EX) (x : Nat) (p : Nat) (r : Nat) (o : Nat) (h : Nat) (im : Nat) (ik : Nat) (w : Nat) (g : Nat) (c : Nat) (ch : Nat) (tr : Int64) (ph : Nat) (pd : Nat) (pm : Nat) (n : Nat) (lg : Int32) (sf : Int32) (dg : Int32) (hi : Nat → Int32) (de : Nat → Int32) (om : Nat) (a : Nat) (u : Nat) (fl : Nat) (ma : Nat → Int32) (j : Nat) (y : Int32) (hn : n ≤ 9) (hj : j < n) : Ct l E yX8_rate cX8_rate 3 (some .int) (rmL 4 0 0) [.ref x, .int y, .int (nI j)] [(x, .inr (8, [.ref p, .ref r, .ref o, .ref h, .ref im, .ref ik, .ref w, .ref g, .ref c, .ref ch, .long tr])), (p, .inr (5, [.ref ph, .ref pd, .ref pm, .int (nI n), .int lg, .int sf, .int dg])), aI E ph 9 hi, aI E pd 9 de, (o, .inr (4, [.ref om, .int (nI a), .int (nI u), .int (nI fl)])), aI E om 9 ma] (fun (rv_ : Option Value) (rw_ : va_W) => rv_ = some (.int (if y = 0 then hi j else if y = 1 then hi j + de j else if y = 2 then hi j - 2 * ma j else if y = 3 then 2 * (hi j + de j) else if y = 4 then (hi j - 2 * ma j) + nI j else if y = 5 then hi j + nI u else -1000000)) ∧ rw_ = [(x, .inr (8, [.ref p, .ref r, .ref o, .ref h, .ref im, .ref ik, .ref w, .ref g, .ref c, .ref ch, .long (if y = 0 then tr + 1 else if y = 1 then (tr + 10) + 1 else if y = 2 then (tr + 100) + 1 else if y = 3 then ((tr + 1000) + 10) + 1 else if y = 4 then ((tr + 10000) + 100) + 1 else if y = 5 then (tr + 100000) + 1 else tr)])), (p, .inr (5, [.ref ph, .ref pd, .ref pm, .int (nI n), .int lg, .int sf, .int dg])), aI E ph 9 hi, aI E pd 9 de, (o, .inr (4, [.ref om, .int (nI a), .int (nI u), .int (nI fl)])), aI E om 9 ma]) 0 0 := by
  refine Ct_of (by decide) (Nat.le_of_ble_eq_true rfl) ?_
  intro k hkl hnl C hR hin_
  subst hkl
  show G k E 0 0 0 [some (.ref x), some (.int y), some (.int (nI j))] [] [(x, .inr (8, [.ref p, .ref r, .ref o, .ref h, .ref im, .ref ik, .ref w, .ref g, .ref c, .ref ch, .long tr])), (p, .inr (5, [.ref ph, .ref pd, .ref pm, .int (nI n), .int lg, .int sf, .int dg])), aI E ph 9 hi, aI E pd 9 de, (o, .inr (4, [.ref om, .int (nI a), .int (nI u), .int (nI fl)])), aI E om 9 ma]
  refine g_aload_n C dX8_rate_0 rfl ?_
  refine g_get C kwX8 0 rfl rfl 0 (by decide) kfX8_12 rfl dX8_rate_1 ?_
  refine g_iload_n C dX8_rate_4 rfl ?_
  refine g_callV C (c_X5_has k.l E p ph pd pm (nI n) lg sf dg (nI j)) kmX8_118 kiX5_has ksX5_has knX5 kcX5_has ⟨rfl, rfl⟩ ⟨rfl, kdX5_has⟩ ⟨by decide, by decide⟩ ⟨by decide, by decide⟩ [1] [0, 2, 3, 4, 5] rfl (wr := [(x, .inr (8, [.ref p, .ref r, .ref o, .ref h, .ref im, .ref ik, .ref w, .ref g, .ref c, .ref ch, .long tr])), aI E ph 9 hi, aI E pd 9 de, (o, .inr (4, [.ref om, .int (nI a), .int (nI u), .int (nI fl)])), aI E om 9 ma]) rfl (by decide +kernel) (by decide +kernel) (by decide +kernel) 1 5 rfl rfl rfl (As := [.int (nI j)]) (rest := []) rfl (Nat.le_of_ble_eq_true rfl) dX8_rate_5 (fun rv_ rw_ hp_ => ?_)
  obtain ⟨rfl, rfl⟩ := hp_
  refine g_rep [0, 5, 1, 2, 3, 4] (ws' := [(x, .inr (8, [.ref p, .ref r, .ref o, .ref h, .ref im, .ref ik, .ref w, .ref g, .ref c, .ref ch, .long tr])), (p, .inr (5, [.ref ph, .ref pd, .ref pm, .int (nI n), .int lg, .int sf, .int dg])), aI E ph 9 hi, aI E pd 9 de, (o, .inr (4, [.ref om, .int (nI a), .int (nI u), .int (nI fl)])), aI E om 9 ma]) (st' := [.int (bI (0 ≤ (nI j) ∧ (nI j) ≤ (nI n) - 1))]) (n' := 0) (z' := 0) (pc' := 8) rfl rfl rfl rfl (by decide +kernel) rfl ?_
  refine g_if_ne (tgt := 14) C dX8_rate_8 (by decide) (fun c8 => ?_) (fun c8 => ?_)
  · skip
    refine g_iload_n C dX8_rate_14 rfl ?_
    by_cases h0 : y = 0
    · skip
      refine g_tin (off := 37) (tgt := 52) C dX8_rate_15 (by rw [h0]; decide) (by rw [h0]; decide) (by rw [h0]; decide) (by decide) ?_
      refine g_aload_n C dX8_rate_52 rfl ?_
      refine g_iload_n C dX8_rate_53 rfl ?_
      refine g_callV C (c_X8_asCoil k.l E x p r o h im ik w g c ch tr ph pd pm n lg sf dg hi de om a u fl ma j (by first | assumption | omega) (by first | assumption | omega)) kmX8_218 kiX8_asCoil ksX8_asCoil knX8 kcX8_asCoil ⟨rfl, rfl⟩ ⟨rfl, kdX8_asCoil⟩ ⟨by decide, by decide⟩ ⟨by decide, by decide⟩ [0, 1, 2, 3, 4, 5] [] rfl (wr := []) rfl (by decide +kernel) (by decide +kernel) (by decide +kernel) 0 8 rfl rfl rfl (As := [.int (nI j)]) (rest := []) rfl (Nat.le_of_ble_eq_true rfl) dX8_rate_54 (fun rv_ rw_ hp_ => ?_)
      obtain ⟨rfl, rfl⟩ := hp_
      refine g_rep [0, 1, 2, 3, 4, 5] (ws' := [(x, .inr (8, [.ref p, .ref r, .ref o, .ref h, .ref im, .ref ik, .ref w, .ref g, .ref c, .ref ch, .long (tr + 1)])), (p, .inr (5, [.ref ph, .ref pd, .ref pm, .int (nI n), .int lg, .int sf, .int dg])), aI E ph 9 hi, aI E pd 9 de, (o, .inr (4, [.ref om, .int (nI a), .int (nI u), .int (nI fl)])), aI E om 9 ma]) (st' := [.int (hi j)]) (n' := 0) (z' := 0) (pc' := 57) rfl rfl rfl rfl (by decide +kernel) rfl ?_
      exact g_iret C hR (⟨by rw [if_pos h0], by rw [if_pos h0]⟩) dX8_rate_57
    · skip
      by_cases h1 : y = 1
      · skip
        refine g_tin (off := 43) (tgt := 58) C dX8_rate_15 (by rw [h1]; decide) (by rw [h1]; decide) (by rw [h1]; decide) (by decide) ?_
        refine g_aload_n C dX8_rate_58 rfl ?_
        refine g_iload_n C dX8_rate_59 rfl ?_
        refine g_callV C (c_X8_asBrass k.l E x p r o h im ik w g c ch tr ph pd pm n lg sf dg hi de om a u fl ma j (by first | assumption | omega) (by first | assumption | omega)) kmX8_221 kiX8_asBrass ksX8_asBrass knX8 kcX8_asBrass ⟨rfl, rfl⟩ ⟨rfl, kdX8_asBrass⟩ ⟨by decide, by decide⟩ ⟨by decide, by decide⟩ [0, 1, 2, 3, 4, 5] [] rfl (wr := []) rfl (by decide +kernel) (by decide +kernel) (by decide +kernel) 0 8 rfl rfl rfl (As := [.int (nI j)]) (rest := []) rfl (Nat.le_of_ble_eq_true rfl) dX8_rate_60 (fun rv_ rw_ hp_ => ?_)
        obtain ⟨rfl, rfl⟩ := hp_
        refine g_rep [0, 1, 2, 3, 4, 5] (ws' := [(x, .inr (8, [.ref p, .ref r, .ref o, .ref h, .ref im, .ref ik, .ref w, .ref g, .ref c, .ref ch, .long ((tr + 10) + 1)])), (p, .inr (5, [.ref ph, .ref pd, .ref pm, .int (nI n), .int lg, .int sf, .int dg])), aI E ph 9 hi, aI E pd 9 de, (o, .inr (4, [.ref om, .int (nI a), .int (nI u), .int (nI fl)])), aI E om 9 ma]) (st' := [.int (hi j + de j)]) (n' := 0) (z' := 0) (pc' := 63) rfl rfl rfl rfl (by decide +kernel) rfl ?_
        exact g_iret C hR (⟨by rw [if_neg h0, if_pos h1], by rw [if_neg h0, if_pos h1]⟩) dX8_rate_63
      · skip
        by_cases h2 : y = 2
        · skip
          refine g_tin (off := 49) (tgt := 64) C dX8_rate_15 (by rw [h2]; decide) (by rw [h2]; decide) (by rw [h2]; decide) (by decide) ?_
          refine g_aload_n C dX8_rate_64 rfl ?_
          refine g_iload_n C dX8_rate_65 rfl ?_
          refine g_callV C (c_X8_asPaper k.l E x p r o h im ik w g c ch tr ph pd pm n lg sf dg hi de om a u fl ma j (by first | assumption | omega) (by first | assumption | omega)) kmX8_224 kiX8_asPaper ksX8_asPaper knX8 kcX8_asPaper ⟨rfl, rfl⟩ ⟨rfl, kdX8_asPaper⟩ ⟨by decide, by decide⟩ ⟨by decide, by decide⟩ [0, 1, 2, 3, 4, 5] [] rfl (wr := []) rfl (by decide +kernel) (by decide +kernel) (by decide +kernel) 0 8 rfl rfl rfl (As := [.int (nI j)]) (rest := []) rfl (Nat.le_of_ble_eq_true rfl) dX8_rate_66 (fun rv_ rw_ hp_ => ?_)
          obtain ⟨rfl, rfl⟩ := hp_
          refine g_rep [0, 1, 2, 3, 4, 5] (ws' := [(x, .inr (8, [.ref p, .ref r, .ref o, .ref h, .ref im, .ref ik, .ref w, .ref g, .ref c, .ref ch, .long ((tr + 100) + 1)])), (p, .inr (5, [.ref ph, .ref pd, .ref pm, .int (nI n), .int lg, .int sf, .int dg])), aI E ph 9 hi, aI E pd 9 de, (o, .inr (4, [.ref om, .int (nI a), .int (nI u), .int (nI fl)])), aI E om 9 ma]) (st' := [.int (hi j - 2 * ma j)]) (n' := 0) (z' := 0) (pc' := 69) rfl rfl rfl rfl (by decide +kernel) rfl ?_
          exact g_iret C hR (⟨by rw [if_neg h0, if_neg h1, if_pos h2], by rw [if_neg h0, if_neg h1, if_pos h2]⟩) dX8_rate_69
        · skip
          by_cases h3 : y = 3
          · skip
            refine g_tin (off := 55) (tgt := 70) C dX8_rate_15 (by rw [h3]; decide) (by rw [h3]; decide) (by rw [h3]; decide) (by decide) ?_
            refine g_aload_n C dX8_rate_70 rfl ?_
            refine g_iload_n C dX8_rate_71 rfl ?_
            refine g_callV C (c_X8_asSilver k.l E x p r o h im ik w g c ch tr ph pd pm n lg sf dg hi de om a u fl ma j (by first | assumption | omega) (by first | assumption | omega)) kmX8_227 kiX8_asSilver ksX8_asSilver knX8 kcX8_asSilver ⟨rfl, rfl⟩ ⟨rfl, kdX8_asSilver⟩ ⟨by decide, by decide⟩ ⟨by decide, by decide⟩ [0, 1, 2, 3, 4, 5] [] rfl (wr := []) rfl (by decide +kernel) (by decide +kernel) (by decide +kernel) 0 8 rfl rfl rfl (As := [.int (nI j)]) (rest := []) rfl (Nat.le_of_ble_eq_true rfl) dX8_rate_72 (fun rv_ rw_ hp_ => ?_)
            obtain ⟨rfl, rfl⟩ := hp_
            refine g_rep [0, 1, 2, 3, 4, 5] (ws' := [(x, .inr (8, [.ref p, .ref r, .ref o, .ref h, .ref im, .ref ik, .ref w, .ref g, .ref c, .ref ch, .long (((tr + 1000) + 10) + 1)])), (p, .inr (5, [.ref ph, .ref pd, .ref pm, .int (nI n), .int lg, .int sf, .int dg])), aI E ph 9 hi, aI E pd 9 de, (o, .inr (4, [.ref om, .int (nI a), .int (nI u), .int (nI fl)])), aI E om 9 ma]) (st' := [.int (2 * (hi j + de j))]) (n' := 0) (z' := 0) (pc' := 75) rfl rfl rfl rfl (by decide +kernel) rfl ?_
            exact g_iret C hR (⟨by rw [if_neg h0, if_neg h1, if_neg h2, if_pos h3], by rw [if_neg h0, if_neg h1, if_neg h2, if_pos h3]⟩) dX8_rate_75
          · skip
            by_cases h4 : y = 4
            · skip
              refine g_tin (off := 61) (tgt := 76) C dX8_rate_15 (by rw [h4]; decide) (by rw [h4]; decide) (by rw [h4]; decide) (by decide) ?_
              refine g_aload_n C dX8_rate_76 rfl ?_
              refine g_iload_n C dX8_rate_77 rfl ?_
              refine g_callV C (c_X8_asTwine k.l E x p r o h im ik w g c ch tr ph pd pm n lg sf dg hi de om a u fl ma j (by first | assumption | omega) (by first | assumption | omega)) kmX8_230 kiX8_asTwine ksX8_asTwine knX8 kcX8_asTwine ⟨rfl, rfl⟩ ⟨rfl, kdX8_asTwine⟩ ⟨by decide, by decide⟩ ⟨by decide, by decide⟩ [0, 1, 2, 3, 4, 5] [] rfl (wr := []) rfl (by decide +kernel) (by decide +kernel) (by decide +kernel) 0 8 rfl rfl rfl (As := [.int (nI j)]) (rest := []) rfl (Nat.le_of_ble_eq_true rfl) dX8_rate_78 (fun rv_ rw_ hp_ => ?_)
              obtain ⟨rfl, rfl⟩ := hp_
              refine g_rep [0, 1, 2, 3, 4, 5] (ws' := [(x, .inr (8, [.ref p, .ref r, .ref o, .ref h, .ref im, .ref ik, .ref w, .ref g, .ref c, .ref ch, .long (((tr + 10000) + 100) + 1)])), (p, .inr (5, [.ref ph, .ref pd, .ref pm, .int (nI n), .int lg, .int sf, .int dg])), aI E ph 9 hi, aI E pd 9 de, (o, .inr (4, [.ref om, .int (nI a), .int (nI u), .int (nI fl)])), aI E om 9 ma]) (st' := [.int ((hi j - 2 * ma j) + nI j)]) (n' := 0) (z' := 0) (pc' := 81) rfl rfl rfl rfl (by decide +kernel) rfl ?_
              exact g_iret C hR (⟨by rw [if_neg h0, if_neg h1, if_neg h2, if_neg h3, if_pos h4], by rw [if_neg h0, if_neg h1, if_neg h2, if_neg h3, if_pos h4]⟩) dX8_rate_81
            · skip
              by_cases h5 : y = 5
              · skip
                refine g_tin (off := 67) (tgt := 82) C dX8_rate_15 (by rw [h5]; decide) (by rw [h5]; decide) (by rw [h5]; decide) (by decide) ?_
                refine g_aload_n C dX8_rate_82 rfl ?_
                refine g_iload_n C dX8_rate_83 rfl ?_
                refine g_callV C (c_X8_asLead k.l E x p r o h im ik w g c ch tr ph pd pm n lg sf dg hi de om a u fl ma j (by first | assumption | omega) (by first | assumption | omega)) kmX8_233 kiX8_asLead ksX8_asLead knX8 kcX8_asLead ⟨rfl, rfl⟩ ⟨rfl, kdX8_asLead⟩ ⟨by decide, by decide⟩ ⟨by decide, by decide⟩ [0, 1, 2, 3, 4, 5] [] rfl (wr := []) rfl (by decide +kernel) (by decide +kernel) (by decide +kernel) 0 8 rfl rfl rfl (As := [.int (nI j)]) (rest := []) rfl (Nat.le_of_ble_eq_true rfl) dX8_rate_84 (fun rv_ rw_ hp_ => ?_)
                obtain ⟨rfl, rfl⟩ := hp_
                refine g_rep [0, 1, 2, 3, 4, 5] (ws' := [(x, .inr (8, [.ref p, .ref r, .ref o, .ref h, .ref im, .ref ik, .ref w, .ref g, .ref c, .ref ch, .long ((tr + 100000) + 1)])), (p, .inr (5, [.ref ph, .ref pd, .ref pm, .int (nI n), .int lg, .int sf, .int dg])), aI E ph 9 hi, aI E pd 9 de, (o, .inr (4, [.ref om, .int (nI a), .int (nI u), .int (nI fl)])), aI E om 9 ma]) (st' := [.int (hi j + nI u)]) (n' := 0) (z' := 0) (pc' := 87) rfl rfl rfl rfl (by decide +kernel) rfl ?_
                exact g_iret C hR (⟨by rw [if_neg h0, if_neg h1, if_neg h2, if_neg h3, if_neg h4, if_pos h5], by rw [if_neg h0, if_neg h1, if_neg h2, if_neg h3, if_neg h4, if_pos h5]⟩) dX8_rate_87
              · skip
                refine g_tout (tgt := 88) C dX8_rate_15 (by have q0 := lv_neT h0 (by decide : (0 : Int32).toInt = 0); have q1 := lv_neT h1 (by decide : (1 : Int32).toInt = 1); have q2 := lv_neT h2 (by decide : (2 : Int32).toInt = 2); have q3 := lv_neT h3 (by decide : (3 : Int32).toInt = 3); have q4 := lv_neT h4 (by decide : (4 : Int32).toInt = 4); have q5 := lv_neT h5 (by decide : (5 : Int32).toInt = 5); omega) (by decide) ?_
                refine g_ldc C dX8_rate_88 kkX8_217 ?_
                exact g_iret C hR (⟨by rw [if_neg h0, if_neg h1, if_neg h2, if_neg h3, if_neg h4, if_neg h5], by rw [if_neg h0, if_neg h1, if_neg h2, if_neg h3, if_neg h4, if_neg h5]⟩) dX8_rate_90
  · skip
    exact absurd (has_t hj (by omega)) (bI_0 c8)

set_option maxHeartbeats 4000000 in
set_option maxRecDepth 100000 in
theorem c_X8_rateB (l : Launch) (E : EX) (x : Nat) (p : Nat) (r : Nat) (o : Nat) (h : Nat) (im : Nat) (ik : Nat) (w : Nat) (g : Nat) (c : Nat) (ch : Nat) (tr : Int64) (ph : Nat) (pd : Nat) (pm : Nat) (n0 : Int32) (lg : Int32) (sf : Int32) (dg : Int32) (y : Int32) (z0 : Int32) (hb : ¬ (0 ≤ z0 ∧ z0 ≤ n0 - 1)) : Ct l E yX8_rate cX8_rate 3 (some .int) (rmL 4 0 0) [.ref x, .int y, .int z0] [(x, .inr (8, [.ref p, .ref r, .ref o, .ref h, .ref im, .ref ik, .ref w, .ref g, .ref c, .ref ch, .long tr])), (p, .inr (5, [.ref ph, .ref pd, .ref pm, .int n0, .int lg, .int sf, .int dg]))] (fun (rv_ : Option Value) (rw_ : va_W) => rv_ = some (.int (-1000000)) ∧ rw_ = [(x, .inr (8, [.ref p, .ref r, .ref o, .ref h, .ref im, .ref ik, .ref w, .ref g, .ref c, .ref ch, .long tr])), (p, .inr (5, [.ref ph, .ref pd, .ref pm, .int n0, .int lg, .int sf, .int dg]))]) 0 0 := by
  refine Ct_of (by decide) (Nat.le_of_ble_eq_true rfl) ?_
  intro k hkl hnl C hR hin_
  subst hkl
  show G k E 0 0 0 [some (.ref x), some (.int y), some (.int z0)] [] [(x, .inr (8, [.ref p, .ref r, .ref o, .ref h, .ref im, .ref ik, .ref w, .ref g, .ref c, .ref ch, .long tr])), (p, .inr (5, [.ref ph, .ref pd, .ref pm, .int n0, .int lg, .int sf, .int dg]))]
  refine g_aload_n C dX8_rate_0 rfl ?_
  refine g_get C kwX8 0 rfl rfl 0 (by decide) kfX8_12 rfl dX8_rate_1 ?_
  refine g_iload_n C dX8_rate_4 rfl ?_
  refine g_callV C (c_X5_has k.l E p ph pd pm n0 lg sf dg z0) kmX8_118 kiX5_has ksX5_has knX5 kcX5_has ⟨rfl, rfl⟩ ⟨rfl, kdX5_has⟩ ⟨by decide, by decide⟩ ⟨by decide, by decide⟩ [1] [0] rfl (wr := [(x, .inr (8, [.ref p, .ref r, .ref o, .ref h, .ref im, .ref ik, .ref w, .ref g, .ref c, .ref ch, .long tr]))]) rfl (by decide +kernel) (by decide +kernel) (by decide +kernel) 1 5 rfl rfl rfl (As := [.int z0]) (rest := []) rfl (Nat.le_of_ble_eq_true rfl) dX8_rate_5 (fun rv_ rw_ hp_ => ?_)
  obtain ⟨rfl, rfl⟩ := hp_
  refine g_rep [0, 1] (ws' := [(x, .inr (8, [.ref p, .ref r, .ref o, .ref h, .ref im, .ref ik, .ref w, .ref g, .ref c, .ref ch, .long tr])), (p, .inr (5, [.ref ph, .ref pd, .ref pm, .int n0, .int lg, .int sf, .int dg]))]) (st' := [.int (bI (0 ≤ z0 ∧ z0 ≤ n0 - 1))]) (n' := 0) (z' := 0) (pc' := 8) rfl rfl rfl rfl (by decide +kernel) rfl ?_
  refine g_if_ne (tgt := 14) C dX8_rate_8 (by decide) (fun c8 => ?_) (fun c8 => ?_)
  · skip
    exact absurd (bI_1 c8) hb
  · skip
    refine g_ldc C dX8_rate_11 kkX8_217 ?_
    exact g_iret C hR (⟨rfl, rfl⟩) dX8_rate_13

set_option maxHeartbeats 4000000 in
set_option maxRecDepth 100000 in
theorem c_X8_typeB (l : Launch) (E : EX) (x : Nat) (p : Nat) (r : Nat) (o : Nat) (h : Nat) (im : Nat) (ik : Nat) (w : Nat) (g : Nat) (c : Nat) (ch : Nat) (tr : Int64) (y : Int32) (hb : ¬ (0 ≤ y ∧ y ≤ 255)) : Ct l E yX8_type cX8_type 2 (some .int) (rmL 2 0 0) [.ref x, .int y] [(x, .inr (8, [.ref p, .ref r, .ref o, .ref h, .ref im, .ref ik, .ref w, .ref g, .ref c, .ref ch, .long tr]))] (fun (rv_ : Option Value) (rw_ : va_W) => rv_ = some (.int (-1)) ∧ rw_ = [(x, .inr (8, [.ref p, .ref r, .ref o, .ref h, .ref im, .ref ik, .ref w, .ref g, .ref c, .ref ch, .long tr]))]) 0 0 := by
  refine Ct_of (by decide) (Nat.le_of_ble_eq_true rfl) ?_
  intro k hkl hnl C hR hin_
  subst hkl
  show G k E 0 0 0 [some (.ref x), some (.int y)] [] [(x, .inr (8, [.ref p, .ref r, .ref o, .ref h, .ref im, .ref ik, .ref w, .ref g, .ref c, .ref ch, .long tr]))]
  refine g_iload_n C dX8_type_0 rfl ?_
  refine g_iconst (v := 0) C dX8_type_1 (by decide) ?_
  refine g_sipush (v := 255) C dX8_type_2 (by decide) ?_
  refine g_callS C (c_X8_within k.l E y 0 255) kmX8_81 ktX8_within knX8 kcX8_within ⟨rfl, rfl⟩ kdX8_within ⟨by decide, by decide⟩ ⟨by decide, by decide⟩ [] [0] rfl (wr := [(x, .inr (8, [.ref p, .ref r, .ref o, .ref h, .ref im, .ref ik, .ref w, .ref g, .ref c, .ref ch, .long tr]))]) rfl (by decide +kernel) (by decide +kernel) (by decide +kernel) rfl (As := [.int y, .int 0, .int 255]) (rest := []) rfl (Nat.le_of_ble_eq_true rfl) dX8_type_5 (fun rv_ rw_ hp_ => ?_)
  obtain ⟨rfl, rfl⟩ := hp_
  refine g_rep [0] (ws' := [(x, .inr (8, [.ref p, .ref r, .ref o, .ref h, .ref im, .ref ik, .ref w, .ref g, .ref c, .ref ch, .long tr]))]) (st' := [.int (bI (0 ≤ y ∧ y ≤ 255))]) (n' := 0) (z' := 0) (pc' := 8) rfl rfl rfl rfl (by decide +kernel) rfl ?_
  refine g_if_ne (tgt := 13) C dX8_type_8 (by decide) (fun c8 => ?_) (fun c8 => ?_)
  · skip
    exact absurd (bI_1 c8) hb
  · skip
    refine g_iconst (v := (-1)) C dX8_type_11 (by decide) ?_
    exact g_iret C hR (⟨rfl, rfl⟩) dX8_type_12

theorem chN {y : Int32} (h : 0 ≤ y ∧ y ≤ 255) : (y.toUInt32 % 65536).toInt32 = y ∧ vp_nar .char y = y := by
  obtain ⟨j, hj, rfl⟩ := (in_iff (n := 255) (by decide)).mp h
  have h1 : (nI j).toBitVec.toNat = j := pk_tn (by omega)
  refine ⟨by rw [pk_char, h1, Nat.mod_eq_of_lt (by omega)], ?_⟩
  unfold vp_nar
  rw [(pk_charN (q := j) (by omega)).1]

set_option maxHeartbeats 4000000 in
set_option maxRecDepth 100000 in
theorem c_X8_type (l : Launch) (E : EX) (x : Nat) (p : Nat) (r : Nat) (o : Nat) (h : Nat) (im : Nat) (ik : Nat) (w : Nat) (g : Nat) (c : Nat) (ch : Nat) (tr : Int64) (tx : Nat) (p2 : Nat) (le : Nat) (at_ : Int32) (it : Int32) (fa : Int32) (b1 : Int32) (b2 : Int32) (b3 : Int32) (tf : Nat → Int32) (y : Int32) (hy : 0 ≤ y ∧ y ≤ 255) (hle : le < 100) : Ct l E yX8_type cX8_type 2 (some .int) (rmL 2 0 0) [.ref x, .int y] [(x, .inr (8, [.ref p, .ref r, .ref o, .ref h, .ref im, .ref ik, .ref w, .ref g, .ref c, .ref ch, .long tr])), (r, .inr (6, [.ref tx, .ref p2, .int (nI le), .int at_, .int it, .int fa, .int b1, .int b2, .int b3])), aC E tx 100 tf] (fun (rv_ : Option Value) (rw_ : va_W) => rv_ = some (.int (nI (le + 1))) ∧ rw_ = [(x, .inr (8, [.ref p, .ref r, .ref o, .ref h, .ref im, .ref ik, .ref w, .ref g, .ref c, .ref ch, .long tr])), (r, .inr (6, [.ref tx, .ref p2, .int (nI (le + 1)), .int at_, .int it, .int fa, .int b1, .int b2, .int b3])), aC E tx 100 (upd tf le y)]) 0 0 := by
  refine Ct_of (by decide) (Nat.le_of_ble_eq_true rfl) ?_
  intro k hkl hnl C hR hin_
  subst hkl
  show G k E 0 0 0 [some (.ref x), some (.int y)] [] [(x, .inr (8, [.ref p, .ref r, .ref o, .ref h, .ref im, .ref ik, .ref w, .ref g, .ref c, .ref ch, .long tr])), (r, .inr (6, [.ref tx, .ref p2, .int (nI le), .int at_, .int it, .int fa, .int b1, .int b2, .int b3])), aC E tx 100 tf]
  refine g_iload_n C dX8_type_0 rfl ?_
  refine g_iconst (v := 0) C dX8_type_1 (by decide) ?_
  refine g_sipush (v := 255) C dX8_type_2 (by decide) ?_
  refine g_callS C (c_X8_within k.l E y 0 255) kmX8_81 ktX8_within knX8 kcX8_within ⟨rfl, rfl⟩ kdX8_within ⟨by decide, by decide⟩ ⟨by decide, by decide⟩ [] [0, 1, 2] rfl (wr := [(x, .inr (8, [.ref p, .ref r, .ref o, .ref h, .ref im, .ref ik, .ref w, .ref g, .ref c, .ref ch, .long tr])), (r, .inr (6, [.ref tx, .ref p2, .int (nI le), .int at_, .int it, .int fa, .int b1, .int b2, .int b3])), aC E tx 100 tf]) rfl (by decide +kernel) (by decide +kernel) (by decide +kernel) rfl (As := [.int y, .int 0, .int 255]) (rest := []) rfl (Nat.le_of_ble_eq_true rfl) dX8_type_5 (fun rv_ rw_ hp_ => ?_)
  obtain ⟨rfl, rfl⟩ := hp_
  refine g_rep [0, 1, 2] (ws' := [(x, .inr (8, [.ref p, .ref r, .ref o, .ref h, .ref im, .ref ik, .ref w, .ref g, .ref c, .ref ch, .long tr])), (r, .inr (6, [.ref tx, .ref p2, .int (nI le), .int at_, .int it, .int fa, .int b1, .int b2, .int b3])), aC E tx 100 tf]) (st' := [.int (bI (0 ≤ y ∧ y ≤ 255))]) (n' := 0) (z' := 0) (pc' := 8) rfl rfl rfl rfl (by decide +kernel) rfl ?_
  refine g_if_ne (tgt := 13) C dX8_type_8 (by decide) (fun c8 => ?_) (fun c8 => ?_)
  · skip
    refine g_aload_n C dX8_type_13 rfl ?_
    refine g_get C kwX8 0 rfl rfl 1 (by decide) kfX8_19 rfl dX8_type_14 ?_
    refine g_iload_n C dX8_type_17 rfl ?_
    refine g_i2c (v := y) C dX8_type_18 ((chN hy).1) ?_
    refine g_callV C (c_X6_take k.l E r tx p2 le at_ it fa b1 b2 b3 tf y (by first | assumption | omega) ((chN hy).2)) kmX8_85 kiX6_take ksX6_take knX6 kcX6_take ⟨rfl, rfl⟩ ⟨rfl, kdX6_take⟩ ⟨by decide, by decide⟩ ⟨by decide, by decide⟩ [1, 2] [0] rfl (wr := [(x, .inr (8, [.ref p, .ref r, .ref o, .ref h, .ref im, .ref ik, .ref w, .ref g, .ref c, .ref ch, .long tr]))]) rfl (by decide +kernel) (by decide +kernel) (by decide +kernel) 1 6 rfl rfl rfl (As := [.int y]) (rest := []) rfl (Nat.le_of_ble_eq_true rfl) dX8_type_19 (fun rv_ rw_ hp_ => ?_)
    obtain ⟨rfl, rfl⟩ := hp_
    refine g_rep [0, 1, 2] (ws' := [(x, .inr (8, [.ref p, .ref r, .ref o, .ref h, .ref im, .ref ik, .ref w, .ref g, .ref c, .ref ch, .long tr])), (r, .inr (6, [.ref tx, .ref p2, .int (nI (le + 1)), .int at_, .int it, .int fa, .int b1, .int b2, .int b3])), aC E tx 100 (upd tf le y)]) (st' := [.int 1]) (n' := 0) (z' := 0) (pc' := 22) rfl rfl rfl rfl (by decide +kernel) rfl ?_
    refine g_if_eq (tgt := 35) C dX8_type_22 (by decide) (fun c22 => ?_) (fun c22 => ?_)
    · skip
      exact absurd c22 (by decide)
    · skip
      refine g_aload_n C dX8_type_25 rfl ?_
      refine g_get C kwX8 0 rfl rfl 1 (by decide) kfX8_19 rfl dX8_type_26 ?_
      refine g_get C kwX6 1 rfl rfl 2 (by decide) kfX8_89 rfl dX8_type_29 ?_
      refine g_goto (tgt := 37) C dX8_type_32 (by decide) ?_
      exact g_iret C hR (⟨rfl, rfl⟩) dX8_type_37
  · skip
    exact absurd hy (bI_0 c8)

set_option maxHeartbeats 4000000 in
set_option maxRecDepth 100000 in
theorem c_X8_typeF (l : Launch) (E : EX) (x : Nat) (p : Nat) (r : Nat) (o : Nat) (h : Nat) (im : Nat) (ik : Nat) (w : Nat) (g : Nat) (c : Nat) (ch : Nat) (tr : Int64) (tx : Nat) (p2 : Nat) (at_ : Int32) (it : Int32) (fa : Int32) (b1 : Int32) (b2 : Int32) (b3 : Int32) (y : Int32) (hy : 0 ≤ y ∧ y ≤ 255) : Ct l E yX8_type cX8_type 2 (some .int) (rmL 2 0 0) [.ref x, .int y] [(x, .inr (8, [.ref p, .ref r, .ref o, .ref h, .ref im, .ref ik, .ref w, .ref g, .ref c, .ref ch, .long tr])), (r, .inr (6, [.ref tx, .ref p2, .int (nI 100), .int at_, .int it, .int fa, .int b1, .int b2, .int b3]))] (fun (rv_ : Option Value) (rw_ : va_W) => rv_ = some (.int (-3)) ∧ rw_ = [(x, .inr (8, [.ref p, .ref r, .ref o, .ref h, .ref im, .ref ik, .ref w, .ref g, .ref c, .ref ch, .long tr])), (r, .inr (6, [.ref tx, .ref p2, .int (nI 100), .int at_, .int it, .int fa, .int b1, .int b2, .int b3]))]) 0 0 := by
  refine Ct_of (by decide) (Nat.le_of_ble_eq_true rfl) ?_
  intro k hkl hnl C hR hin_
  subst hkl
  show G k E 0 0 0 [some (.ref x), some (.int y)] [] [(x, .inr (8, [.ref p, .ref r, .ref o, .ref h, .ref im, .ref ik, .ref w, .ref g, .ref c, .ref ch, .long tr])), (r, .inr (6, [.ref tx, .ref p2, .int (nI 100), .int at_, .int it, .int fa, .int b1, .int b2, .int b3]))]
  refine g_iload_n C dX8_type_0 rfl ?_
  refine g_iconst (v := 0) C dX8_type_1 (by decide) ?_
  refine g_sipush (v := 255) C dX8_type_2 (by decide) ?_
  refine g_callS C (c_X8_within k.l E y 0 255) kmX8_81 ktX8_within knX8 kcX8_within ⟨rfl, rfl⟩ kdX8_within ⟨by decide, by decide⟩ ⟨by decide, by decide⟩ [] [0, 1] rfl (wr := [(x, .inr (8, [.ref p, .ref r, .ref o, .ref h, .ref im, .ref ik, .ref w, .ref g, .ref c, .ref ch, .long tr])), (r, .inr (6, [.ref tx, .ref p2, .int (nI 100), .int at_, .int it, .int fa, .int b1, .int b2, .int b3]))]) rfl (by decide +kernel) (by decide +kernel) (by decide +kernel) rfl (As := [.int y, .int 0, .int 255]) (rest := []) rfl (Nat.le_of_ble_eq_true rfl) dX8_type_5 (fun rv_ rw_ hp_ => ?_)
  obtain ⟨rfl, rfl⟩ := hp_
  refine g_rep [0, 1] (ws' := [(x, .inr (8, [.ref p, .ref r, .ref o, .ref h, .ref im, .ref ik, .ref w, .ref g, .ref c, .ref ch, .long tr])), (r, .inr (6, [.ref tx, .ref p2, .int (nI 100), .int at_, .int it, .int fa, .int b1, .int b2, .int b3]))]) (st' := [.int (bI (0 ≤ y ∧ y ≤ 255))]) (n' := 0) (z' := 0) (pc' := 8) rfl rfl rfl rfl (by decide +kernel) rfl ?_
  refine g_if_ne (tgt := 13) C dX8_type_8 (by decide) (fun c8 => ?_) (fun c8 => ?_)
  · skip
    refine g_aload_n C dX8_type_13 rfl ?_
    refine g_get C kwX8 0 rfl rfl 1 (by decide) kfX8_19 rfl dX8_type_14 ?_
    refine g_iload_n C dX8_type_17 rfl ?_
    refine g_i2c (v := y) C dX8_type_18 ((chN hy).1) ?_
    refine g_callV C (c_X6_take100 k.l E r tx p2 at_ it fa b1 b2 b3 y) kmX8_85 kiX6_take ksX6_take knX6 kcX6_take ⟨rfl, rfl⟩ ⟨rfl, kdX6_take⟩ ⟨by decide, by decide⟩ ⟨by decide, by decide⟩ [1] [0] rfl (wr := [(x, .inr (8, [.ref p, .ref r, .ref o, .ref h, .ref im, .ref ik, .ref w, .ref g, .ref c, .ref ch, .long tr]))]) rfl (by decide +kernel) (by decide +kernel) (by decide +kernel) 1 6 rfl rfl rfl (As := [.int y]) (rest := []) rfl (Nat.le_of_ble_eq_true rfl) dX8_type_19 (fun rv_ rw_ hp_ => ?_)
    obtain ⟨rfl, rfl⟩ := hp_
    refine g_rep [0, 1] (ws' := [(x, .inr (8, [.ref p, .ref r, .ref o, .ref h, .ref im, .ref ik, .ref w, .ref g, .ref c, .ref ch, .long tr])), (r, .inr (6, [.ref tx, .ref p2, .int (nI 100), .int at_, .int it, .int fa, .int b1, .int b2, .int b3]))]) (st' := [.int 0]) (n' := 0) (z' := 0) (pc' := 22) rfl rfl rfl rfl (by decide +kernel) rfl ?_
    refine g_if_eq (tgt := 35) C dX8_type_22 (by decide) (fun c22 => ?_) (fun c22 => ?_)
    · skip
      refine g_bipush (v := (-3)) C dX8_type_35 (by decide) ?_
      exact g_iret C hR (⟨rfl, rfl⟩) dX8_type_37
    · skip
      exact absurd rfl c22
  · skip
    exact absurd hy (bI_0 c8)

set_option maxHeartbeats 4000000 in
set_option maxRecDepth 100000 in
theorem c_X8_clear (l : Launch) (E : EX) (x : Nat) (p : Nat) (r : Nat) (o : Nat) (h : Nat) (im : Nat) (ik : Nat) (w : Nat) (g : Nat) (c : Nat) (ch : Nat) (tr : Int64) (tx : Nat) (p2 : Nat) (le : Nat) (at_ : Int32) (it : Int32) (fa : Int32) (b1 : Int32) (b2 : Int32) (b3 : Int32) : Ct l E yX8_clear cX8_clear 2 (some .int) (rmL 1 0 0) [.ref x] [(x, .inr (8, [.ref p, .ref r, .ref o, .ref h, .ref im, .ref ik, .ref w, .ref g, .ref c, .ref ch, .long tr])), (r, .inr (6, [.ref tx, .ref p2, .int (nI le), .int at_, .int it, .int fa, .int b1, .int b2, .int b3]))] (fun (rv_ : Option Value) (rw_ : va_W) => rv_ = some (.int (nI le)) ∧ rw_ = [(x, .inr (8, [.ref p, .ref r, .ref o, .ref h, .ref im, .ref ik, .ref w, .ref g, .ref c, .ref ch, .long tr])), (r, .inr (6, [.ref tx, .ref p2, .int 0, .int at_, .int it, .int fa, .int b1, .int b2, .int b3]))]) 0 0 := by
  refine Ct_of (by decide) (Nat.le_of_ble_eq_true rfl) ?_
  intro k hkl hnl C hR hin_
  subst hkl
  show G k E 0 0 0 [some (.ref x), none] [] [(x, .inr (8, [.ref p, .ref r, .ref o, .ref h, .ref im, .ref ik, .ref w, .ref g, .ref c, .ref ch, .long tr])), (r, .inr (6, [.ref tx, .ref p2, .int (nI le), .int at_, .int it, .int fa, .int b1, .int b2, .int b3]))]
  refine g_aload_n C dX8_clear_0 rfl ?_
  refine g_get C kwX8 0 rfl rfl 1 (by decide) kfX8_19 rfl dX8_clear_1 ?_
  refine g_get C kwX6 1 rfl rfl 2 (by decide) kfX8_89 rfl dX8_clear_4 ?_
  refine g_istore_n (lv' := [some (.ref x), some (.int (nI le))]) C dX8_clear_7 (hnl 1 (by decide)) rfl rfl ?_
  refine g_aload_n C dX8_clear_8 rfl ?_
  refine g_get C kwX8 0 rfl rfl 1 (by decide) kfX8_19 rfl dX8_clear_9 ?_
  refine g_iconst (v := 0) C dX8_clear_12 (by decide) ?_
  refine g_put (ws' := [(x, .inr (8, [.ref p, .ref r, .ref o, .ref h, .ref im, .ref ik, .ref w, .ref g, .ref c, .ref ch, .long tr])), (r, .inr (6, [.ref tx, .ref p2, .int 0, .int at_, .int it, .int fa, .int b1, .int b2, .int b3]))]) C kwX6 tyX6 tyX6_ok nmX6 1 rfl rfl 2 (by decide) kfX8_89 rfl rfl rfl (Nat.le_of_ble_eq_true rfl) rfl dX8_clear_13 ?_
  refine g_iload_n C dX8_clear_16 rfl ?_
  exact g_iret C hR (⟨rfl, rfl⟩) dX8_clear_17

set_option maxHeartbeats 4000000 in
set_option maxRecDepth 100000 in
theorem c_X8_step (l : Launch) (E : EX) (x : Nat) (p : Nat) (r : Nat) (o : Nat) (h : Nat) (im : Nat) (ik : Nat) (w : Nat) (g : Nat) (c : Nat) (ch : Nat) (tr : Int64) (ph : Nat) (pd : Nat) (pm : Nat) (n : Nat) (lg : Int32) (sf : Int32) (dg : Int32) (hi : Nat → Int32) (de : Nat → Int32) (om : Nat) (a : Nat) (u : Nat) (fl : Nat) (ma : Nat → Int32) (j : Nat) (y : Int32) (hn : n ≤ 9) (hj : j < n) : Ct l E yX8_step cX8_step 3 (some .int) (rmL 3 0 0) [.ref x, .int (nI j), .int y] [(x, .inr (8, [.ref p, .ref r, .ref o, .ref h, .ref im, .ref ik, .ref w, .ref g, .ref c, .ref ch, .long tr])), (p, .inr (5, [.ref ph, .ref pd, .ref pm, .int (nI n), .int lg, .int sf, .int dg])), aI E ph 9 hi, aI E pd 9 de, (o, .inr (4, [.ref om, .int (nI a), .int (nI u), .int (nI fl)])), aI E om 9 ma] (fun (rv_ : Option Value) (rw_ : va_W) => rv_ = some (.int (if y = 0 then hi j else if y = 1 then de j else if y = 2 then ma j else -1)) ∧ rw_ = [(x, .inr (8, [.ref p, .ref r, .ref o, .ref h, .ref im, .ref ik, .ref w, .ref g, .ref c, .ref ch, .long tr])), (p, .inr (5, [.ref ph, .ref pd, .ref pm, .int (nI n), .int lg, .int sf, .int dg])), aI E ph 9 hi, aI E pd 9 de, (o, .inr (4, [.ref om, .int (nI a), .int (nI u), .int (nI fl)])), aI E om 9 ma]) 0 0 := by
  refine Ct_of (by decide) (Nat.le_of_ble_eq_true rfl) ?_
  intro k hkl hnl C hR hin_
  subst hkl
  show G k E 0 0 0 [some (.ref x), some (.int (nI j)), some (.int y)] [] [(x, .inr (8, [.ref p, .ref r, .ref o, .ref h, .ref im, .ref ik, .ref w, .ref g, .ref c, .ref ch, .long tr])), (p, .inr (5, [.ref ph, .ref pd, .ref pm, .int (nI n), .int lg, .int sf, .int dg])), aI E ph 9 hi, aI E pd 9 de, (o, .inr (4, [.ref om, .int (nI a), .int (nI u), .int (nI fl)])), aI E om 9 ma]
  refine g_aload_n C dX8_step_0 rfl ?_
  refine g_get C kwX8 0 rfl rfl 0 (by decide) kfX8_12 rfl dX8_step_1 ?_
  refine g_iload_n C dX8_step_4 rfl ?_
  refine g_callV C (c_X5_has k.l E p ph pd pm (nI n) lg sf dg (nI j)) kmX8_118 kiX5_has ksX5_has knX5 kcX5_has ⟨rfl, rfl⟩ ⟨rfl, kdX5_has⟩ ⟨by decide, by decide⟩ ⟨by decide, by decide⟩ [1] [0, 2, 3, 4, 5] rfl (wr := [(x, .inr (8, [.ref p, .ref r, .ref o, .ref h, .ref im, .ref ik, .ref w, .ref g, .ref c, .ref ch, .long tr])), aI E ph 9 hi, aI E pd 9 de, (o, .inr (4, [.ref om, .int (nI a), .int (nI u), .int (nI fl)])), aI E om 9 ma]) rfl (by decide +kernel) (by decide +kernel) (by decide +kernel) 1 5 rfl rfl rfl (As := [.int (nI j)]) (rest := []) rfl (Nat.le_of_ble_eq_true rfl) dX8_step_5 (fun rv_ rw_ hp_ => ?_)
  obtain ⟨rfl, rfl⟩ := hp_
  refine g_rep [0, 5, 1, 2, 3, 4] (ws' := [(x, .inr (8, [.ref p, .ref r, .ref o, .ref h, .ref im, .ref ik, .ref w, .ref g, .ref c, .ref ch, .long tr])), (p, .inr (5, [.ref ph, .ref pd, .ref pm, .int (nI n), .int lg, .int sf, .int dg])), aI E ph 9 hi, aI E pd 9 de, (o, .inr (4, [.ref om, .int (nI a), .int (nI u), .int (nI fl)])), aI E om 9 ma]) (st' := [.int (bI (0 ≤ (nI j) ∧ (nI j) ≤ (nI n) - 1))]) (n' := 0) (z' := 0) (pc' := 8) rfl rfl rfl rfl (by decide +kernel) rfl ?_
  refine g_if_ne (tgt := 13) C dX8_step_8 (by decide) (fun c8 => ?_) (fun c8 => ?_)
  · skip
    refine g_iload_n C dX8_step_13 rfl ?_
    by_cases h0 : y = 0
    · skip
      refine g_tin (off := 26) (tgt := 40) C dX8_step_14 (by rw [h0]; decide) (by rw [h0]; decide) (by rw [h0]; decide) (by decide) ?_
      refine g_aload_n C dX8_step_40 rfl ?_
      refine g_get C kwX8 0 rfl rfl 0 (by decide) kfX8_12 rfl dX8_step_41 ?_
      refine g_get C kwX5 1 rfl rfl 0 (by decide) kfX8_122 rfl dX8_step_44 ?_
      refine g_iload_n C dX8_step_47 rfl ?_
      refine g_iald C 2 j rfl (rfl) (by omega) (by decide) dX8_step_48 ?_
      exact g_iret C hR (⟨by rw [if_pos h0], rfl⟩) dX8_step_49
    · skip
      by_cases h1 : y = 1
      · skip
        refine g_tin (off := 36) (tgt := 50) C dX8_step_14 (by rw [h1]; decide) (by rw [h1]; decide) (by rw [h1]; decide) (by decide) ?_
        refine g_aload_n C dX8_step_50 rfl ?_
        refine g_get C kwX8 0 rfl rfl 0 (by decide) kfX8_12 rfl dX8_step_51 ?_
        refine g_get C kwX5 1 rfl rfl 1 (by decide) kfX8_126 rfl dX8_step_54 ?_
        refine g_iload_n C dX8_step_57 rfl ?_
        refine g_iald C 3 j rfl (rfl) (by omega) (by decide) dX8_step_58 ?_
        exact g_iret C hR (⟨by rw [if_neg h0, if_pos h1], rfl⟩) dX8_step_59
      · skip
        by_cases h2 : y = 2
        · skip
          refine g_tin (off := 46) (tgt := 60) C dX8_step_14 (by rw [h2]; decide) (by rw [h2]; decide) (by rw [h2]; decide) (by decide) ?_
          refine g_aload_n C dX8_step_60 rfl ?_
          refine g_get C kwX8 0 rfl rfl 2 (by decide) kfX8_26 rfl dX8_step_61 ?_
          refine g_get C kwX4 4 rfl rfl 0 (by decide) kfX8_129 rfl dX8_step_64 ?_
          refine g_iload_n C dX8_step_67 rfl ?_
          refine g_iald C 5 j rfl (rfl) (by omega) (by decide) dX8_step_68 ?_
          exact g_iret C hR (⟨by rw [if_neg h0, if_neg h1, if_pos h2], rfl⟩) dX8_step_69
        · skip
          refine g_tout (tgt := 70) C dX8_step_14 (by have q0 := lv_neT h0 (by decide : (0 : Int32).toInt = 0); have q1 := lv_neT h1 (by decide : (1 : Int32).toInt = 1); have q2 := lv_neT h2 (by decide : (2 : Int32).toInt = 2); omega) (by decide) ?_
          refine g_iconst (v := (-1)) C dX8_step_70 (by decide) ?_
          exact g_iret C hR (⟨by rw [if_neg h0, if_neg h1, if_neg h2], rfl⟩) dX8_step_71
  · skip
    exact absurd (has_t hj (by omega)) (bI_0 c8)

set_option maxHeartbeats 4000000 in
set_option maxRecDepth 100000 in
theorem c_X8_stepB (l : Launch) (E : EX) (x : Nat) (p : Nat) (r : Nat) (o : Nat) (h : Nat) (im : Nat) (ik : Nat) (w : Nat) (g : Nat) (c : Nat) (ch : Nat) (tr : Int64) (ph : Nat) (pd : Nat) (pm : Nat) (n0 : Int32) (lg : Int32) (sf : Int32) (dg : Int32) (y : Int32) (z0 : Int32) (hb : ¬ (0 ≤ z0 ∧ z0 ≤ n0 - 1)) : Ct l E yX8_step cX8_step 3 (some .int) (rmL 3 0 0) [.ref x, .int z0, .int y] [(x, .inr (8, [.ref p, .ref r, .ref o, .ref h, .ref im, .ref ik, .ref w, .ref g, .ref c, .ref ch, .long tr])), (p, .inr (5, [.ref ph, .ref pd, .ref pm, .int n0, .int lg, .int sf, .int dg]))] (fun (rv_ : Option Value) (rw_ : va_W) => rv_ = some (.int (-1)) ∧ rw_ = [(x, .inr (8, [.ref p, .ref r, .ref o, .ref h, .ref im, .ref ik, .ref w, .ref g, .ref c, .ref ch, .long tr])), (p, .inr (5, [.ref ph, .ref pd, .ref pm, .int n0, .int lg, .int sf, .int dg]))]) 0 0 := by
  refine Ct_of (by decide) (Nat.le_of_ble_eq_true rfl) ?_
  intro k hkl hnl C hR hin_
  subst hkl
  show G k E 0 0 0 [some (.ref x), some (.int z0), some (.int y)] [] [(x, .inr (8, [.ref p, .ref r, .ref o, .ref h, .ref im, .ref ik, .ref w, .ref g, .ref c, .ref ch, .long tr])), (p, .inr (5, [.ref ph, .ref pd, .ref pm, .int n0, .int lg, .int sf, .int dg]))]
  refine g_aload_n C dX8_step_0 rfl ?_
  refine g_get C kwX8 0 rfl rfl 0 (by decide) kfX8_12 rfl dX8_step_1 ?_
  refine g_iload_n C dX8_step_4 rfl ?_
  refine g_callV C (c_X5_has k.l E p ph pd pm n0 lg sf dg z0) kmX8_118 kiX5_has ksX5_has knX5 kcX5_has ⟨rfl, rfl⟩ ⟨rfl, kdX5_has⟩ ⟨by decide, by decide⟩ ⟨by decide, by decide⟩ [1] [0] rfl (wr := [(x, .inr (8, [.ref p, .ref r, .ref o, .ref h, .ref im, .ref ik, .ref w, .ref g, .ref c, .ref ch, .long tr]))]) rfl (by decide +kernel) (by decide +kernel) (by decide +kernel) 1 5 rfl rfl rfl (As := [.int z0]) (rest := []) rfl (Nat.le_of_ble_eq_true rfl) dX8_step_5 (fun rv_ rw_ hp_ => ?_)
  obtain ⟨rfl, rfl⟩ := hp_
  refine g_rep [0, 1] (ws' := [(x, .inr (8, [.ref p, .ref r, .ref o, .ref h, .ref im, .ref ik, .ref w, .ref g, .ref c, .ref ch, .long tr])), (p, .inr (5, [.ref ph, .ref pd, .ref pm, .int n0, .int lg, .int sf, .int dg]))]) (st' := [.int (bI (0 ≤ z0 ∧ z0 ≤ n0 - 1))]) (n' := 0) (z' := 0) (pc' := 8) rfl rfl rfl rfl (by decide +kernel) rfl ?_
  refine g_if_ne (tgt := 13) C dX8_step_8 (by decide) (fun c8 => ?_) (fun c8 => ?_)
  · skip
    exact absurd (bI_1 c8) hb
  · skip
    refine g_iconst (v := (-1)) C dX8_step_11 (by decide) ?_
    exact g_iret C hR (⟨rfl, rfl⟩) dX8_step_12

set_option maxHeartbeats 4000000 in
set_option maxRecDepth 100000 in
theorem c_X8_now (l : Launch) (E : EX) (x : Nat) (p : Nat) (r : Nat) (o : Nat) (h : Nat) (im : Nat) (ik : Nat) (w : Nat) (g : Nat) (c : Nat) (ch : Nat) (tr : Int64) (ph : Nat) (pd : Nat) (pm : Nat) (n : Nat) (lg : Int32) (sf : Int32) (dg : Int32) (hi : Nat → Int32) (de : Nat → Int32) (om : Nat) (a : Nat) (u : Nat) (fl : Nat) (ma : Nat → Int32) (wm : Nat) (st : Int32) (dr : Int32) (a0 : Int32) (v : Int32) (wfl : Int32) (sl : Int32) (wma : Nat → Int32) (fo : Nat) (ff : Nat → Int32) (pa : Nat) (kn0 : Int32) (fr0 : Int32) (y : Int32) (hn : n ≤ 9) (ha : a ≤ n) (hu : u < 100) (hst : sf ≤ 9) : Ct l E yX8_now cX8_now 2 (some .int) (rmL 25 0 0) [.ref x, .int y] [(x, .inr (8, [.ref p, .ref r, .ref o, .ref h, .ref im, .ref ik, .ref w, .ref g, .ref c, .ref ch, .long tr])), (p, .inr (5, [.ref ph, .ref pd, .ref pm, .int (nI n), .int lg, .int sf, .int dg])), aI E ph 9 hi, aI E pd 9 de, (o, .inr (4, [.ref om, .int (nI a), .int (nI u), .int (nI fl)])), aI E om 9 ma, (w, .inr (7, [.ref p, .ref wm, .int st, .int dr, .int a0, .int v, .int wfl, .int sl])), aI E wm 9 wma, (g, .inr (3, [.ref w, .ref fo])), aI E fo 900 ff, (h, .inr (2, [.ref pa, .int kn0, .int fr0]))] (fun (rv_ : Option Value) (rw_ : va_W) => ∃ (wm2 : Nat → Int32) (st2 : Int32) (dr2 : Int32) (a2 : Int32) (v2 : Int32) (fl2 : Int32) (sl2 : Int32) (ff2 : Nat → Int32), rv_ = some (.int (if y = 0 then nI a else if y = 1 then nI u else if y = 2 then nI fl else if y = 3 then nI (runF n hi de ma lg sf dg 9 a (nI u) 0 0).1 else if y = 4 then (runF n hi de ma lg sf dg 9 a (nI u) 0 0).2.2.2 else if y = 5 then (runF n hi de ma lg sf dg 9 a (nI u) 0 0).2.2.1 else if y = 6 then nI (LL n hi de ma lg sf dg a (nI u)).1 else if y = 7 then nI (LL n hi de ma lg sf dg a (nI u)).2 else if y = 8 then kn0 else -1)) ∧ rw_ = [(x, .inr (8, [.ref p, .ref r, .ref o, .ref h, .ref im, .ref ik, .ref w, .ref g, .ref c, .ref ch, .long tr])), (p, .inr (5, [.ref ph, .ref pd, .ref pm, .int (nI n), .int lg, .int sf, .int dg])), aI E ph 9 hi, aI E pd 9 de, (o, .inr (4, [.ref om, .int (nI a), .int (nI u), .int (nI fl)])), aI E om 9 ma, (w, .inr (7, [.ref p, .ref wm, .int st2, .int dr2, .int a2, .int v2, .int fl2, .int sl2])), aI E wm 9 wm2, (g, .inr (3, [.ref w, .ref fo])), aI E fo 900 ff2, (h, .inr (2, [.ref pa, .int kn0, .int fr0]))]) 0 0 := by
  refine Ct_of (by decide) (Nat.le_of_ble_eq_true rfl) ?_
  intro k hkl hnl C hR hin_
  subst hkl
  show G k E 0 0 0 [some (.ref x), some (.int y)] [] [(x, .inr (8, [.ref p, .ref r, .ref o, .ref h, .ref im, .ref ik, .ref w, .ref g, .ref c, .ref ch, .long tr])), (p, .inr (5, [.ref ph, .ref pd, .ref pm, .int (nI n), .int lg, .int sf, .int dg])), aI E ph 9 hi, aI E pd 9 de, (o, .inr (4, [.ref om, .int (nI a), .int (nI u), .int (nI fl)])), aI E om 9 ma, (w, .inr (7, [.ref p, .ref wm, .int st, .int dr, .int a0, .int v, .int wfl, .int sl])), aI E wm 9 wma, (g, .inr (3, [.ref w, .ref fo])), aI E fo 900 ff, (h, .inr (2, [.ref pa, .int kn0, .int fr0]))]
  refine g_iload_n C dX8_now_0 rfl ?_
  by_cases h0 : y = 0
  · skip
    refine g_tin (off := 51) (tgt := 52) C dX8_now_1 (by rw [h0]; decide) (by rw [h0]; decide) (by rw [h0]; decide) (by decide) ?_
    refine g_aload_n C dX8_now_52 rfl ?_
    refine g_get C kwX8 0 rfl rfl 2 (by decide) kfX8_26 rfl dX8_now_53 ?_
    refine g_get C kwX4 4 rfl rfl 1 (by decide) kfX8_132 rfl dX8_now_56 ?_
    exact g_iret C hR (⟨_, _, _, _, _, _, _, _, by rw [if_pos h0], rfl⟩) dX8_now_59
  · skip
    by_cases h1 : y = 1
    · skip
      refine g_tin (off := 59) (tgt := 60) C dX8_now_1 (by rw [h1]; decide) (by rw [h1]; decide) (by rw [h1]; decide) (by decide) ?_
      refine g_aload_n C dX8_now_60 rfl ?_
      refine g_get C kwX8 0 rfl rfl 2 (by decide) kfX8_26 rfl dX8_now_61 ?_
      refine g_get C kwX4 4 rfl rfl 2 (by decide) kfX8_135 rfl dX8_now_64 ?_
      exact g_iret C hR (⟨_, _, _, _, _, _, _, _, by rw [if_neg h0, if_pos h1], rfl⟩) dX8_now_67
    · skip
      by_cases h2 : y = 2
      · skip
        refine g_tin (off := 67) (tgt := 68) C dX8_now_1 (by rw [h2]; decide) (by rw [h2]; decide) (by rw [h2]; decide) (by decide) ?_
        refine g_aload_n C dX8_now_68 rfl ?_
        refine g_get C kwX8 0 rfl rfl 2 (by decide) kfX8_26 rfl dX8_now_69 ?_
        refine g_get C kwX4 4 rfl rfl 3 (by decide) kfX8_138 rfl dX8_now_72 ?_
        exact g_iret C hR (⟨_, _, _, _, _, _, _, _, by rw [if_neg h0, if_neg h1, if_pos h2], rfl⟩) dX8_now_75
      · skip
        by_cases h3 : y = 3
        · skip
          refine g_tin (off := 75) (tgt := 76) C dX8_now_1 (by rw [h3]; decide) (by rw [h3]; decide) (by rw [h3]; decide) (by decide) ?_
          refine g_aload_n C dX8_now_76 rfl ?_
          refine g_aload_n C dX8_now_77 rfl ?_
          refine g_get C kwX8 0 rfl rfl 2 (by decide) kfX8_26 rfl dX8_now_78 ?_
          refine g_get C kwX4 4 rfl rfl 2 (by decide) kfX8_135 rfl dX8_now_81 ?_
          refine g_callV C (c_X8_runFrom k.l E x p r o h im ik w g c ch tr ph pd pm n lg sf dg hi de om a u fl ma wm st dr a0 v wfl sl wma (nI u) (by first | assumption | omega) (by first | assumption | omega)) kmX8_141 kiX8_runFrom ksX8_runFrom knX8 kcX8_runFrom ⟨rfl, rfl⟩ ⟨rfl, kdX8_runFrom⟩ ⟨by decide, by decide⟩ ⟨by decide, by decide⟩ [0, 1, 2, 3, 4, 5, 6, 7] [8, 9, 10] rfl (wr := [(g, .inr (3, [.ref w, .ref fo])), aI E fo 900 ff, (h, .inr (2, [.ref pa, .int kn0, .int fr0]))]) rfl (by decide +kernel) (by decide +kernel) (by decide +kernel) 0 8 rfl rfl rfl (As := [.int (nI u)]) (rest := []) rfl (Nat.le_of_ble_eq_true rfl) dX8_now_84 (fun rv_ rw_ hp_ => ?_)
          obtain ⟨wm2_1, st2_2, dr2_3, a2_4, v2_5, rfl, rfl⟩ := hp_
          refine g_rep [3, 4, 5, 6, 7, 8, 9, 10, 0, 1, 2] (ws' := [(x, .inr (8, [.ref p, .ref r, .ref o, .ref h, .ref im, .ref ik, .ref w, .ref g, .ref c, .ref ch, .long tr])), (p, .inr (5, [.ref ph, .ref pd, .ref pm, .int (nI n), .int lg, .int sf, .int dg])), aI E ph 9 hi, aI E pd 9 de, (o, .inr (4, [.ref om, .int (nI a), .int (nI u), .int (nI fl)])), aI E om 9 ma, (w, .inr (7, [.ref p, .ref wm, .int st2_2, .int dr2_3, .int a2_4, .int v2_5, .int ((runF n hi de ma lg sf dg 9 a (nI u) 0 0).2.2.2), .int ((runF n hi de ma lg sf dg 9 a (nI u) 0 0).2.2.1)])), aI E wm 9 wm2_1, (g, .inr (3, [.ref w, .ref fo])), aI E fo 900 ff, (h, .inr (2, [.ref pa, .int kn0, .int fr0]))]) (st' := [.int (nI (runF n hi de ma lg sf dg 9 a (nI u) 0 0).1)]) (n' := 0) (z' := 0) (pc' := 87) rfl rfl rfl rfl (by decide +kernel) rfl ?_
          exact g_iret C hR (⟨_, _, _, _, _, _, _, _, by rw [if_neg h0, if_neg h1, if_neg h2, if_pos h3], rfl⟩) dX8_now_87
        · skip
          by_cases h4 : y = 4
          · skip
            refine g_tin (off := 87) (tgt := 88) C dX8_now_1 (by rw [h4]; decide) (by rw [h4]; decide) (by rw [h4]; decide) (by decide) ?_
            refine g_aload_n C dX8_now_88 rfl ?_
            refine g_aload_n C dX8_now_89 rfl ?_
            refine g_get C kwX8 0 rfl rfl 2 (by decide) kfX8_26 rfl dX8_now_90 ?_
            refine g_get C kwX4 4 rfl rfl 2 (by decide) kfX8_135 rfl dX8_now_93 ?_
            refine g_callV C (c_X8_runFrom k.l E x p r o h im ik w g c ch tr ph pd pm n lg sf dg hi de om a u fl ma wm st dr a0 v wfl sl wma (nI u) (by first | assumption | omega) (by first | assumption | omega)) kmX8_141 kiX8_runFrom ksX8_runFrom knX8 kcX8_runFrom ⟨rfl, rfl⟩ ⟨rfl, kdX8_runFrom⟩ ⟨by decide, by decide⟩ ⟨by decide, by decide⟩ [0, 1, 2, 3, 4, 5, 6, 7] [8, 9, 10] rfl (wr := [(g, .inr (3, [.ref w, .ref fo])), aI E fo 900 ff, (h, .inr (2, [.ref pa, .int kn0, .int fr0]))]) rfl (by decide +kernel) (by decide +kernel) (by decide +kernel) 0 8 rfl rfl rfl (As := [.int (nI u)]) (rest := []) rfl (Nat.le_of_ble_eq_true rfl) dX8_now_96 (fun rv_ rw_ hp_ => ?_)
            obtain ⟨wm2_6, st2_7, dr2_8, a2_9, v2_10, rfl, rfl⟩ := hp_
            refine g_rep [3, 4, 5, 6, 7, 8, 9, 10, 0, 1, 2] (ws' := [(x, .inr (8, [.ref p, .ref r, .ref o, .ref h, .ref im, .ref ik, .ref w, .ref g, .ref c, .ref ch, .long tr])), (p, .inr (5, [.ref ph, .ref pd, .ref pm, .int (nI n), .int lg, .int sf, .int dg])), aI E ph 9 hi, aI E pd 9 de, (o, .inr (4, [.ref om, .int (nI a), .int (nI u), .int (nI fl)])), aI E om 9 ma, (w, .inr (7, [.ref p, .ref wm, .int st2_7, .int dr2_8, .int a2_9, .int v2_10, .int ((runF n hi de ma lg sf dg 9 a (nI u) 0 0).2.2.2), .int ((runF n hi de ma lg sf dg 9 a (nI u) 0 0).2.2.1)])), aI E wm 9 wm2_6, (g, .inr (3, [.ref w, .ref fo])), aI E fo 900 ff, (h, .inr (2, [.ref pa, .int kn0, .int fr0]))]) (st' := [.int (nI (runF n hi de ma lg sf dg 9 a (nI u) 0 0).1)]) (n' := 0) (z' := 0) (pc' := 99) rfl rfl rfl rfl (by decide +kernel) rfl ?_
            refine g_pop C dX8_now_99 rfl ?_
            refine g_aload_n C dX8_now_100 rfl ?_
            refine g_get C kwX8 0 rfl rfl 6 (by decide) kfX8_50 rfl dX8_now_101 ?_
            refine g_get C kwX7 6 rfl rfl 6 (by decide) kfX8_145 rfl dX8_now_104 ?_
            exact g_iret C hR (⟨_, _, _, _, _, _, _, _, by rw [if_neg h0, if_neg h1, if_neg h2, if_neg h3, if_pos h4], rfl⟩) dX8_now_107
          · skip
            by_cases h5 : y = 5
            · skip
              refine g_tin (off := 107) (tgt := 108) C dX8_now_1 (by rw [h5]; decide) (by rw [h5]; decide) (by rw [h5]; decide) (by decide) ?_
              refine g_aload_n C dX8_now_108 rfl ?_
              refine g_aload_n C dX8_now_109 rfl ?_
              refine g_get C kwX8 0 rfl rfl 2 (by decide) kfX8_26 rfl dX8_now_110 ?_
              refine g_get C kwX4 4 rfl rfl 2 (by decide) kfX8_135 rfl dX8_now_113 ?_
              refine g_callV C (c_X8_runFrom k.l E x p r o h im ik w g c ch tr ph pd pm n lg sf dg hi de om a u fl ma wm st dr a0 v wfl sl wma (nI u) (by first | assumption | omega) (by first | assumption | omega)) kmX8_141 kiX8_runFrom ksX8_runFrom knX8 kcX8_runFrom ⟨rfl, rfl⟩ ⟨rfl, kdX8_runFrom⟩ ⟨by decide, by decide⟩ ⟨by decide, by decide⟩ [0, 1, 2, 3, 4, 5, 6, 7] [8, 9, 10] rfl (wr := [(g, .inr (3, [.ref w, .ref fo])), aI E fo 900 ff, (h, .inr (2, [.ref pa, .int kn0, .int fr0]))]) rfl (by decide +kernel) (by decide +kernel) (by decide +kernel) 0 8 rfl rfl rfl (As := [.int (nI u)]) (rest := []) rfl (Nat.le_of_ble_eq_true rfl) dX8_now_116 (fun rv_ rw_ hp_ => ?_)
              obtain ⟨wm2_11, st2_12, dr2_13, a2_14, v2_15, rfl, rfl⟩ := hp_
              refine g_rep [3, 4, 5, 6, 7, 8, 9, 10, 0, 1, 2] (ws' := [(x, .inr (8, [.ref p, .ref r, .ref o, .ref h, .ref im, .ref ik, .ref w, .ref g, .ref c, .ref ch, .long tr])), (p, .inr (5, [.ref ph, .ref pd, .ref pm, .int (nI n), .int lg, .int sf, .int dg])), aI E ph 9 hi, aI E pd 9 de, (o, .inr (4, [.ref om, .int (nI a), .int (nI u), .int (nI fl)])), aI E om 9 ma, (w, .inr (7, [.ref p, .ref wm, .int st2_12, .int dr2_13, .int a2_14, .int v2_15, .int ((runF n hi de ma lg sf dg 9 a (nI u) 0 0).2.2.2), .int ((runF n hi de ma lg sf dg 9 a (nI u) 0 0).2.2.1)])), aI E wm 9 wm2_11, (g, .inr (3, [.ref w, .ref fo])), aI E fo 900 ff, (h, .inr (2, [.ref pa, .int kn0, .int fr0]))]) (st' := [.int (nI (runF n hi de ma lg sf dg 9 a (nI u) 0 0).1)]) (n' := 0) (z' := 0) (pc' := 119) rfl rfl rfl rfl (by decide +kernel) rfl ?_
              refine g_pop C dX8_now_119 rfl ?_
              refine g_aload_n C dX8_now_120 rfl ?_
              refine g_get C kwX8 0 rfl rfl 6 (by decide) kfX8_50 rfl dX8_now_121 ?_
              refine g_get C kwX7 6 rfl rfl 7 (by decide) kfX8_146 rfl dX8_now_124 ?_
              exact g_iret C hR (⟨_, _, _, _, _, _, _, _, by rw [if_neg h0, if_neg h1, if_neg h2, if_neg h3, if_neg h4, if_pos h5], rfl⟩) dX8_now_127
            · skip
              by_cases h6 : y = 6
              · skip
                refine g_tin (off := 127) (tgt := 128) C dX8_now_1 (by rw [h6]; decide) (by rw [h6]; decide) (by rw [h6]; decide) (by decide) ?_
                refine g_aload_n C dX8_now_128 rfl ?_
                refine g_get C kwX8 0 rfl rfl 7 (by decide) kfX8_59 rfl dX8_now_129 ?_
                refine g_aload_n C dX8_now_132 rfl ?_
                refine g_get C kwX8 0 rfl rfl 2 (by decide) kfX8_26 rfl dX8_now_133 ?_
                refine g_callV C (c_X3_from k.l E g fo ff w p wm st dr a0 v wfl sl ph pd pm n lg sf dg hi de wma o om a u (nI fl) ma (by first | assumption | omega) (by first | assumption | omega) (by first | assumption | omega) (by first | assumption | omega)) kmX8_149 kiX3_from ksX3_from knX3 kcX3_from ⟨rfl, rfl⟩ ⟨rfl, kdX3_from⟩ ⟨by decide, by decide⟩ ⟨by decide, by decide⟩ [8, 9, 6, 1, 2, 3, 7, 4, 5] [0, 10] rfl (wr := [(x, .inr (8, [.ref p, .ref r, .ref o, .ref h, .ref im, .ref ik, .ref w, .ref g, .ref c, .ref ch, .long tr])), (h, .inr (2, [.ref pa, .int kn0, .int fr0]))]) rfl (by decide +kernel) (by decide +kernel) (by decide +kernel) 8 3 rfl rfl rfl (As := [.ref o]) (rest := []) rfl (Nat.le_of_ble_eq_true rfl) dX8_now_136 (fun rv_ rw_ hp_ => ?_)
                obtain ⟨ff2_16, a2_17, v2_18, fl2_19, sl2_20, rfl, rfl⟩ := hp_
                refine g_rep [0, 5, 6, 7, 9, 10, 4, 8, 2, 3, 1] (ws' := [(x, .inr (8, [.ref p, .ref r, .ref o, .ref h, .ref im, .ref ik, .ref w, .ref g, .ref c, .ref ch, .long tr])), (p, .inr (5, [.ref ph, .ref pd, .ref pm, .int (nI n), .int lg, .int sf, .int dg])), aI E ph 9 hi, aI E pd 9 de, (o, .inr (4, [.ref om, .int (nI a), .int (nI u), .int (nI fl)])), aI E om 9 ma, (w, .inr (7, [.ref p, .ref wm, .int sf, .int dg, .int a2_17, .int v2_18, .int fl2_19, .int sl2_20])), aI E wm 9 (va_cpy ma wma 0 0 9), (g, .inr (3, [.ref w, .ref fo])), aI E fo 900 ff2_16, (h, .inr (2, [.ref pa, .int kn0, .int fr0]))]) (st' := [.int (nI (LX n hi de (va_cpy ma wma 0 0 9) lg sf dg a (nI u)))]) (n' := 0) (z' := 0) (pc' := 139) rfl rfl rfl rfl (by decide +kernel) rfl ?_
                have hlx : LX n hi de (va_cpy ma wma 0 0 9) lg sf dg a (nI u) = LX n hi de ma lg sf dg a (nI u) := LX_congr (fun s hs => ⟨rfl, rfl, cpy_lt (by omega)⟩) a (nI u)
                have hlb := LX_bd (n := n) (hi := hi) (de := de) (ma := ma) (lg := lg) (dr := dg) (a := a) hst ⟨u, hu, rfl⟩
                have hld := LX_div (n := n) (hi := hi) (de := de) (ma := ma) (lg := lg) (dr := dg) (a := a) hst ⟨u, hu, rfl⟩
                refine g_bipush (v := 10) C dX8_now_139 (by decide) ?_
                refine g_idiv C dX8_now_141 (by decide) ?_
                refine g_topi (v := nI (LL n hi de ma lg sf dg a (nI u)).1) (by rw [hlx, show (10 : Int32) = nI 10 from rfl, pk_div (by omega) (by decide) (by decide), hld.1]) ?_
                exact g_iret C hR (⟨_, _, _, _, _, _, _, _, by rw [if_neg h0, if_neg h1, if_neg h2, if_neg h3, if_neg h4, if_neg h5, if_pos h6], rfl⟩) dX8_now_142
              · skip
                by_cases h7 : y = 7
                · skip
                  refine g_tin (off := 142) (tgt := 143) C dX8_now_1 (by rw [h7]; decide) (by rw [h7]; decide) (by rw [h7]; decide) (by decide) ?_
                  refine g_aload_n C dX8_now_143 rfl ?_
                  refine g_get C kwX8 0 rfl rfl 7 (by decide) kfX8_59 rfl dX8_now_144 ?_
                  refine g_aload_n C dX8_now_147 rfl ?_
                  refine g_get C kwX8 0 rfl rfl 2 (by decide) kfX8_26 rfl dX8_now_148 ?_
                  refine g_callV C (c_X3_from k.l E g fo ff w p wm st dr a0 v wfl sl ph pd pm n lg sf dg hi de wma o om a u (nI fl) ma (by first | assumption | omega) (by first | assumption | omega) (by first | assumption | omega) (by first | assumption | omega)) kmX8_149 kiX3_from ksX3_from knX3 kcX3_from ⟨rfl, rfl⟩ ⟨rfl, kdX3_from⟩ ⟨by decide, by decide⟩ ⟨by decide, by decide⟩ [8, 9, 6, 1, 2, 3, 7, 4, 5] [0, 10] rfl (wr := [(x, .inr (8, [.ref p, .ref r, .ref o, .ref h, .ref im, .ref ik, .ref w, .ref g, .ref c, .ref ch, .long tr])), (h, .inr (2, [.ref pa, .int kn0, .int fr0]))]) rfl (by decide +kernel) (by decide +kernel) (by decide +kernel) 8 3 rfl rfl rfl (As := [.ref o]) (rest := []) rfl (Nat.le_of_ble_eq_true rfl) dX8_now_151 (fun rv_ rw_ hp_ => ?_)
                  obtain ⟨ff2_21, a2_22, v2_23, fl2_24, sl2_25, rfl, rfl⟩ := hp_
                  refine g_rep [0, 5, 6, 7, 9, 10, 4, 8, 2, 3, 1] (ws' := [(x, .inr (8, [.ref p, .ref r, .ref o, .ref h, .ref im, .ref ik, .ref w, .ref g, .ref c, .ref ch, .long tr])), (p, .inr (5, [.ref ph, .ref pd, .ref pm, .int (nI n), .int lg, .int sf, .int dg])), aI E ph 9 hi, aI E pd 9 de, (o, .inr (4, [.ref om, .int (nI a), .int (nI u), .int (nI fl)])), aI E om 9 ma, (w, .inr (7, [.ref p, .ref wm, .int sf, .int dg, .int a2_22, .int v2_23, .int fl2_24, .int sl2_25])), aI E wm 9 (va_cpy ma wma 0 0 9), (g, .inr (3, [.ref w, .ref fo])), aI E fo 900 ff2_21, (h, .inr (2, [.ref pa, .int kn0, .int fr0]))]) (st' := [.int (nI (LX n hi de (va_cpy ma wma 0 0 9) lg sf dg a (nI u)))]) (n' := 0) (z' := 0) (pc' := 154) rfl rfl rfl rfl (by decide +kernel) rfl ?_
                  have hlx : LX n hi de (va_cpy ma wma 0 0 9) lg sf dg a (nI u) = LX n hi de ma lg sf dg a (nI u) := LX_congr (fun s hs => ⟨rfl, rfl, cpy_lt (by omega)⟩) a (nI u)
                  have hlb := LX_bd (n := n) (hi := hi) (de := de) (ma := ma) (lg := lg) (dr := dg) (a := a) hst ⟨u, hu, rfl⟩
                  have hld := LX_div (n := n) (hi := hi) (de := de) (ma := ma) (lg := lg) (dr := dg) (a := a) hst ⟨u, hu, rfl⟩
                  refine g_bipush (v := 10) C dX8_now_154 (by decide) ?_
                  refine g_irem C dX8_now_156 (by decide) ?_
                  refine g_topi (v := nI (LL n hi de ma lg sf dg a (nI u)).2) (by rw [hlx, show (10 : Int32) = nI 10 from rfl, pk_rem (by omega) (by decide) (by decide), hld.2]) ?_
                  exact g_iret C hR (⟨_, _, _, _, _, _, _, _, by rw [if_neg h0, if_neg h1, if_neg h2, if_neg h3, if_neg h4, if_neg h5, if_neg h6, if_pos h7], rfl⟩) dX8_now_157
                · skip
                  by_cases h8 : y = 8
                  · skip
                    refine g_tin (off := 157) (tgt := 158) C dX8_now_1 (by rw [h8]; decide) (by rw [h8]; decide) (by rw [h8]; decide) (by decide) ?_
                    refine g_aload_n C dX8_now_158 rfl ?_
                    refine g_get C kwX8 0 rfl rfl 3 (by decide) kfX8_33 rfl dX8_now_159 ?_
                    refine g_get C kwX2 10 rfl rfl 1 (by decide) kfX8_109 rfl dX8_now_162 ?_
                    exact g_iret C hR (⟨_, _, _, _, _, _, _, _, by rw [if_neg h0, if_neg h1, if_neg h2, if_neg h3, if_neg h4, if_neg h5, if_neg h6, if_neg h7, if_pos h8], rfl⟩) dX8_now_165
                  · skip
                    refine g_tout (tgt := 166) C dX8_now_1 (by have q0 := lv_neT h0 (by decide : (0 : Int32).toInt = 0); have q1 := lv_neT h1 (by decide : (1 : Int32).toInt = 1); have q2 := lv_neT h2 (by decide : (2 : Int32).toInt = 2); have q3 := lv_neT h3 (by decide : (3 : Int32).toInt = 3); have q4 := lv_neT h4 (by decide : (4 : Int32).toInt = 4); have q5 := lv_neT h5 (by decide : (5 : Int32).toInt = 5); have q6 := lv_neT h6 (by decide : (6 : Int32).toInt = 6); have q7 := lv_neT h7 (by decide : (7 : Int32).toInt = 7); have q8 := lv_neT h8 (by decide : (8 : Int32).toInt = 8); omega) (by decide) ?_
                    refine g_iconst (v := (-1)) C dX8_now_166 (by decide) ?_
                    exact g_iret C hR (⟨_, _, _, _, _, _, _, _, by rw [if_neg h0, if_neg h1, if_neg h2, if_neg h3, if_neg h4, if_neg h5, if_neg h6, if_neg h7, if_neg h8], rfl⟩) dX8_now_167

set_option maxHeartbeats 4000000 in
set_option maxRecDepth 100000 in
theorem c_X8_count (l : Launch) (E : EX) (x : Nat) (p : Nat) (r : Nat) (o : Nat) (h : Nat) (im : Nat) (ik : Nat) (w : Nat) (g : Nat) (c : Nat) (ch : Nat) (tr : Int64) (ph : Nat) (pd : Nat) (pm : Nat) (n0 : Int32) (lg : Int32) (sf : Int32) (dg : Int32) (s1 : Nat) (s2 : Nat) (s3 : Nat) (s4 : Nat) (s5 : Nat) (s6 : Nat) (m0 : Int32) (po : Int32) (tx : Nat) (p2 : Nat) (at_ : Int32) (it : Int32) (fa : Int32) (b1 : Int32) (b2 : Int32) (b3 : Int32) (le0 : Int32) (y : Int32) : Ct l E yX8_count cX8_count 2 (some .int) (rmL 1 0 0) [.ref x, .int y] [(x, .inr (8, [.ref p, .ref r, .ref o, .ref h, .ref im, .ref ik, .ref w, .ref g, .ref c, .ref ch, .long tr])), (p, .inr (5, [.ref ph, .ref pd, .ref pm, .int n0, .int lg, .int sf, .int dg])), (c, .inr (1, [.ref w, .ref s1, .ref s2, .ref s3, .ref s4, .ref s5, .ref s6, .int m0, .int po])), (r, .inr (6, [.ref tx, .ref p2, .int le0, .int at_, .int it, .int fa, .int b1, .int b2, .int b3]))] (fun (rv_ : Option Value) (rw_ : va_W) => rv_ = some (.int (if y = 0 then n0 else if y = 1 then lg else if y = 2 then sf else if y = 3 then dg else if y = 4 then m0 else if y = 5 then le0 else -1)) ∧ rw_ = [(x, .inr (8, [.ref p, .ref r, .ref o, .ref h, .ref im, .ref ik, .ref w, .ref g, .ref c, .ref ch, .long tr])), (p, .inr (5, [.ref ph, .ref pd, .ref pm, .int n0, .int lg, .int sf, .int dg])), (c, .inr (1, [.ref w, .ref s1, .ref s2, .ref s3, .ref s4, .ref s5, .ref s6, .int m0, .int po])), (r, .inr (6, [.ref tx, .ref p2, .int le0, .int at_, .int it, .int fa, .int b1, .int b2, .int b3]))]) 0 0 := by
  refine Ct_of (by decide) (Nat.le_of_ble_eq_true rfl) ?_
  intro k hkl hnl C hR hin_
  subst hkl
  show G k E 0 0 0 [some (.ref x), some (.int y)] [] [(x, .inr (8, [.ref p, .ref r, .ref o, .ref h, .ref im, .ref ik, .ref w, .ref g, .ref c, .ref ch, .long tr])), (p, .inr (5, [.ref ph, .ref pd, .ref pm, .int n0, .int lg, .int sf, .int dg])), (c, .inr (1, [.ref w, .ref s1, .ref s2, .ref s3, .ref s4, .ref s5, .ref s6, .int m0, .int po])), (r, .inr (6, [.ref tx, .ref p2, .int le0, .int at_, .int it, .int fa, .int b1, .int b2, .int b3]))]
  refine g_iload_n C dX8_count_0 rfl ?_
  by_cases h0 : y = 0
  · skip
    refine g_tin (off := 39) (tgt := 40) C dX8_count_1 (by rw [h0]; decide) (by rw [h0]; decide) (by rw [h0]; decide) (by decide) ?_
    refine g_aload_n C dX8_count_40 rfl ?_
    refine g_get C kwX8 0 rfl rfl 0 (by decide) kfX8_12 rfl dX8_count_41 ?_
    refine g_get C kwX5 1 rfl rfl 3 (by decide) kfX8_179 rfl dX8_count_44 ?_
    exact g_iret C hR (⟨by rw [if_pos h0], rfl⟩) dX8_count_47
  · skip
    by_cases h1 : y = 1
    · skip
      refine g_tin (off := 47) (tgt := 48) C dX8_count_1 (by rw [h1]; decide) (by rw [h1]; decide) (by rw [h1]; decide) (by decide) ?_
      refine g_aload_n C dX8_count_48 rfl ?_
      refine g_get C kwX8 0 rfl rfl 0 (by decide) kfX8_12 rfl dX8_count_49 ?_
      refine g_get C kwX5 1 rfl rfl 4 (by decide) kfX8_238 rfl dX8_count_52 ?_
      exact g_iret C hR (⟨by rw [if_neg h0, if_pos h1], rfl⟩) dX8_count_55
    · skip
      by_cases h2 : y = 2
      · skip
        refine g_tin (off := 55) (tgt := 56) C dX8_count_1 (by rw [h2]; decide) (by rw [h2]; decide) (by rw [h2]; decide) (by decide) ?_
        refine g_aload_n C dX8_count_56 rfl ?_
        refine g_get C kwX8 0 rfl rfl 0 (by decide) kfX8_12 rfl dX8_count_57 ?_
        refine g_get C kwX5 1 rfl rfl 5 (by decide) kfX8_241 rfl dX8_count_60 ?_
        exact g_iret C hR (⟨by rw [if_neg h0, if_neg h1, if_pos h2], rfl⟩) dX8_count_63
      · skip
        by_cases h3 : y = 3
        · skip
          refine g_tin (off := 63) (tgt := 64) C dX8_count_1 (by rw [h3]; decide) (by rw [h3]; decide) (by rw [h3]; decide) (by decide) ?_
          refine g_aload_n C dX8_count_64 rfl ?_
          refine g_get C kwX8 0 rfl rfl 0 (by decide) kfX8_12 rfl dX8_count_65 ?_
          refine g_get C kwX5 1 rfl rfl 6 (by decide) kfX8_244 rfl dX8_count_68 ?_
          exact g_iret C hR (⟨by rw [if_neg h0, if_neg h1, if_neg h2, if_pos h3], rfl⟩) dX8_count_71
        · skip
          by_cases h4 : y = 4
          · skip
            refine g_tin (off := 71) (tgt := 72) C dX8_count_1 (by rw [h4]; decide) (by rw [h4]; decide) (by rw [h4]; decide) (by decide) ?_
            refine g_aload_n C dX8_count_72 rfl ?_
            refine g_get C kwX8 0 rfl rfl 8 (by decide) kfX8_66 rfl dX8_count_73 ?_
            refine g_get C kwX1 2 rfl rfl 7 (by decide) kfX8_112 rfl dX8_count_76 ?_
            exact g_iret C hR (⟨by rw [if_neg h0, if_neg h1, if_neg h2, if_neg h3, if_pos h4], rfl⟩) dX8_count_79
          · skip
            by_cases h5 : y = 5
            · skip
              refine g_tin (off := 79) (tgt := 80) C dX8_count_1 (by rw [h5]; decide) (by rw [h5]; decide) (by rw [h5]; decide) (by decide) ?_
              refine g_aload_n C dX8_count_80 rfl ?_
              refine g_get C kwX8 0 rfl rfl 1 (by decide) kfX8_19 rfl dX8_count_81 ?_
              refine g_get C kwX6 3 rfl rfl 2 (by decide) kfX8_89 rfl dX8_count_84 ?_
              exact g_iret C hR (⟨by rw [if_neg h0, if_neg h1, if_neg h2, if_neg h3, if_neg h4, if_pos h5], rfl⟩) dX8_count_87
            · skip
              refine g_tout (tgt := 88) C dX8_count_1 (by have q0 := lv_neT h0 (by decide : (0 : Int32).toInt = 0); have q1 := lv_neT h1 (by decide : (1 : Int32).toInt = 1); have q2 := lv_neT h2 (by decide : (2 : Int32).toInt = 2); have q3 := lv_neT h3 (by decide : (3 : Int32).toInt = 3); have q4 := lv_neT h4 (by decide : (4 : Int32).toInt = 4); have q5 := lv_neT h5 (by decide : (5 : Int32).toInt = 5); omega) (by decide) ?_
              refine g_iconst (v := (-1)) C dX8_count_88 (by decide) ?_
              exact g_iret C hR (⟨by rw [if_neg h0, if_neg h1, if_neg h2, if_neg h3, if_neg h4, if_neg h5], rfl⟩) dX8_count_89

set_option maxHeartbeats 4000000 in
set_option maxRecDepth 100000 in
theorem c_X8_trace (l : Launch) (E : EX) (x : Nat) (p : Nat) (r : Nat) (o : Nat) (h : Nat) (im : Nat) (ik : Nat) (w : Nat) (g : Nat) (c : Nat) (ch : Nat) (tr : Int64) : Ct l E yX8_trace cX8_trace 1 (some .long) (rmL 1 0 0) [.ref x] [(x, .inr (8, [.ref p, .ref r, .ref o, .ref h, .ref im, .ref ik, .ref w, .ref g, .ref c, .ref ch, .long tr]))] (fun (rv_ : Option Value) (rw_ : va_W) => rv_ = some (.long tr) ∧ rw_ = [(x, .inr (8, [.ref p, .ref r, .ref o, .ref h, .ref im, .ref ik, .ref w, .ref g, .ref c, .ref ch, .long tr]))]) 0 0 := by
  refine Ct_of (by decide) (Nat.le_of_ble_eq_true rfl) ?_
  intro k hkl hnl C hR hin_
  subst hkl
  show G k E 0 0 0 [some (.ref x)] [] [(x, .inr (8, [.ref p, .ref r, .ref o, .ref h, .ref im, .ref ik, .ref w, .ref g, .ref c, .ref ch, .long tr]))]
  refine g_aload_n C dX8_trace_0 rfl ?_
  refine g_get C kwX8 0 rfl rfl 10 (by decide) kfX8_77 rfl dX8_trace_1 ?_
  exact g_lret C hR (⟨rfl, rfl⟩) dX8_trace_4

set_option maxHeartbeats 4000000 in
set_option maxRecDepth 100000 in
theorem c_X8_forget (l : Launch) (E : EX) (x : Nat) (p : Nat) (r : Nat) (o : Nat) (h : Nat) (im : Nat) (ik : Nat) (w : Nat) (g : Nat) (c : Nat) (ch : Nat) (tr : Int64) (s1 : Nat) (s2 : Nat) (s3 : Nat) (s4 : Nat) (s5 : Nat) (s6 : Nat) (m0 : Int32) (po : Int32) : Ct l E yX8_forget cX8_forget 2 (some .int) (rmL 1 0 0) [.ref x] [(x, .inr (8, [.ref p, .ref r, .ref o, .ref h, .ref im, .ref ik, .ref w, .ref g, .ref c, .ref ch, .long tr])), (c, .inr (1, [.ref w, .ref s1, .ref s2, .ref s3, .ref s4, .ref s5, .ref s6, .int m0, .int po]))] (fun (rv_ : Option Value) (rw_ : va_W) => rv_ = some (.int m0) ∧ rw_ = [(x, .inr (8, [.ref p, .ref r, .ref o, .ref h, .ref im, .ref ik, .ref w, .ref g, .ref c, .ref ch, .long tr])), (c, .inr (1, [.ref w, .ref s1, .ref s2, .ref s3, .ref s4, .ref s5, .ref s6, .int 0, .int po]))]) 0 0 := by
  refine Ct_of (by decide) (Nat.le_of_ble_eq_true rfl) ?_
  intro k hkl hnl C hR hin_
  subst hkl
  show G k E 0 0 0 [some (.ref x), none] [] [(x, .inr (8, [.ref p, .ref r, .ref o, .ref h, .ref im, .ref ik, .ref w, .ref g, .ref c, .ref ch, .long tr])), (c, .inr (1, [.ref w, .ref s1, .ref s2, .ref s3, .ref s4, .ref s5, .ref s6, .int m0, .int po]))]
  refine g_aload_n C dX8_forget_0 rfl ?_
  refine g_get C kwX8 0 rfl rfl 8 (by decide) kfX8_66 rfl dX8_forget_1 ?_
  refine g_get C kwX1 1 rfl rfl 7 (by decide) kfX8_112 rfl dX8_forget_4 ?_
  refine g_istore_n (lv' := [some (.ref x), some (.int m0)]) C dX8_forget_7 (hnl 1 (by decide)) rfl rfl ?_
  refine g_aload_n C dX8_forget_8 rfl ?_
  refine g_get C kwX8 0 rfl rfl 8 (by decide) kfX8_66 rfl dX8_forget_9 ?_
  refine g_iconst (v := 0) C dX8_forget_12 (by decide) ?_
  refine g_put (ws' := [(x, .inr (8, [.ref p, .ref r, .ref o, .ref h, .ref im, .ref ik, .ref w, .ref g, .ref c, .ref ch, .long tr])), (c, .inr (1, [.ref w, .ref s1, .ref s2, .ref s3, .ref s4, .ref s5, .ref s6, .int 0, .int po]))]) C kwX1 tyX1 tyX1_ok nmX1 1 rfl rfl 7 (by decide) kfX8_112 rfl rfl rfl (Nat.le_of_ble_eq_true rfl) rfl dX8_forget_13 ?_
  refine g_iload_n C dX8_forget_16 rfl ?_
  exact g_iret C hR (⟨rfl, rfl⟩) dX8_forget_17
