set_option maxHeartbeats 4000000 in
set_option maxRecDepth 100000 in
theorem c_few0 (l : Launch) (E : EX) (g : Nat) (fo : Nat) (ff : Nat → Int32) (w : Nat) (p : Nat) (wm : Nat) (st : Int32) (dr : Int32) (a0 : Int32) (v : Int32) (fl : Int32) (sl : Int32) (ph : Nat) (pd : Nat) (pm : Nat) (n : Nat) (lg : Int32) (sf : Int32) (dg : Int32) (hi : Nat → Int32) (de : Nat → Int32) (ma : Nat → Int32) (a : Nat) (u : Nat) (hn : n ≤ 9) (ha : a ≤ n) (hu : u < 100) (hst : st ≤ 9) (hmo : MemoOK n hi de ma lg st dr ff) (hd : n - a ≤ 0) : Ct l E yX3_fewest cX3_fewest 4 (some .int) (rmL (2 * 0 + 5) 0 0) [.ref g, .int (nI a), .int (nI u)] [(g, .inr (3, [.ref w, .ref fo])), aI E fo 900 ff, (w, .inr (7, [.ref p, .ref wm, .int st, .int dr, .int a0, .int v, .int fl, .int sl])), (p, .inr (5, [.ref ph, .ref pd, .ref pm, .int (nI n), .int lg, .int sf, .int dg])), aI E ph 9 hi, aI E pd 9 de, aI E wm 9 ma] (fun (rv_ : Option Value) (rw_ : va_W) => ∃ (ff2 : Nat → Int32) (a2 : Int32) (v2 : Int32) (fl2 : Int32) (sl2 : Int32), rv_ = some (.int (nI (LX n hi de ma lg st dr a (nI u)))) ∧ rw_ = [(g, .inr (3, [.ref w, .ref fo])), aI E fo 900 ff2, (w, .inr (7, [.ref p, .ref wm, .int st, .int dr, .int a2, .int v2, .int fl2, .int sl2])), (p, .inr (5, [.ref ph, .ref pd, .ref pm, .int (nI n), .int lg, .int sf, .int dg])), aI E ph 9 hi, aI E pd 9 de, aI E wm 9 ma] ∧ (MemoOK n hi de ma lg st dr ff2)) 0 0 := by
  refine Ct_of (by decide) (Nat.le_of_ble_eq_true rfl) ?_
  intro k hkl hnl C hR hin_
  subst hkl
  show G k E 0 0 0 [some (.ref g), some (.int (nI a)), some (.int (nI u)), none] [] [(g, .inr (3, [.ref w, .ref fo])), aI E fo 900 ff, (w, .inr (7, [.ref p, .ref wm, .int st, .int dr, .int a0, .int v, .int fl, .int sl])), (p, .inr (5, [.ref ph, .ref pd, .ref pm, .int (nI n), .int lg, .int sf, .int dg])), aI E ph 9 hi, aI E pd 9 de, aI E wm 9 ma]
  refine g_aload_n C dX3_fewest_0 rfl ?_
  refine g_get C kwX3 0 rfl rfl 0 (by decide) kfX3_15 rfl dX3_fewest_1 ?_
  refine g_get C kwX7 2 rfl rfl 0 (by decide) kfX3_44 rfl dX3_fewest_4 ?_
  refine g_iload_n C dX3_fewest_7 rfl ?_
  refine g_callV C (c_X5_has k.l E p ph pd pm (nI n) lg sf dg (nI a)) kmX3_48 kiX5_has ksX5_has knX5 kcX5_has ⟨rfl, rfl⟩ ⟨rfl, kdX5_has⟩ ⟨by simp only [rmL]; omega, by simp only [rmL]; omega⟩ ⟨Nat.le_refl _, Nat.le_refl _⟩ [3] [0, 1, 2, 4, 5, 6] rfl (wr := [(g, .inr (3, [.ref w, .ref fo])), aI E fo 900 ff, (w, .inr (7, [.ref p, .ref wm, .int st, .int dr, .int a0, .int v, .int fl, .int sl])), aI E ph 9 hi, aI E pd 9 de, aI E wm 9 ma]) rfl (by decide +kernel) (by decide +kernel) (by decide +kernel) 3 5 rfl rfl rfl (As := [.int (nI a)]) (rest := []) rfl (Nat.le_of_ble_eq_true rfl) dX3_fewest_8 (fun rv_ rw_ hp_ => ?_)
  obtain ⟨rfl, rfl⟩ := hp_
  refine g_rep [0, 1, 2, 6, 3, 4, 5] (ws' := [(g, .inr (3, [.ref w, .ref fo])), aI E fo 900 ff, (w, .inr (7, [.ref p, .ref wm, .int st, .int dr, .int a0, .int v, .int fl, .int sl])), (p, .inr (5, [.ref ph, .ref pd, .ref pm, .int (nI n), .int lg, .int sf, .int dg])), aI E ph 9 hi, aI E pd 9 de, aI E wm 9 ma]) (st' := [.int (bI (0 ≤ (nI a) ∧ (nI a) ≤ (nI n) - 1))]) (n' := 0) (z' := 0) (pc' := 11) rfl rfl rfl rfl (by decide +kernel) rfl ?_
  refine g_if_ne (tgt := 16) C dX3_fewest_11 (by decide) (fun c11 => ?_) (fun c11 => ?_)
  · skip
    exact absurd (has_nat (by omega) (by omega) (bI_1 c11)) (by omega)
  · skip
    refine g_iconst (v := 0) C dX3_fewest_14 (by decide) ?_
    exact g_iret C hR (⟨ff, a0, v, fl, sl, by rw [LX, LL_floor (by omega)]; rfl, rfl, hmo⟩) dX3_fewest_15

set_option maxHeartbeats 4000000 in
set_option maxRecDepth 100000 in
theorem lp_X3_search {k : KX} {E : EX} {d : Nat} (C : Cx k E cX3_search RX3 (rmL (2 * d + 6) 0 0)) (hnl : ∀ j : Nat, j < 8 → j < k.nL) {g : Nat} {fo : Nat} {w : Nat} {p : Nat} {wm : Nat} {st : Int32} {dr : Int32} {ph : Nat} {pd : Nat} {pm : Nat} {n : Nat} {lg : Int32} {sf : Int32} {dg : Int32} {hi : Nat → Int32} {de : Nat → Int32} {ma : Nat → Int32} {a : Nat} {u : Nat} (hn : n ≤ 9) (ha : a < n) (hu : u < 100) (hst : st ≤ 9) (hd : n - a ≤ d + 1) (ihF : ∀ (l : Launch) (E : EX) (g : Nat) (fo : Nat) (ff : Nat → Int32) (w : Nat) (p : Nat) (wm : Nat) (st : Int32) (dr : Int32) (a0 : Int32) (v : Int32) (fl : Int32) (sl : Int32) (ph : Nat) (pd : Nat) (pm : Nat) (n : Nat) (lg : Int32) (sf : Int32) (dg : Int32) (hi : Nat → Int32) (de : Nat → Int32) (ma : Nat → Int32) (a : Nat) (u : Nat) (hn : n ≤ 9) (ha : a ≤ n) (hu : u < 100) (hst : st ≤ 9) (hmo : MemoOK n hi de ma lg st dr ff) (hd : n - a ≤ d), Ct l E yX3_fewest cX3_fewest 4 (some .int) (rmL (2 * d + 5) 0 0) [.ref g, .int (nI a), .int (nI u)] [(g, .inr (3, [.ref w, .ref fo])), aI E fo 900 ff, (w, .inr (7, [.ref p, .ref wm, .int st, .int dr, .int a0, .int v, .int fl, .int sl])), (p, .inr (5, [.ref ph, .ref pd, .ref pm, .int (nI n), .int lg, .int sf, .int dg])), aI E ph 9 hi, aI E pd 9 de, aI E wm 9 ma] (fun (rv_ : Option Value) (rw_ : va_W) => ∃ (ff2 : Nat → Int32) (a2 : Int32) (v2 : Int32) (fl2 : Int32) (sl2 : Int32), rv_ = some (.int (nI (LX n hi de ma lg st dr a (nI u)))) ∧ rw_ = [(g, .inr (3, [.ref w, .ref fo])), aI E fo 900 ff2, (w, .inr (7, [.ref p, .ref wm, .int st, .int dr, .int a2, .int v2, .int fl2, .int sl2])), (p, .inr (5, [.ref ph, .ref pd, .ref pm, .int (nI n), .int lg, .int sf, .int dg])), aI E ph 9 hi, aI E pd 9 de, aI E wm 9 ma] ∧ (MemoOK n hi de ma lg st dr ff2)) 0 0) (hR : Rt k E (fun (rv_ : Option Value) (rw_ : va_W) => ∃ (ff2 : Nat → Int32) (a2 : Int32) (v2 : Int32) (fl2 : Int32) (sl2 : Int32), rv_ = some (.int (nI (LX n hi de ma lg st dr a (nI u)))) ∧ rw_ = [(g, .inr (3, [.ref w, .ref fo])), aI E fo 900 ff2, (w, .inr (7, [.ref p, .ref wm, .int st, .int dr, .int a2, .int v2, .int fl2, .int sl2])), (p, .inr (5, [.ref ph, .ref pd, .ref pm, .int (nI n), .int lg, .int sf, .int dg])), aI E ph 9 hi, aI E pd 9 de, aI E wm 9 ma] ∧ (MemoOK n hi de ma lg st dr ff2)) 0 0 (some .int)) : ∀ (m : Nat) (ff : Nat → Int32) (a0 v fl sl : Int32) (b fi j : Nat), j + m = 10 → upInv (cand n hi de ma lg st dr a (nI u)) j b fi → b ≤ 1000 → MemoOK n hi de ma lg st dr ff → G k E 0 0 10 [some (.ref g), some (.int (nI a)), some (.int (nI u)), some (.int (nI b)), some (.int (nI fi)), some (.int (nI j)), none, none] [] [(g, .inr (3, [.ref w, .ref fo])), aI E fo 900 ff, (w, .inr (7, [.ref p, .ref wm, .int st, .int dr, .int a0, .int v, .int fl, .int sl])), (p, .inr (5, [.ref ph, .ref pd, .ref pm, .int (nI n), .int lg, .int sf, .int dg])), aI E ph 9 hi, aI E pd 9 de, aI E wm 9 ma] := by
  have hlow : ∀ i s, cand n hi de ma lg st dr a (nI u) i = some s → i ≤ s := fun i s h => (cand_bd hst h).1
  have h9 : ∃ s, cand n hi de ma lg st dr a (nI u) 9 = some s := cand9 hst ⟨u, hu, rfl⟩
  intro m
  induction m with
  | zero =>
    intro ff a0 v fl sl b fi j hj hinv hb hmo
    have hbest := upInv_end hlow h9 hinv (by omega) (Or.inl (by omega))
    refine g_iload C dX3_search_10 rfl ?_
    refine g_bipush (v := 9) C dX3_search_12 (by decide) ?_
    refine g_icmp_gt (tgt := 106) C dX3_search_14 (by decide) (fun c14 => ?_) (fun c14 => ?_)
    · skip
      refine g_iload_n C dX3_search_106 rfl ?_
      refine g_iload C dX3_search_107 rfl ?_
      refine g_callSN C (c_X8_tenTimes k.l E (nI b) (nI fi)) kcX8_tenTimes (by decide) knX8 ktX8_tenTimes ⟨rfl, rfl⟩ kdX8_tenTimes ⟨by simp only [rmL]; omega, by simp only [rmL]; omega⟩ ⟨Nat.le_refl _, Nat.le_refl _⟩ [] [0, 1, 2, 3, 4, 5, 6] rfl (wr := [(g, .inr (3, [.ref w, .ref fo])), aI E fo 900 ff, (w, .inr (7, [.ref p, .ref wm, .int st, .int dr, .int a0, .int v, .int fl, .int sl])), (p, .inr (5, [.ref ph, .ref pd, .ref pm, .int (nI n), .int lg, .int sf, .int dg])), aI E ph 9 hi, aI E pd 9 de, aI E wm 9 ma]) rfl (by decide +kernel) (by decide +kernel) (by decide +kernel) rfl (As := [.int (nI b), .int (nI fi)]) (rest := []) rfl (Nat.le_of_ble_eq_true rfl) dX3_search_109 (fun rv_ rw_ hp_ => ?_)
      obtain ⟨rfl, rfl⟩ := hp_
      refine g_rep [0, 1, 2, 3, 4, 5, 6] (ws' := [(g, .inr (3, [.ref w, .ref fo])), aI E fo 900 ff, (w, .inr (7, [.ref p, .ref wm, .int st, .int dr, .int a0, .int v, .int fl, .int sl])), (p, .inr (5, [.ref ph, .ref pd, .ref pm, .int (nI n), .int lg, .int sf, .int dg])), aI E ph 9 hi, aI E pd 9 de, aI E wm 9 ma]) (st' := [.int (10 * (nI b) + (nI fi))]) (n' := 0) (z' := 0) (pc' := 112) rfl rfl rfl rfl (by decide +kernel) rfl ?_
      exact g_iret C hR (⟨ff, a0, v, fl, sl, by rw [show LX n hi de ma lg st dr a (nI u) = 10 * b + fi from by rw [LX, ← LL_of_best hn ha hst ⟨u, hu, rfl⟩ hbest]]; rw [show (10 : Int32) = nI 10 from rfl, nx_mul, nI_add], rfl, hmo⟩) dX3_search_112
    · skip
      exact absurd ((nI_ltI (a := 9) (by decide) (by omega)).mpr (by omega)) c14
  | succ m ih =>
    intro ff a0 v fl sl b fi j hj hinv hb hmo
    refine g_iload C dX3_search_10 rfl ?_
    refine g_bipush (v := 9) C dX3_search_12 (by decide) ?_
    refine g_icmp_gt (tgt := 106) C dX3_search_14 (by decide) (fun c14 => ?_) (fun c14 => ?_)
    · skip
      exact absurd ((nI_ltI (a := 9) (by decide) (by omega)).mp c14) (by omega)
    · skip
      refine g_iload C dX3_search_17 rfl ?_
      refine g_iload_n C dX3_search_19 rfl ?_
      refine g_icmp_ge (tgt := 106) C dX3_search_20 (by decide) (fun c20 => ?_) (fun c20 => ?_)
      · skip
        have hbest := upInv_end hlow h9 hinv (by omega) (Or.inr ((nI_leI (by omega) (by omega)).mp c20))
        refine g_iload_n C dX3_search_106 rfl ?_
        refine g_iload C dX3_search_107 rfl ?_
        refine g_callSN C (c_X8_tenTimes k.l E (nI b) (nI fi)) kcX8_tenTimes (by decide) knX8 ktX8_tenTimes ⟨rfl, rfl⟩ kdX8_tenTimes ⟨by simp only [rmL]; omega, by simp only [rmL]; omega⟩ ⟨Nat.le_refl _, Nat.le_refl _⟩ [] [0, 1, 2, 3, 4, 5, 6] rfl (wr := [(g, .inr (3, [.ref w, .ref fo])), aI E fo 900 ff, (w, .inr (7, [.ref p, .ref wm, .int st, .int dr, .int a0, .int v, .int fl, .int sl])), (p, .inr (5, [.ref ph, .ref pd, .ref pm, .int (nI n), .int lg, .int sf, .int dg])), aI E ph 9 hi, aI E pd 9 de, aI E wm 9 ma]) rfl (by decide +kernel) (by decide +kernel) (by decide +kernel) rfl (As := [.int (nI b), .int (nI fi)]) (rest := []) rfl (Nat.le_of_ble_eq_true rfl) dX3_search_109 (fun rv_ rw_ hp_ => ?_)
        obtain ⟨rfl, rfl⟩ := hp_
        refine g_rep [0, 1, 2, 3, 4, 5, 6] (ws' := [(g, .inr (3, [.ref w, .ref fo])), aI E fo 900 ff, (w, .inr (7, [.ref p, .ref wm, .int st, .int dr, .int a0, .int v, .int fl, .int sl])), (p, .inr (5, [.ref ph, .ref pd, .ref pm, .int (nI n), .int lg, .int sf, .int dg])), aI E ph 9 hi, aI E pd 9 de, aI E wm 9 ma]) (st' := [.int (10 * (nI b) + (nI fi))]) (n' := 0) (z' := 0) (pc' := 112) rfl rfl rfl rfl (by decide +kernel) rfl ?_
        exact g_iret C hR (⟨ff, a0, v, fl, sl, by rw [show LX n hi de ma lg st dr a (nI u) = 10 * b + fi from by rw [LX, ← LL_of_best hn ha hst ⟨u, hu, rfl⟩ hbest]]; rw [show (10 : Int32) = nI 10 from rfl, nx_mul, nI_add], rfl, hmo⟩) dX3_search_112
      · skip
        refine g_iload_n C dX3_search_23 rfl ?_
        refine g_iload C dX3_search_24 rfl ?_
        refine g_iadd C dX3_search_26 ?_
        refine g_callSN C (c_X8_asVigour k.l E ((nI u) + (nI j))) kcX8_asVigour (by decide) knX8 ktX8_asVigour ⟨rfl, rfl⟩ kdX8_asVigour ⟨by simp only [rmL]; omega, by simp only [rmL]; omega⟩ ⟨Nat.le_refl _, Nat.le_refl _⟩ [] [0, 1, 2, 3, 4, 5, 6] rfl (wr := [(g, .inr (3, [.ref w, .ref fo])), aI E fo 900 ff, (w, .inr (7, [.ref p, .ref wm, .int st, .int dr, .int a0, .int v, .int fl, .int sl])), (p, .inr (5, [.ref ph, .ref pd, .ref pm, .int (nI n), .int lg, .int sf, .int dg])), aI E ph 9 hi, aI E pd 9 de, aI E wm 9 ma]) rfl (by decide +kernel) (by decide +kernel) (by decide +kernel) rfl (As := [.int ((nI u) + (nI j))]) (rest := []) rfl (Nat.le_of_ble_eq_true rfl) dX3_search_27 (fun rv_ rw_ hp_ => ?_)
        obtain ⟨rfl, rfl⟩ := hp_
        refine g_rep [0, 1, 2, 3, 4, 5, 6] (ws' := [(g, .inr (3, [.ref w, .ref fo])), aI E fo 900 ff, (w, .inr (7, [.ref p, .ref wm, .int st, .int dr, .int a0, .int v, .int fl, .int sl])), (p, .inr (5, [.ref ph, .ref pd, .ref pm, .int (nI n), .int lg, .int sf, .int dg])), aI E ph 9 hi, aI E pd 9 de, aI E wm 9 ma]) (st' := [.int (asV ((nI u) + (nI j)))]) (n' := 0) (z' := 0) (pc' := 30) rfl rfl rfl rfl (by decide +kernel) rfl ?_
        refine g_istore (lv' := [some (.ref g), some (.int (nI a)), some (.int (nI u)), some (.int (nI b)), some (.int (nI fi)), some (.int (nI j)), some (.int (asV ((nI u) + (nI j)))), none]) C dX3_search_30 (hnl 6 (by decide)) rfl rfl ?_
        refine g_iload C dX3_search_32 rfl ?_
        refine g_aload_n C dX3_search_34 rfl ?_
        refine g_get C kwX3 0 rfl rfl 0 (by decide) kfX3_15 rfl dX3_search_35 ?_
        refine g_get C kwX7 2 rfl rfl 2 (by decide) kfX3_61 rfl dX3_search_38 ?_
        refine g_icmp_lt (tgt := 100) C dX3_search_41 (by decide) (fun c41 => ?_) (fun c41 => ?_)
        · skip
          refine g_iinc (v := nI (j + 1)) (lv' := [some (.ref g), some (.int (nI a)), some (.int (nI u)), some (.int (nI b)), some (.int (nI fi)), some (.int (nI (j + 1))), some (.int (asV ((nI u) + (nI j)))), none]) C dX3_search_100 rfl (nI_add _ 1) (hnl 5 (by decide)) rfl rfl ?_
          refine g_goto (tgt := 10) C dX3_search_103 (by decide) ?_
          refine g_kill 6 (lv' := [some (.ref g), some (.int (nI a)), some (.int (nI u)), some (.int (nI b)), some (.int (nI fi)), some (.int (nI (j + 1))), none, none]) rfl ?_
          exact ih _ _ _ _ _ b fi (j + 1) (by omega) (upInv_none hinv (by unfold cand candF; exact if_neg (Int32.not_le.mpr c41))) (by omega) hmo
        · skip
          refine g_aload_n C dX3_search_44 rfl ?_
          refine g_get C kwX3 0 rfl rfl 0 (by decide) kfX3_15 rfl dX3_search_45 ?_
          refine g_iload_n C dX3_search_48 rfl ?_
          refine g_iload C dX3_search_49 rfl ?_
          refine g_callV C (c_X7_stand k.l E w p wm st dr a0 v fl sl (nI a) (asV ((nI u) + (nI j)))) kmX3_64 kiX7_stand ksX7_stand knX7 kcX7_stand ⟨rfl, rfl⟩ ⟨rfl, kdX7_stand⟩ ⟨by simp only [rmL]; omega, by simp only [rmL]; omega⟩ ⟨Nat.le_refl _, Nat.le_refl _⟩ [2] [0, 1, 3, 4, 5, 6] rfl (wr := [(g, .inr (3, [.ref w, .ref fo])), aI E fo 900 ff, (p, .inr (5, [.ref ph, .ref pd, .ref pm, .int (nI n), .int lg, .int sf, .int dg])), aI E ph 9 hi, aI E pd 9 de, aI E wm 9 ma]) rfl (by decide +kernel) (by decide +kernel) (by decide +kernel) 2 7 rfl rfl rfl (As := [.int (nI a), .int (asV ((nI u) + (nI j)))]) (rest := []) rfl (Nat.le_of_ble_eq_true rfl) dX3_search_51 (fun rv_ rw_ hp_ => ?_)
          obtain ⟨rfl, rfl⟩ := hp_
          refine g_rep [0, 1, 6, 2, 3, 4, 5] (ws' := [(g, .inr (3, [.ref w, .ref fo])), aI E fo 900 ff, (w, .inr (7, [.ref p, .ref wm, .int st, .int dr, .int (nI a), .int (asV ((nI u) + (nI j))), .int 0, .int 0])), (p, .inr (5, [.ref ph, .ref pd, .ref pm, .int (nI n), .int lg, .int sf, .int dg])), aI E ph 9 hi, aI E pd 9 de, aI E wm 9 ma]) (st' := []) (n' := 0) (z' := 0) (pc' := 54) rfl rfl rfl rfl (by decide +kernel) rfl ?_
          refine g_aload_n C dX3_search_54 rfl ?_
          refine g_get C kwX3 0 rfl rfl 0 (by decide) kfX3_15 rfl dX3_search_55 ?_
          refine g_callV C (c_X7_turn k.l E w p wm st dr a (asV ((nI u) + (nI j))) 0 0 ph pd pm n lg sf dg hi de ma (by first | assumption | omega) (by first | assumption | omega)) kmX3_68 kiX7_turn ksX7_turn knX7 kcX7_turn ⟨rfl, rfl⟩ ⟨rfl, kdX7_turn⟩ ⟨by simp only [rmL]; omega, by simp only [rmL]; omega⟩ ⟨Nat.le_refl _, Nat.le_refl _⟩ [2, 3, 4, 5, 6] [0, 1] rfl (wr := [(g, .inr (3, [.ref w, .ref fo])), aI E fo 900 ff]) rfl (by decide +kernel) (by decide +kernel) (by decide +kernel) 2 7 rfl rfl rfl (As := []) (rest := []) rfl (Nat.le_of_ble_eq_true rfl) dX3_search_58 (fun rv_ rw_ hp_ => ?_)
          obtain ⟨rfl, rfl⟩ := hp_
          refine g_rep [0, 1, 2, 3, 4, 5, 6] (ws' := [(g, .inr (3, [.ref w, .ref fo])), aI E fo 900 ff, (w, .inr (7, [.ref p, .ref wm, .int st, .int dr, .int (nI (turnF n hi de ma lg st dr a (asV ((nI u) + (nI j))) 0).1), .int ((turnF n hi de ma lg st dr a (asV ((nI u) + (nI j))) 0).2.1), .int (0 + 1), .int ((turnF n hi de ma lg st dr a (asV ((nI u) + (nI j))) 0).2.2)])), (p, .inr (5, [.ref ph, .ref pd, .ref pm, .int (nI n), .int lg, .int sf, .int dg])), aI E ph 9 hi, aI E pd 9 de, aI E wm 9 ma]) (st' := []) (n' := 0) (z' := 0) (pc' := 61) rfl rfl rfl rfl (by decide +kernel) rfl ?_
          refine g_iload C dX3_search_61 rfl ?_
          refine g_aload_n C dX3_search_63 rfl ?_
          refine g_aload_n C dX3_search_64 rfl ?_
          refine g_get C kwX3 0 rfl rfl 0 (by decide) kfX3_15 rfl dX3_search_65 ?_
          refine g_get C kwX7 2 rfl rfl 4 (by decide) kfX3_71 rfl dX3_search_68 ?_
          refine g_aload_n C dX3_search_71 rfl ?_
          refine g_get C kwX3 0 rfl rfl 0 (by decide) kfX3_15 rfl dX3_search_72 ?_
          refine g_get C kwX7 2 rfl rfl 5 (by decide) kfX3_72 rfl dX3_search_75 ?_
          obtain ⟨u2, hu2, eu2⟩ := turnF_ok (n := n) (hi := hi) (de := de) (ma := ma) (lg := lg) (st := st) (dr := dr) (a := a) (v := asV (nI u + nI j)) (sl := 0)
          refine g_topi (v := nI u2) eu2 ?_
          have hgt := turnF_gt (n := n) (hi := hi) (de := de) (ma := ma) (lg := lg) (dr := dr) (a := a) (sl := 0) (Int32.not_lt.mp c41)
          have hle := (turnF_le (n := n) (hi := hi) (de := de) (ma := ma) (lg := lg) (st := st) (dr := dr) (a := a) (v := asV (nI u + nI j)) (sl := 0) ha).2
          refine g_callV C (ihF k.l E g fo ff w p wm st dr (nI (turnF n hi de ma lg st dr a (asV ((nI u) + (nI j))) 0).1) ((turnF n hi de ma lg st dr a (asV ((nI u) + (nI j))) 0).2.1) (0 + 1) ((turnF n hi de ma lg st dr a (asV ((nI u) + (nI j))) 0).2.2) ph pd pm n lg sf dg hi de ma ((turnF n hi de ma lg st dr a (asV ((nI u) + (nI j))) 0).1) u2 (by first | assumption | omega) (hle) (hu2) (by first | assumption | omega) (hmo) (by omega)) kmX3_40 kiX3_fewest ksX3_fewest knX3 kcX3_fewest ⟨rfl, rfl⟩ ⟨rfl, kdX3_fewest⟩ ⟨by simp only [rmL]; omega, by simp only [rmL]; omega⟩ ⟨Nat.le_refl _, Nat.le_refl _⟩ [0, 1, 2, 3, 4, 5, 6] [] rfl (wr := []) rfl (by decide +kernel) (by decide +kernel) (by decide +kernel) 0 3 rfl rfl rfl (As := [.int (nI (turnF n hi de ma lg st dr a (asV ((nI u) + (nI j))) 0).1), .int (nI u2)]) (rest := [.int (nI j)]) rfl (Nat.le_of_ble_eq_true rfl) dX3_search_78 (fun rv_ rw_ hp_ => ?_)
          obtain ⟨ff2_1, a2_2, v2_3, fl2_4, sl2_5, rfl, rfl, hm2_6⟩ := hp_
          refine g_rep [0, 1, 2, 3, 4, 5, 6] (ws' := [(g, .inr (3, [.ref w, .ref fo])), aI E fo 900 ff2_1, (w, .inr (7, [.ref p, .ref wm, .int st, .int dr, .int a2_2, .int v2_3, .int fl2_4, .int sl2_5])), (p, .inr (5, [.ref ph, .ref pd, .ref pm, .int (nI n), .int lg, .int sf, .int dg])), aI E ph 9 hi, aI E pd 9 de, aI E wm 9 ma]) (st' := [.int (nI (LX n hi de ma lg st dr ((turnF n hi de ma lg st dr a (asV ((nI u) + (nI j))) 0).1) (nI u2))), .int (nI j)]) (n' := 0) (z' := 0) (pc' := 81) rfl rfl rfl rfl (by decide +kernel) rfl ?_
          have hc : cand n hi de ma lg st dr a (nI u) j = some (j + (LL n hi de ma lg st dr (turnF n hi de ma lg st dr a (asV (nI u + nI j)) 0).1 (nI u2)).1) := by
            rw [← eu2]; unfold cand candF; rw [if_pos (Int32.not_lt.mp c41)]
          have hb2 := cand_bd hst hc
          refine g_bipush (v := 10) C dX3_search_81 (by decide) ?_
          refine g_idiv C dX3_search_83 (by decide) ?_
          refine g_topi (v := nI (LL n hi de ma lg st dr (turnF n hi de ma lg st dr a (asV (nI u + nI j)) 0).1 (nI u2)).1) (by rw [show (10 : Int32) = nI 10 from rfl, pk_div (by have := LX_bd (n := n) (hi := hi) (de := de) (ma := ma) (lg := lg) (dr := dr) (a := (turnF n hi de ma lg st dr a (asV (nI u + nI j)) 0).1) hst ⟨u2, hu2, rfl⟩; omega) (by decide) (by decide), (LX_div hst ⟨u2, hu2, rfl⟩).1]) ?_
          refine g_iadd C dX3_search_84 ?_
          refine g_topi (v := nI (j + (LL n hi de ma lg st dr (turnF n hi de ma lg st dr a (asV (nI u + nI j)) 0).1 (nI u2)).1)) (nI_add _ _) ?_
          refine g_istore (lv' := [some (.ref g), some (.int (nI a)), some (.int (nI u)), some (.int (nI b)), some (.int (nI fi)), some (.int (nI j)), some (.int (asV ((nI u) + (nI j)))), some (.int (nI (j + (LL n hi de ma lg st dr (turnF n hi de ma lg st dr a (asV (nI u + nI j)) 0).1 (nI u2)).1)))]) C dX3_search_85 (hnl 7 (by decide)) rfl rfl ?_
          refine g_iload C dX3_search_87 rfl ?_
          refine g_iload_n C dX3_search_89 rfl ?_
          refine g_icmp_ge (tgt := 100) C dX3_search_90 (by decide) (fun c90 => ?_) (fun c90 => ?_)
          · skip
            refine g_iinc (v := nI (j + 1)) (lv' := [some (.ref g), some (.int (nI a)), some (.int (nI u)), some (.int (nI b)), some (.int (nI fi)), some (.int (nI (j + 1))), some (.int (asV ((nI u) + (nI j)))), some (.int (nI (j + (LL n hi de ma lg st dr (turnF n hi de ma lg st dr a (asV (nI u + nI j)) 0).1 (nI u2)).1)))]) C dX3_search_100 rfl (nI_add _ 1) (hnl 5 (by decide)) rfl rfl ?_
            refine g_goto (tgt := 10) C dX3_search_103 (by decide) ?_
            refine g_kill 6 (lv' := [some (.ref g), some (.int (nI a)), some (.int (nI u)), some (.int (nI b)), some (.int (nI fi)), some (.int (nI (j + 1))), none, some (.int (nI (j + (LL n hi de ma lg st dr (turnF n hi de ma lg st dr a (asV (nI u + nI j)) 0).1 (nI u2)).1)))]) rfl ?_
            refine g_kill 7 (lv' := [some (.ref g), some (.int (nI a)), some (.int (nI u)), some (.int (nI b)), some (.int (nI fi)), some (.int (nI (j + 1))), none, none]) rfl ?_
            exact ih _ _ _ _ _ b fi (j + 1) (by omega) (upInv_leave hinv hc (by have := (nI_leI (by omega) (by omega)).mp c90; omega) (by omega)) (by omega) hm2_6
          · skip
            refine g_iload C dX3_search_93 rfl ?_
            refine g_istore_n (lv' := [some (.ref g), some (.int (nI a)), some (.int (nI u)), some (.int (nI (j + (LL n hi de ma lg st dr (turnF n hi de ma lg st dr a (asV (nI u + nI j)) 0).1 (nI u2)).1))), some (.int (nI fi)), some (.int (nI j)), some (.int (asV ((nI u) + (nI j)))), some (.int (nI (j + (LL n hi de ma lg st dr (turnF n hi de ma lg st dr a (asV (nI u + nI j)) 0).1 (nI u2)).1)))]) C dX3_search_95 (hnl 3 (by decide)) rfl rfl ?_
            refine g_iload C dX3_search_96 rfl ?_
            refine g_istore (lv' := [some (.ref g), some (.int (nI a)), some (.int (nI u)), some (.int (nI (j + (LL n hi de ma lg st dr (turnF n hi de ma lg st dr a (asV (nI u + nI j)) 0).1 (nI u2)).1))), some (.int (nI j)), some (.int (nI j)), some (.int (asV ((nI u) + (nI j)))), some (.int (nI (j + (LL n hi de ma lg st dr (turnF n hi de ma lg st dr a (asV (nI u + nI j)) 0).1 (nI u2)).1)))]) C dX3_search_98 (hnl 4 (by decide)) rfl rfl ?_
            refine g_iinc (v := nI (j + 1)) (lv' := [some (.ref g), some (.int (nI a)), some (.int (nI u)), some (.int (nI (j + (LL n hi de ma lg st dr (turnF n hi de ma lg st dr a (asV (nI u + nI j)) 0).1 (nI u2)).1))), some (.int (nI j)), some (.int (nI (j + 1))), some (.int (asV ((nI u) + (nI j)))), some (.int (nI (j + (LL n hi de ma lg st dr (turnF n hi de ma lg st dr a (asV (nI u + nI j)) 0).1 (nI u2)).1)))]) C dX3_search_100 rfl (nI_add _ 1) (hnl 5 (by decide)) rfl rfl ?_
            refine g_goto (tgt := 10) C dX3_search_103 (by decide) ?_
            refine g_kill 6 (lv' := [some (.ref g), some (.int (nI a)), some (.int (nI u)), some (.int (nI (j + (LL n hi de ma lg st dr (turnF n hi de ma lg st dr a (asV (nI u + nI j)) 0).1 (nI u2)).1))), some (.int (nI j)), some (.int (nI (j + 1))), none, some (.int (nI (j + (LL n hi de ma lg st dr (turnF n hi de ma lg st dr a (asV (nI u + nI j)) 0).1 (nI u2)).1)))]) rfl ?_
            refine g_kill 7 (lv' := [some (.ref g), some (.int (nI a)), some (.int (nI u)), some (.int (nI (j + (LL n hi de ma lg st dr (turnF n hi de ma lg st dr a (asV (nI u + nI j)) 0).1 (nI u2)).1))), some (.int (nI j)), some (.int (nI (j + 1))), none, none]) rfl ?_
            exact ih _ _ _ _ _ (j + (LL n hi de ma lg st dr (turnF n hi de ma lg st dr a (asV (nI u + nI j)) 0).1 (nI u2)).1) j (j + 1) (by omega) (upInv_take hinv hc (by have := nx_nge (by omega) (by omega) c90; omega)) (by omega) hm2_6

set_option maxHeartbeats 4000000 in
set_option maxRecDepth 100000 in
theorem c_sea {d : Nat} (ihF : ∀ (l : Launch) (E : EX) (g : Nat) (fo : Nat) (ff : Nat → Int32) (w : Nat) (p : Nat) (wm : Nat) (st : Int32) (dr : Int32) (a0 : Int32) (v : Int32) (fl : Int32) (sl : Int32) (ph : Nat) (pd : Nat) (pm : Nat) (n : Nat) (lg : Int32) (sf : Int32) (dg : Int32) (hi : Nat → Int32) (de : Nat → Int32) (ma : Nat → Int32) (a : Nat) (u : Nat) (hn : n ≤ 9) (ha : a ≤ n) (hu : u < 100) (hst : st ≤ 9) (hmo : MemoOK n hi de ma lg st dr ff) (hd : n - a ≤ d), Ct l E yX3_fewest cX3_fewest 4 (some .int) (rmL (2 * d + 5) 0 0) [.ref g, .int (nI a), .int (nI u)] [(g, .inr (3, [.ref w, .ref fo])), aI E fo 900 ff, (w, .inr (7, [.ref p, .ref wm, .int st, .int dr, .int a0, .int v, .int fl, .int sl])), (p, .inr (5, [.ref ph, .ref pd, .ref pm, .int (nI n), .int lg, .int sf, .int dg])), aI E ph 9 hi, aI E pd 9 de, aI E wm 9 ma] (fun (rv_ : Option Value) (rw_ : va_W) => ∃ (ff2 : Nat → Int32) (a2 : Int32) (v2 : Int32) (fl2 : Int32) (sl2 : Int32), rv_ = some (.int (nI (LX n hi de ma lg st dr a (nI u)))) ∧ rw_ = [(g, .inr (3, [.ref w, .ref fo])), aI E fo 900 ff2, (w, .inr (7, [.ref p, .ref wm, .int st, .int dr, .int a2, .int v2, .int fl2, .int sl2])), (p, .inr (5, [.ref ph, .ref pd, .ref pm, .int (nI n), .int lg, .int sf, .int dg])), aI E ph 9 hi, aI E pd 9 de, aI E wm 9 ma] ∧ (MemoOK n hi de ma lg st dr ff2)) 0 0) (l : Launch) (E : EX) (g : Nat) (fo : Nat) (ff : Nat → Int32) (w : Nat) (p : Nat) (wm : Nat) (st : Int32) (dr : Int32) (a0 : Int32) (v : Int32) (fl : Int32) (sl : Int32) (ph : Nat) (pd : Nat) (pm : Nat) (n : Nat) (lg : Int32) (sf : Int32) (dg : Int32) (hi : Nat → Int32) (de : Nat → Int32) (ma : Nat → Int32) (a : Nat) (u : Nat) (hn : n ≤ 9) (ha : a < n) (hu : u < 100) (hst : st ≤ 9) (hmo : MemoOK n hi de ma lg st dr ff) (hd : n - a ≤ d + 1) : Ct l E yX3_search cX3_search 8 (some .int) (rmL (2 * d + 6) 0 0) [.ref g, .int (nI a), .int (nI u)] [(g, .inr (3, [.ref w, .ref fo])), aI E fo 900 ff, (w, .inr (7, [.ref p, .ref wm, .int st, .int dr, .int a0, .int v, .int fl, .int sl])), (p, .inr (5, [.ref ph, .ref pd, .ref pm, .int (nI n), .int lg, .int sf, .int dg])), aI E ph 9 hi, aI E pd 9 de, aI E wm 9 ma] (fun (rv_ : Option Value) (rw_ : va_W) => ∃ (ff2 : Nat → Int32) (a2 : Int32) (v2 : Int32) (fl2 : Int32) (sl2 : Int32), rv_ = some (.int (nI (LX n hi de ma lg st dr a (nI u)))) ∧ rw_ = [(g, .inr (3, [.ref w, .ref fo])), aI E fo 900 ff2, (w, .inr (7, [.ref p, .ref wm, .int st, .int dr, .int a2, .int v2, .int fl2, .int sl2])), (p, .inr (5, [.ref ph, .ref pd, .ref pm, .int (nI n), .int lg, .int sf, .int dg])), aI E ph 9 hi, aI E pd 9 de, aI E wm 9 ma] ∧ (MemoOK n hi de ma lg st dr ff2)) 0 0 := by
  refine Ct_of (by decide) (Nat.le_of_ble_eq_true rfl) ?_
  intro k hkl hnl C hR hm_
  subst hkl
  show G k E 0 0 0 [some (.ref g), some (.int (nI a)), some (.int (nI u)), none, none, none, none, none] [] [(g, .inr (3, [.ref w, .ref fo])), aI E fo 900 ff, (w, .inr (7, [.ref p, .ref wm, .int st, .int dr, .int a0, .int v, .int fl, .int sl])), (p, .inr (5, [.ref ph, .ref pd, .ref pm, .int (nI n), .int lg, .int sf, .int dg])), aI E ph 9 hi, aI E pd 9 de, aI E wm 9 ma]
  refine g_sipush (v := 1000) C dX3_search_0 (by decide) ?_
  refine g_istore_n (lv' := [some (.ref g), some (.int (nI a)), some (.int (nI u)), some (.int 1000), none, none, none, none]) C dX3_search_3 (hnl 3 (by decide)) rfl rfl ?_
  refine g_iconst (v := 0) C dX3_search_4 (by decide) ?_
  refine g_istore (lv' := [some (.ref g), some (.int (nI a)), some (.int (nI u)), some (.int 1000), some (.int 0), none, none, none]) C dX3_search_5 (hnl 4 (by decide)) rfl rfl ?_
  refine g_iconst (v := 0) C dX3_search_7 (by decide) ?_
  refine g_istore (lv' := [some (.ref g), some (.int (nI a)), some (.int (nI u)), some (.int 1000), some (.int 0), some (.int 0), none, none]) C dX3_search_8 (hnl 5 (by decide)) rfl rfl ?_
  exact lp_X3_search C hnl hn ha hu hst hd ihF hR 10 ff a0 v fl sl 1000 0 0 (by omega) (upInv_0 _) (by omega) hmo

theorem upd_self (f : Nat → Int32) (k : Nat) (x : Int32) : upd f k x k = x := if_pos rfl

set_option maxHeartbeats 4000000 in
set_option maxRecDepth 100000 in
theorem c_fewS {d : Nat} (ihF : ∀ (l : Launch) (E : EX) (g : Nat) (fo : Nat) (ff : Nat → Int32) (w : Nat) (p : Nat) (wm : Nat) (st : Int32) (dr : Int32) (a0 : Int32) (v : Int32) (fl : Int32) (sl : Int32) (ph : Nat) (pd : Nat) (pm : Nat) (n : Nat) (lg : Int32) (sf : Int32) (dg : Int32) (hi : Nat → Int32) (de : Nat → Int32) (ma : Nat → Int32) (a : Nat) (u : Nat) (hn : n ≤ 9) (ha : a ≤ n) (hu : u < 100) (hst : st ≤ 9) (hmo : MemoOK n hi de ma lg st dr ff) (hd : n - a ≤ d), Ct l E yX3_fewest cX3_fewest 4 (some .int) (rmL (2 * d + 5) 0 0) [.ref g, .int (nI a), .int (nI u)] [(g, .inr (3, [.ref w, .ref fo])), aI E fo 900 ff, (w, .inr (7, [.ref p, .ref wm, .int st, .int dr, .int a0, .int v, .int fl, .int sl])), (p, .inr (5, [.ref ph, .ref pd, .ref pm, .int (nI n), .int lg, .int sf, .int dg])), aI E ph 9 hi, aI E pd 9 de, aI E wm 9 ma] (fun (rv_ : Option Value) (rw_ : va_W) => ∃ (ff2 : Nat → Int32) (a2 : Int32) (v2 : Int32) (fl2 : Int32) (sl2 : Int32), rv_ = some (.int (nI (LX n hi de ma lg st dr a (nI u)))) ∧ rw_ = [(g, .inr (3, [.ref w, .ref fo])), aI E fo 900 ff2, (w, .inr (7, [.ref p, .ref wm, .int st, .int dr, .int a2, .int v2, .int fl2, .int sl2])), (p, .inr (5, [.ref ph, .ref pd, .ref pm, .int (nI n), .int lg, .int sf, .int dg])), aI E ph 9 hi, aI E pd 9 de, aI E wm 9 ma] ∧ (MemoOK n hi de ma lg st dr ff2)) 0 0) (l : Launch) (E : EX) (g : Nat) (fo : Nat) (ff : Nat → Int32) (w : Nat) (p : Nat) (wm : Nat) (st : Int32) (dr : Int32) (a0 : Int32) (v : Int32) (fl : Int32) (sl : Int32) (ph : Nat) (pd : Nat) (pm : Nat) (n : Nat) (lg : Int32) (sf : Int32) (dg : Int32) (hi : Nat → Int32) (de : Nat → Int32) (ma : Nat → Int32) (a : Nat) (u : Nat) (hn : n ≤ 9) (ha : a ≤ n) (hu : u < 100) (hst : st ≤ 9) (hmo : MemoOK n hi de ma lg st dr ff) (hd : n - a ≤ d + 1) : Ct l E yX3_fewest cX3_fewest 4 (some .int) (rmL (2 * (d + 1) + 5) 0 0) [.ref g, .int (nI a), .int (nI u)] [(g, .inr (3, [.ref w, .ref fo])), aI E fo 900 ff, (w, .inr (7, [.ref p, .ref wm, .int st, .int dr, .int a0, .int v, .int fl, .int sl])), (p, .inr (5, [.ref ph, .ref pd, .ref pm, .int (nI n), .int lg, .int sf, .int dg])), aI E ph 9 hi, aI E pd 9 de, aI E wm 9 ma] (fun (rv_ : Option Value) (rw_ : va_W) => ∃ (ff2 : Nat → Int32) (a2 : Int32) (v2 : Int32) (fl2 : Int32) (sl2 : Int32), rv_ = some (.int (nI (LX n hi de ma lg st dr a (nI u)))) ∧ rw_ = [(g, .inr (3, [.ref w, .ref fo])), aI E fo 900 ff2, (w, .inr (7, [.ref p, .ref wm, .int st, .int dr, .int a2, .int v2, .int fl2, .int sl2])), (p, .inr (5, [.ref ph, .ref pd, .ref pm, .int (nI n), .int lg, .int sf, .int dg])), aI E ph 9 hi, aI E pd 9 de, aI E wm 9 ma] ∧ (MemoOK n hi de ma lg st dr ff2)) 0 0 := by
  refine Ct_of (by decide) (Nat.le_of_ble_eq_true rfl) ?_
  intro k hkl hnl C hR hm_
  subst hkl
  show G k E 0 0 0 [some (.ref g), some (.int (nI a)), some (.int (nI u)), none] [] [(g, .inr (3, [.ref w, .ref fo])), aI E fo 900 ff, (w, .inr (7, [.ref p, .ref wm, .int st, .int dr, .int a0, .int v, .int fl, .int sl])), (p, .inr (5, [.ref ph, .ref pd, .ref pm, .int (nI n), .int lg, .int sf, .int dg])), aI E ph 9 hi, aI E pd 9 de, aI E wm 9 ma]
  refine g_aload_n C dX3_fewest_0 rfl ?_
  refine g_get C kwX3 0 rfl rfl 0 (by decide) kfX3_15 rfl dX3_fewest_1 ?_
  refine g_get C kwX7 2 rfl rfl 0 (by decide) kfX3_44 rfl dX3_fewest_4 ?_
  refine g_iload_n C dX3_fewest_7 rfl ?_
  refine g_callV C (c_X5_has k.l E p ph pd pm (nI n) lg sf dg (nI a)) kmX3_48 kiX5_has ksX5_has knX5 kcX5_has ⟨rfl, rfl⟩ ⟨rfl, kdX5_has⟩ ⟨by simp only [rmL]; omega, by simp only [rmL]; omega⟩ ⟨Nat.le_refl _, Nat.le_refl _⟩ [3] [0, 1, 2, 4, 5, 6] rfl (wr := [(g, .inr (3, [.ref w, .ref fo])), aI E fo 900 ff, (w, .inr (7, [.ref p, .ref wm, .int st, .int dr, .int a0, .int v, .int fl, .int sl])), aI E ph 9 hi, aI E pd 9 de, aI E wm 9 ma]) rfl (by decide +kernel) (by decide +kernel) (by decide +kernel) 3 5 rfl rfl rfl (As := [.int (nI a)]) (rest := []) rfl (Nat.le_of_ble_eq_true rfl) dX3_fewest_8 (fun rv_ rw_ hp_ => ?_)
  obtain ⟨rfl, rfl⟩ := hp_
  refine g_rep [0, 1, 2, 6, 3, 4, 5] (ws' := [(g, .inr (3, [.ref w, .ref fo])), aI E fo 900 ff, (w, .inr (7, [.ref p, .ref wm, .int st, .int dr, .int a0, .int v, .int fl, .int sl])), (p, .inr (5, [.ref ph, .ref pd, .ref pm, .int (nI n), .int lg, .int sf, .int dg])), aI E ph 9 hi, aI E pd 9 de, aI E wm 9 ma]) (st' := [.int (bI (0 ≤ (nI a) ∧ (nI a) ≤ (nI n) - 1))]) (n' := 0) (z' := 0) (pc' := 11) rfl rfl rfl rfl (by decide +kernel) rfl ?_
  refine g_if_ne (tgt := 16) C dX3_fewest_11 (by decide) (fun c11 => ?_) (fun c11 => ?_)
  · skip
    have ha2 := has_nat (by omega) (by omega) (bI_1 c11)
    refine g_iload_n C dX3_fewest_16 rfl ?_
    refine g_bipush (v := 100) C dX3_fewest_17 (by decide) ?_
    refine g_imul C dX3_fewest_19 ?_
    refine g_iload_n C dX3_fewest_20 rfl ?_
    refine g_iadd C dX3_fewest_21 ?_
    refine g_topi (v := nI (a * 100 + u)) (by rw [show (100 : Int32) = nI 100 from rfl, nx_mul, nI_add]) ?_
    refine g_istore_n (lv' := [some (.ref g), some (.int (nI a)), some (.int (nI u)), some (.int (nI (a * 100 + u)))]) C dX3_fewest_22 (hnl 3 (by decide)) rfl rfl ?_
    refine g_aload_n C dX3_fewest_23 rfl ?_
    refine g_get C kwX3 0 rfl rfl 1 (by decide) kfX3_11 rfl dX3_fewest_24 ?_
    refine g_iload_n C dX3_fewest_27 rfl ?_
    refine g_iald C 1 (a * 100 + u) rfl (rfl) (by omega) (by decide) dX3_fewest_28 ?_
    refine g_iconst (v := (-1)) C dX3_fewest_29 (by decide) ?_
    refine g_icmp_ne (tgt := 45) C dX3_fewest_30 (by decide) (fun c30 => ?_) (fun c30 => ?_)
    · skip
      refine g_aload_n C dX3_fewest_45 rfl ?_
      refine g_get C kwX3 0 rfl rfl 1 (by decide) kfX3_11 rfl dX3_fewest_46 ?_
      refine g_iload_n C dX3_fewest_49 rfl ?_
      refine g_iald C 1 (a * 100 + u) rfl (rfl) (by omega) (by decide) dX3_fewest_50 ?_
      exact g_iret C hR (⟨ff, a0, v, fl, sl, by rw [(hmo a u ha2 hu).resolve_left c30], rfl, hmo⟩) dX3_fewest_51
    · skip
      refine g_aload_n C dX3_fewest_33 rfl ?_
      refine g_get C kwX3 0 rfl rfl 1 (by decide) kfX3_11 rfl dX3_fewest_34 ?_
      refine g_iload_n C dX3_fewest_37 rfl ?_
      refine g_aload_n C dX3_fewest_38 rfl ?_
      refine g_iload_n C dX3_fewest_39 rfl ?_
      refine g_iload_n C dX3_fewest_40 rfl ?_
      refine g_callV C (c_sea ihF k.l E g fo ff w p wm st dr a0 v fl sl ph pd pm n lg sf dg hi de ma a u (by first | assumption | omega) (ha2) (by first | assumption | omega) (by first | assumption | omega) (hmo) (hd)) kmX3_54 kiX3_search ksX3_search knX3 kcX3_search ⟨rfl, rfl⟩ ⟨rfl, kdX3_search⟩ ⟨by simp only [rmL]; omega, by simp only [rmL]; omega⟩ ⟨Nat.le_refl _, Nat.le_refl _⟩ [0, 1, 2, 3, 4, 5, 6] [] rfl (wr := []) rfl (by decide +kernel) (by decide +kernel) (by decide +kernel) 0 3 rfl rfl rfl (As := [.int (nI a), .int (nI u)]) (rest := [.int (nI (a * 100 + u)), .ref fo]) rfl (Nat.le_of_ble_eq_true rfl) dX3_fewest_41 (fun rv_ rw_ hp_ => ?_)
      obtain ⟨ff2_1, a2_2, v2_3, fl2_4, sl2_5, rfl, rfl, hm2_6⟩ := hp_
      refine g_rep [0, 1, 2, 3, 4, 5, 6] (ws' := [(g, .inr (3, [.ref w, .ref fo])), aI E fo 900 ff2_1, (w, .inr (7, [.ref p, .ref wm, .int st, .int dr, .int a2_2, .int v2_3, .int fl2_4, .int sl2_5])), (p, .inr (5, [.ref ph, .ref pd, .ref pm, .int (nI n), .int lg, .int sf, .int dg])), aI E ph 9 hi, aI E pd 9 de, aI E wm 9 ma]) (st' := [.int (nI (LX n hi de ma lg st dr a (nI u))), .int (nI (a * 100 + u)), .ref fo]) (n' := 0) (z' := 0) (pc' := 44) rfl rfl rfl rfl (by decide +kernel) rfl ?_
      refine g_iast (ws' := [(g, .inr (3, [.ref w, .ref fo])), aI E fo 900 (upd ff2_1 (a * 100 + u) (nI (LX n hi de ma lg st dr a (nI u)))), (w, .inr (7, [.ref p, .ref wm, .int st, .int dr, .int a2_2, .int v2_3, .int fl2_4, .int sl2_5])), (p, .inr (5, [.ref ph, .ref pd, .ref pm, .int (nI n), .int lg, .int sf, .int dg])), aI E ph 9 hi, aI E pd 9 de, aI E wm 9 ma]) C 1 (a * 100 + u) rfl (rfl) (by omega) (by decide) rfl dX3_fewest_44 ?_
      refine g_aload_n C dX3_fewest_45 rfl ?_
      refine g_get C kwX3 0 rfl rfl 1 (by decide) kfX3_11 rfl dX3_fewest_46 ?_
      refine g_iload_n C dX3_fewest_49 rfl ?_
      refine g_iald C 1 (a * 100 + u) rfl (rfl) (by omega) (by decide) dX3_fewest_50 ?_
      exact g_iret C hR (⟨_, _, _, _, _, by rw [upd_self], rfl, MemoOK.upd hm2_6 hu⟩) dX3_fewest_51
  · skip
    refine g_iconst (v := 0) C dX3_fewest_14 (by decide) ?_
    exact g_iret C hR (⟨ff, a0, v, fl, sl, by rw [LX, LL_floor (fun q => bI_0 c11 (has_t q (by omega)))]; rfl, rfl, hmo⟩) dX3_fewest_15

theorem c_few : ∀ (d : Nat), ∀ (l : Launch) (E : EX) (g : Nat) (fo : Nat) (ff : Nat → Int32) (w : Nat) (p : Nat) (wm : Nat) (st : Int32) (dr : Int32) (a0 : Int32) (v : Int32) (fl : Int32) (sl : Int32) (ph : Nat) (pd : Nat) (pm : Nat) (n : Nat) (lg : Int32) (sf : Int32) (dg : Int32) (hi : Nat → Int32) (de : Nat → Int32) (ma : Nat → Int32) (a : Nat) (u : Nat) (hn : n ≤ 9) (ha : a ≤ n) (hu : u < 100) (hst : st ≤ 9) (hmo : MemoOK n hi de ma lg st dr ff) (hd : n - a ≤ d), Ct l E yX3_fewest cX3_fewest 4 (some .int) (rmL (2 * d + 5) 0 0) [.ref g, .int (nI a), .int (nI u)] [(g, .inr (3, [.ref w, .ref fo])), aI E fo 900 ff, (w, .inr (7, [.ref p, .ref wm, .int st, .int dr, .int a0, .int v, .int fl, .int sl])), (p, .inr (5, [.ref ph, .ref pd, .ref pm, .int (nI n), .int lg, .int sf, .int dg])), aI E ph 9 hi, aI E pd 9 de, aI E wm 9 ma] (fun (rv_ : Option Value) (rw_ : va_W) => ∃ (ff2 : Nat → Int32) (a2 : Int32) (v2 : Int32) (fl2 : Int32) (sl2 : Int32), rv_ = some (.int (nI (LX n hi de ma lg st dr a (nI u)))) ∧ rw_ = [(g, .inr (3, [.ref w, .ref fo])), aI E fo 900 ff2, (w, .inr (7, [.ref p, .ref wm, .int st, .int dr, .int a2, .int v2, .int fl2, .int sl2])), (p, .inr (5, [.ref ph, .ref pd, .ref pm, .int (nI n), .int lg, .int sf, .int dg])), aI E ph 9 hi, aI E pd 9 de, aI E wm 9 ma] ∧ (MemoOK n hi de ma lg st dr ff2)) 0 0
  | 0, l, E, g, fo, ff, w, p, wm, st, dr, a0, v, fl, sl, ph, pd, pm, n, lg, sf, dg, hi, de, ma, a, u, hn, ha, hu, hst, hmo, hd => c_few0 l E g fo ff w p wm st dr a0 v fl sl ph pd pm n lg sf dg hi de ma a u hn ha hu hst hmo hd
  | d + 1, l, E, g, fo, ff, w, p, wm, st, dr, a0, v, fl, sl, ph, pd, pm, n, lg, sf, dg, hi, de, ma, a, u, hn, ha, hu, hst, hmo, hd => c_fewS (c_few d) l E g fo ff w p wm st dr a0 v fl sl ph pd pm n lg sf dg hi de ma a u hn ha hu hst hmo hd

theorem c_few9 (l : Launch) (E : EX) (g : Nat) (fo : Nat) (ff : Nat → Int32) (w : Nat) (p : Nat) (wm : Nat) (st : Int32) (dr : Int32) (a0 : Int32) (v : Int32) (fl : Int32) (sl : Int32) (ph : Nat) (pd : Nat) (pm : Nat) (n : Nat) (lg : Int32) (sf : Int32) (dg : Int32) (hi : Nat → Int32) (de : Nat → Int32) (ma : Nat → Int32) (a : Nat) (u : Nat) (hn : n ≤ 9) (ha : a ≤ n) (hu : u < 100) (hst : st ≤ 9) (hmo : MemoOK n hi de ma lg st dr ff) (hd : n - a ≤ 9) : Ct l E yX3_fewest cX3_fewest 4 (some .int) (rmL 23 0 0) [.ref g, .int (nI a), .int (nI u)] [(g, .inr (3, [.ref w, .ref fo])), aI E fo 900 ff, (w, .inr (7, [.ref p, .ref wm, .int st, .int dr, .int a0, .int v, .int fl, .int sl])), (p, .inr (5, [.ref ph, .ref pd, .ref pm, .int (nI n), .int lg, .int sf, .int dg])), aI E ph 9 hi, aI E pd 9 de, aI E wm 9 ma] (fun (rv_ : Option Value) (rw_ : va_W) => ∃ (ff2 : Nat → Int32) (a2 : Int32) (v2 : Int32) (fl2 : Int32) (sl2 : Int32), rv_ = some (.int (nI (LX n hi de ma lg st dr a (nI u)))) ∧ rw_ = [(g, .inr (3, [.ref w, .ref fo])), aI E fo 900 ff2, (w, .inr (7, [.ref p, .ref wm, .int st, .int dr, .int a2, .int v2, .int fl2, .int sl2])), (p, .inr (5, [.ref ph, .ref pd, .ref pm, .int (nI n), .int lg, .int sf, .int dg])), aI E ph 9 hi, aI E pd 9 de, aI E wm 9 ma] ∧ (MemoOK n hi de ma lg st dr ff2)) 0 0 := c_few 9 l E g fo ff w p wm st dr a0 v fl sl ph pd pm n lg sf dg hi de ma a u hn ha hu hst hmo hd

set_option maxHeartbeats 4000000 in
set_option maxRecDepth 100000 in
theorem c_X3_from (l : Launch) (E : EX) (g : Nat) (fo : Nat) (ff : Nat → Int32) (w : Nat) (p : Nat) (wm : Nat) (st : Int32) (dr : Int32) (a0 : Int32) (v : Int32) (fl : Int32) (sl : Int32) (ph : Nat) (pd : Nat) (pm : Nat) (n : Nat) (lg : Int32) (sf : Int32) (dg : Int32) (hi : Nat → Int32) (de : Nat → Int32) (wma : Nat → Int32) (o : Nat) (om : Nat) (a : Nat) (u : Nat) (fp : Int32) (ma : Nat → Int32) (hn : n ≤ 9) (ha : a ≤ n) (hu : u < 100) (hst : sf ≤ 9) : Ct l E yX3_from cX3_from 2 (some .int) (rmL 24 0 0) [.ref g, .ref o] [(g, .inr (3, [.ref w, .ref fo])), aI E fo 900 ff, (w, .inr (7, [.ref p, .ref wm, .int st, .int dr, .int a0, .int v, .int fl, .int sl])), (p, .inr (5, [.ref ph, .ref pd, .ref pm, .int (nI n), .int lg, .int sf, .int dg])), aI E ph 9 hi, aI E pd 9 de, aI E wm 9 wma, (o, .inr (4, [.ref om, .int (nI a), .int (nI u), .int fp])), aI E om 9 ma] (fun (rv_ : Option Value) (rw_ : va_W) => ∃ (ff2 : Nat → Int32) (a2 : Int32) (v2 : Int32) (fl2 : Int32) (sl2 : Int32), rv_ = some (.int (nI (LX n hi de (va_cpy ma wma 0 0 9) lg sf dg a (nI u)))) ∧ rw_ = [(g, .inr (3, [.ref w, .ref fo])), aI E fo 900 ff2, (w, .inr (7, [.ref p, .ref wm, .int sf, .int dg, .int a2, .int v2, .int fl2, .int sl2])), (p, .inr (5, [.ref ph, .ref pd, .ref pm, .int (nI n), .int lg, .int sf, .int dg])), aI E ph 9 hi, aI E pd 9 de, aI E wm 9 (va_cpy ma wma 0 0 9), (o, .inr (4, [.ref om, .int (nI a), .int (nI u), .int fp])), aI E om 9 ma]) 0 0 := by
  refine Ct_of (by decide) (Nat.le_of_ble_eq_true rfl) ?_
  intro k hkl hnl C hR hin_
  subst hkl
  show G k E 0 0 0 [some (.ref g), some (.ref o)] [] [(g, .inr (3, [.ref w, .ref fo])), aI E fo 900 ff, (w, .inr (7, [.ref p, .ref wm, .int st, .int dr, .int a0, .int v, .int fl, .int sl])), (p, .inr (5, [.ref ph, .ref pd, .ref pm, .int (nI n), .int lg, .int sf, .int dg])), aI E ph 9 hi, aI E pd 9 de, aI E wm 9 wma, (o, .inr (4, [.ref om, .int (nI a), .int (nI u), .int fp])), aI E om 9 ma]
  refine g_aload_n C dX3_from_0 rfl ?_
  refine g_get C kwX3 0 rfl rfl 0 (by decide) kfX3_15 rfl dX3_from_1 ?_
  refine g_aload_n C dX3_from_4 rfl ?_
  refine g_callV C (c_X7_prepare k.l E w p wm st dr a0 v fl sl ph pd pm (nI n) lg sf dg o om (nI a) (nI u) fp ma wma) kmX3_19 kiX7_prepare ksX7_prepare knX7 kcX7_prepare ⟨rfl, rfl⟩ ⟨rfl, kdX7_prepare⟩ ⟨by decide, by decide⟩ ⟨by decide, by decide⟩ [2, 6, 3, 7, 8] [0, 1, 4, 5] rfl (wr := [(g, .inr (3, [.ref w, .ref fo])), aI E fo 900 ff, aI E ph 9 hi, aI E pd 9 de]) rfl (by decide +kernel) (by decide +kernel) (by decide +kernel) 2 7 rfl rfl rfl (As := [.ref o]) (rest := []) rfl (Nat.le_of_ble_eq_true rfl) dX3_from_5 (fun rv_ rw_ hp_ => ?_)
  obtain ⟨rfl, rfl⟩ := hp_
  refine g_rep [0, 1, 4, 6, 2, 3, 5, 7, 8] (ws' := [(g, .inr (3, [.ref w, .ref fo])), aI E fo 900 ff, (w, .inr (7, [.ref p, .ref wm, .int sf, .int dg, .int a0, .int v, .int fl, .int sl])), (p, .inr (5, [.ref ph, .ref pd, .ref pm, .int (nI n), .int lg, .int sf, .int dg])), aI E ph 9 hi, aI E pd 9 de, aI E wm 9 (va_cpy ma wma 0 0 9), (o, .inr (4, [.ref om, .int (nI a), .int (nI u), .int fp])), aI E om 9 ma]) (st' := []) (n' := 0) (z' := 0) (pc' := 8) rfl rfl rfl rfl (by decide +kernel) rfl ?_
  refine g_aload_n C dX3_from_8 rfl ?_
  refine g_get C kwX3 0 rfl rfl 1 (by decide) kfX3_11 rfl dX3_from_9 ?_
  refine g_iconst (v := (-1)) C dX3_from_12 (by decide) ?_
  refine g_callS C (c_J7_fill k.l E fo 900 ff (-1) (by decide)) kmX3_25 ktJ7_fill knJ7 kcJ7_fill ⟨rfl, rfl⟩ kdJ7_fill ⟨by decide, by decide⟩ ⟨by decide, by decide⟩ [1] [0, 2, 3, 4, 5, 6, 7, 8] rfl (wr := [(g, .inr (3, [.ref w, .ref fo])), (w, .inr (7, [.ref p, .ref wm, .int sf, .int dg, .int a0, .int v, .int fl, .int sl])), (p, .inr (5, [.ref ph, .ref pd, .ref pm, .int (nI n), .int lg, .int sf, .int dg])), aI E ph 9 hi, aI E pd 9 de, aI E wm 9 (va_cpy ma wma 0 0 9), (o, .inr (4, [.ref om, .int (nI a), .int (nI u), .int fp])), aI E om 9 ma]) rfl (by decide +kernel) (by decide +kernel) (by decide +kernel) rfl (As := [.ref fo, .int (-1)]) (rest := []) rfl (Nat.le_of_ble_eq_true rfl) dX3_from_13 (fun rv_ rw_ hp_ => ?_)
  obtain ⟨rfl, rfl⟩ := hp_
  refine g_rep [0, 8, 1, 2, 3, 4, 5, 6, 7] (ws' := [(g, .inr (3, [.ref w, .ref fo])), aI E fo 900 (fillF ff 900 (-1)), (w, .inr (7, [.ref p, .ref wm, .int sf, .int dg, .int a0, .int v, .int fl, .int sl])), (p, .inr (5, [.ref ph, .ref pd, .ref pm, .int (nI n), .int lg, .int sf, .int dg])), aI E ph 9 hi, aI E pd 9 de, aI E wm 9 (va_cpy ma wma 0 0 9), (o, .inr (4, [.ref om, .int (nI a), .int (nI u), .int fp])), aI E om 9 ma]) (st' := []) (n' := 0) (z' := 0) (pc' := 16) rfl rfl rfl rfl (by decide +kernel) rfl ?_
  refine g_aload_n C dX3_from_16 rfl ?_
  refine g_aload_n C dX3_from_17 rfl ?_
  refine g_get C kwX4 7 rfl rfl 1 (by decide) kfX3_31 rfl dX3_from_18 ?_
  refine g_aload_n C dX3_from_21 rfl ?_
  refine g_get C kwX4 7 rfl rfl 2 (by decide) kfX3_37 rfl dX3_from_22 ?_
  refine g_callV C (c_few9 k.l E g fo (fillF ff 900 (-1)) w p wm sf dg a0 v fl sl ph pd pm n lg sf dg hi de (va_cpy ma wma 0 0 9) a u (by first | assumption | omega) (by first | assumption | omega) (by first | assumption | omega) (by first | assumption | omega) (fun b w hb hw => Or.inl (by unfold fillF; exact if_pos (by omega))) (by omega)) kmX3_40 kiX3_fewest ksX3_fewest knX3 kcX3_fewest ⟨rfl, rfl⟩ ⟨rfl, kdX3_fewest⟩ ⟨by decide, by decide⟩ ⟨by decide, by decide⟩ [0, 1, 2, 3, 4, 5, 6] [7, 8] rfl (wr := [(o, .inr (4, [.ref om, .int (nI a), .int (nI u), .int fp])), aI E om 9 ma]) rfl (by decide +kernel) (by decide +kernel) (by decide +kernel) 0 3 rfl rfl rfl (As := [.int (nI a), .int (nI u)]) (rest := []) rfl (Nat.le_of_ble_eq_true rfl) dX3_from_25 (fun rv_ rw_ hp_ => ?_)
  obtain ⟨ff2_1, a2_2, v2_3, fl2_4, sl2_5, rfl, rfl, hm2_6⟩ := hp_
  refine g_rep [2, 3, 4, 5, 6, 7, 8, 0, 1] (ws' := [(g, .inr (3, [.ref w, .ref fo])), aI E fo 900 ff2_1, (w, .inr (7, [.ref p, .ref wm, .int sf, .int dg, .int a2_2, .int v2_3, .int fl2_4, .int sl2_5])), (p, .inr (5, [.ref ph, .ref pd, .ref pm, .int (nI n), .int lg, .int sf, .int dg])), aI E ph 9 hi, aI E pd 9 de, aI E wm 9 (va_cpy ma wma 0 0 9), (o, .inr (4, [.ref om, .int (nI a), .int (nI u), .int fp])), aI E om 9 ma]) (st' := [.int (nI (LX n hi de (va_cpy ma wma 0 0 9) lg sf dg a (nI u)))]) (n' := 0) (z' := 0) (pc' := 28) rfl rfl rfl rfl (by decide +kernel) rfl ?_
  exact g_iret C hR (⟨_, _, _, _, _, rfl, rfl⟩) dX3_from_28
