def wayInvM (W : Nat → Bool) (j c : Nat) (fw : Nat → Int32) : Prop := c = (wayL W j).length ∧ ∀ i, i < c → fw i = nI (10 * (1 + (wayL W j).getD i 0 / 4) + (wayL W j).getD i 0 % 4)
theorem wayInvM_no {W : Nat → Bool} {j c : Nat} {fw : Nat → Int32} (h : wayInvM W j c fw) (hW : ¬ W j = true) : wayInvM W (j + 1) c fw := by
  unfold wayInvM wayL
  rw [if_neg hW]
  exact h
theorem wayInvM_yes {W : Nat → Bool} {j c : Nat} {fw : Nat → Int32} (h : wayInvM W j c fw) (hW : W j = true) : wayInvM W (j + 1) (c + 1) (upd fw c (nI (10 * (1 + j / 4) + j % 4))) := by
  unfold wayInvM wayL
  rw [if_pos hW, List.length_append]
  refine ⟨by rw [h.1]; rfl, fun i hi => ?_⟩
  unfold upd
  by_cases e : i = c
  · subst e
    have z : (wayL W j ++ [j]).getD i 0 = j := gdR h.1
    rw [if_pos rfl, z]
  · rw [if_neg e, gdL (by rw [← h.1]; omega)]
    exact h.2 i (by omega)

set_option maxHeartbeats 4000000 in
set_option maxRecDepth 100000 in
theorem lp_X9_push {k : KX} {E : EX} (C : Cx k E cX9_push RX9 (rmL 6 0 0)) (hnl : ∀ j : Nat, j < 3 → j < k.nL) {mo : Nat} {rw : Nat} {mh : Nat} {md : Nat} {mk : Nat} {mt : Nat} {z1 : Nat} {z2 : Nat} {z3 : Nat} {y1 : Nat} {y2 : Nat} {y3 : Nat} {y4 : Nat} {ya : Nat} {yw : Nat} {yp : Nat} {lg : Int32} {sf : Int32} {dg : Int32} {un : Int32} {le : Int32} {sm : Int32} {tr : Int64} {at_ : Int32} {be : Int32} {rs : Int32} {nu : Int32} {fpu : Int32} {wn : Int32} {n : Nat} {hi : Nat → Int32} {de : Nat → Int32} {mm : Nat → Int32} {a : Nat} {u : Nat} {j : Nat} (hn : n ≤ 9) (ha : a ≤ n) (hj : j ≤ n) {t : Int32} {rz : Nat → Int32} (hR : Rt k E (fun (rv_ : Option Value) (rw_ : va_W) => ∃ (rf2 : Nat → Int32) (os2 : Int32) (od2 : Int32) (sl2 : Int32), rv_ = some (.int t) ∧ rw_ = [(mo, .inr (9, [.ref rw, .int (nI n), .int lg, .int sf, .int dg, .ref mh, .ref md, .int un, .ref mk, .ref mt, .int le, .int sm, .ref z1, .ref z2, .ref z3, .long tr, .int at_, .int be, .int rs, .ref y1, .ref y2, .ref y3, .ref y4, .int nu, .int os2, .int od2, .int sl2, .ref ya, .int fpu, .ref yw, .int wn, .ref yp])), aI E rw 168 rf2, aI E mh 9 hi, aI E md 9 de] ∧ (∀ i, i < 156 → rf2 i = rz i)) 0 0 (some .int)) : ∀ (f i : Nat) (rf : Nat → Int32) (os od sl : Int32), i + f = 61 → pushF (fun i => (runF n hi de mm lg sf dg 9 a (asV (nI u + nI i)) 0 0).1) j f i = t → rf 0 = nI a → rf 1 = nI u → (∀ s, s < 9 → rf (3 + s) = mm s) → (∀ i, i < 156 → rf i = rz i) → G k E 0 0 16 [some (.ref mo), some (.int (nI j)), some (.int (nI i))] [] [(mo, .inr (9, [.ref rw, .int (nI n), .int lg, .int sf, .int dg, .ref mh, .ref md, .int un, .ref mk, .ref mt, .int le, .int sm, .ref z1, .ref z2, .ref z3, .long tr, .int at_, .int be, .int rs, .ref y1, .ref y2, .ref y3, .ref y4, .int nu, .int os, .int od, .int sl, .ref ya, .int fpu, .ref yw, .int wn, .ref yp])), aI E rw 168 rf, aI E mh 9 hi, aI E md 9 de] := by
  intro f
  induction f with
  | zero =>
    intro i rf os od sl hi_ ht h0 h1 hmm hrz
    refine g_iload_n C dX9_push_16 rfl ?_
    refine g_bipush (v := 61) C dX9_push_17 (by decide) ?_
    refine g_icmp_ge (tgt := 87) C dX9_push_19 (by decide) (fun c19 => ?_) (fun c19 => ?_)
    · skip
      refine g_bipush (v := (-9)) C dX9_push_87 (by decide) ?_
      exact g_iret C hR (⟨_, _, _, _, by rw [← ht]; rfl, rfl, hrz⟩) dX9_push_89
    · skip
      exact absurd ((nI_leI (a := 61) (by decide) (by omega)).mpr (by omega)) c19
  | succ f ih =>
    intro i rf os od sl hi_ ht h0 h1 hmm hrz
    unfold pushF at ht
    have hr := runF_le (n := n) (hi := hi) (de := de) (ma := mm) (lg := lg) (st := sf) (dr := dg) 9 a (asV (nI u + nI i)) 0 0 ha
    refine g_iload_n C dX9_push_16 rfl ?_
    refine g_bipush (v := 61) C dX9_push_17 (by decide) ?_
    refine g_icmp_ge (tgt := 87) C dX9_push_19 (by decide) (fun c19 => ?_) (fun c19 => ?_)
    · skip
      exact absurd ((nI_leI (a := 61) (by decide) (by omega)).mp c19) (by omega)
    · skip
      refine g_aload_n C dX9_push_22 rfl ?_
      refine g_callV C (c_X9_layTried k.l E mo rw mh md mk mt z1 z2 z3 y1 y2 y3 y4 ya yw yp (nI n) lg sf dg un le sm tr at_ be rs nu os od sl fpu wn rf) kmX9_163 kiX9_layTried ksX9_layTried knX9 kcX9_layTried ⟨rfl, rfl⟩ ⟨rfl, kdX9_layTried⟩ ⟨by decide, by decide⟩ ⟨by decide, by decide⟩ [0, 1] [2, 3] rfl (wr := [aI E mh 9 hi, aI E md 9 de]) rfl (by decide +kernel) (by decide +kernel) (by decide +kernel) 0 9 rfl rfl rfl (As := []) (rest := []) rfl (Nat.le_of_ble_eq_true rfl) dX9_push_23 (fun rv_ rw_ hp_ => ?_)
      obtain ⟨rfl, rfl⟩ := hp_
      refine g_rep [2, 3, 0, 1] (ws' := [(mo, .inr (9, [.ref rw, .int (nI n), .int lg, .int sf, .int dg, .ref mh, .ref md, .int un, .ref mk, .ref mt, .int le, .int sm, .ref z1, .ref z2, .ref z3, .long tr, .int at_, .int be, .int rs, .ref y1, .ref y2, .ref y3, .ref y4, .int nu, .int sf, .int dg, .int 0, .ref ya, .int fpu, .ref yw, .int wn, .ref yp])), aI E rw 168 (va_cpy rf rf 0 156 12), aI E mh 9 hi, aI E md 9 de]) (st' := []) (n' := 0) (z' := 0) (pc' := 26) rfl rfl rfl rfl (by decide +kernel) rfl ?_
      refine g_aload_n C dX9_push_26 rfl ?_
      refine g_get C kwX9 0 rfl rfl 0 (by decide) kfX9_7 rfl dX9_push_27 ?_
      refine g_sipush (v := 157) C dX9_push_30 (by decide) ?_
      refine g_aload_n C dX9_push_33 rfl ?_
      refine g_get C kwX9 0 rfl rfl 0 (by decide) kfX9_7 rfl dX9_push_34 ?_
      refine g_iconst (v := 0) C dX9_push_37 (by decide) ?_
      refine g_iald C 1 0 rfl (rfl) (by decide) (by decide) dX9_push_38 ?_
      refine g_topi (v := nI a) (by rw [cpyR_out (by decide)]; exact h0) ?_
      refine g_aload_n C dX9_push_39 rfl ?_
      refine g_get C kwX9 0 rfl rfl 1 (by decide) kfX9_66 rfl dX9_push_40 ?_
      refine g_icmp_ne (tgt := 50) C dX9_push_43 (by decide) (fun c43 => ?_) (fun c43 => ?_)
      · skip
        have han := nI_ne_lt ha hn c43
        refine g_aload_n C dX9_push_50 rfl ?_
        refine g_get C kwX9 0 rfl rfl 0 (by decide) kfX9_7 rfl dX9_push_51 ?_
        refine g_iconst (v := 1) C dX9_push_54 (by decide) ?_
        refine g_iald C 1 1 rfl (rfl) (by decide) (by decide) dX9_push_55 ?_
        refine g_topi (v := nI u) (by rw [cpyR_out (by decide)]; exact h1) ?_
        refine g_iload_n C dX9_push_56 rfl ?_
        refine g_iadd C dX9_push_57 ?_
        refine g_callS C (c_X9_bound k.l E ((nI u) + (nI i))) kmX9_134 ktX9_bound knX9 kcX9_bound ⟨rfl, rfl⟩ kdX9_bound ⟨by decide, by decide⟩ ⟨by decide, by decide⟩ [] [0, 1, 2, 3] rfl (wr := [(mo, .inr (9, [.ref rw, .int (nI n), .int lg, .int sf, .int dg, .ref mh, .ref md, .int un, .ref mk, .ref mt, .int le, .int sm, .ref z1, .ref z2, .ref z3, .long tr, .int at_, .int be, .int rs, .ref y1, .ref y2, .ref y3, .ref y4, .int nu, .int sf, .int dg, .int 0, .ref ya, .int fpu, .ref yw, .int wn, .ref yp])), aI E rw 168 (va_cpy rf rf 0 156 12), aI E mh 9 hi, aI E md 9 de]) rfl (by decide +kernel) (by decide +kernel) (by decide +kernel) rfl (As := [.int ((nI u) + (nI i))]) (rest := [.int 157, .ref rw]) rfl (Nat.le_of_ble_eq_true rfl) dX9_push_58 (fun rv_ rw_ hp_ => ?_)
        obtain ⟨rfl, rfl⟩ := hp_
        refine g_rep [0, 1, 2, 3] (ws' := [(mo, .inr (9, [.ref rw, .int (nI n), .int lg, .int sf, .int dg, .ref mh, .ref md, .int un, .ref mk, .ref mt, .int le, .int sm, .ref z1, .ref z2, .ref z3, .long tr, .int at_, .int be, .int rs, .ref y1, .ref y2, .ref y3, .ref y4, .int nu, .int sf, .int dg, .int 0, .ref ya, .int fpu, .ref yw, .int wn, .ref yp])), aI E rw 168 (va_cpy rf rf 0 156 12), aI E mh 9 hi, aI E md 9 de]) (st' := [.int (asV ((nI u) + (nI i))), .int 157, .ref rw]) (n' := 0) (z' := 0) (pc' := 61) rfl rfl rfl rfl (by decide +kernel) rfl ?_
        refine g_iast (ws' := [(mo, .inr (9, [.ref rw, .int (nI n), .int lg, .int sf, .int dg, .ref mh, .ref md, .int un, .ref mk, .ref mt, .int le, .int sm, .ref z1, .ref z2, .ref z3, .long tr, .int at_, .int be, .int rs, .ref y1, .ref y2, .ref y3, .ref y4, .int nu, .int sf, .int dg, .int 0, .ref ya, .int fpu, .ref yw, .int wn, .ref yp])), aI E rw 168 (upd (va_cpy rf rf 0 156 12) 157 (asV ((nI u) + (nI i)))), aI E mh 9 hi, aI E md 9 de]) C 1 157 rfl (rfl) (by decide) (by decide) rfl dX9_push_61 ?_
        refine g_aload_n C dX9_push_62 rfl ?_
        refine g_callV C (c_X9_runs k.l E mo rw mh md mk mt z1 z2 z3 y1 y2 y3 y4 ya yw yp lg sf dg un le sm tr at_ be rs nu sf dg 0 fpu wn n hi de (upd (va_cpy rf rf 0 156 12) 157 (asV ((nI u) + (nI i)))) mm a (asV (nI u + nI i)) (by first | assumption | omega) (by first | assumption | omega) (by rw [pk_un (by decide), show (156 : Nat) = 156 + 0 from rfl, cpyR_in (by decide)]; exact h0) (pk_us) (fun s hs => by rw [pk_un (by omega), show 159 + s = 156 + (3 + s) by omega, cpyR_in (by omega), show 0 + (3 + s) = 3 + s by omega]; exact hmm s hs) (fun q => absurd q (by omega))) kmX9_166 kiX9_runs ksX9_runs knX9 kcX9_runs ⟨rfl, rfl⟩ ⟨rfl, kdX9_runs⟩ ⟨by decide, by decide⟩ ⟨by decide, by decide⟩ [0, 1, 2, 3] [] rfl (wr := []) rfl (by decide +kernel) (by decide +kernel) (by decide +kernel) 0 9 rfl rfl rfl (As := []) (rest := []) rfl (Nat.le_of_ble_eq_true rfl) dX9_push_63 (fun rv_ rw_ hp_ => ?_)
        obtain ⟨rf2_1, rfl, rfl, g0, g2⟩ := hp_
        refine g_rep [0, 1, 2, 3] (ws' := [(mo, .inr (9, [.ref rw, .int (nI n), .int lg, .int sf, .int dg, .ref mh, .ref md, .int un, .ref mk, .ref mt, .int le, .int sm, .ref z1, .ref z2, .ref z3, .long tr, .int at_, .int be, .int rs, .ref y1, .ref y2, .ref y3, .ref y4, .int nu, .int sf, .int dg, .int ((runF n hi de mm lg sf dg 9 a (asV (nI u + nI i)) 0 0).2.2.1), .ref ya, .int fpu, .ref yw, .int wn, .ref yp])), aI E rw 168 rf2_1, aI E mh 9 hi, aI E md 9 de]) (st' := [.int ((runF n hi de mm lg sf dg 9 a (asV (nI u + nI i)) 0 0).2.2.2)]) (n' := 0) (z' := 0) (pc' := 66) rfl rfl rfl rfl (by decide +kernel) rfl ?_
        refine g_pop C dX9_push_66 rfl ?_
        refine g_aload_n C dX9_push_67 rfl ?_
        refine g_get C kwX9 0 rfl rfl 0 (by decide) kfX9_7 rfl dX9_push_68 ?_
        refine g_sipush (v := 156) C dX9_push_71 (by decide) ?_
        refine g_iald C 1 156 rfl (rfl) (by decide) (by decide) dX9_push_74 ?_
        refine g_topi (v := nI (runF n hi de mm lg sf dg 9 a (asV (nI u + nI i)) 0 0).1) (g0) ?_
        refine g_iload_n C dX9_push_75 rfl ?_
        refine g_icmp_ne (tgt := 81) C dX9_push_76 (by decide) (fun c76 => ?_) (fun c76 => ?_)
        · skip
          rw [if_neg (fun q => c76 (by rw [q]))] at ht
          refine g_iinc (v := nI (i + 1)) (lv' := [some (.ref mo), some (.int (nI j)), some (.int (nI (i + 1)))]) C dX9_push_81 rfl (nI_add _ 1) (hnl 2 (by decide)) rfl rfl ?_
          refine g_goto (tgt := 16) C dX9_push_84 (by decide) ?_
          exact ih (i + 1) _ _ _ _ (by omega) ht (by rw [g2 _ (Or.inl (by decide)), pk_un (by omega), cpyR_out (by omega)]; exact h0) (by rw [g2 _ (Or.inl (by decide)), pk_un (by omega), cpyR_out (by omega)]; exact h1) (fun s hs => by rw [g2 _ (Or.inl (by omega)), pk_un (by omega), cpyR_out (by omega)]; exact hmm s hs) (fun i q => by rw [g2 _ (Or.inl q), pk_un (by omega), cpyR_out (by omega)]; exact hrz i q)
        · skip
          rw [if_pos ((nI_eq (by omega) (by omega)).mp c76)] at ht
          refine g_iload_n C dX9_push_79 rfl ?_
          exact g_iret C hR (⟨_, _, _, _, by rw [← ht], rfl, fun i q => by rw [g2 _ (Or.inl q), pk_un (by omega), cpyR_out (by omega)]; exact hrz i q⟩) dX9_push_80
      · skip
        have han : a = n := (nI_eq (by omega) (by omega)).mp c43
        refine g_iconst (v := 0) C dX9_push_46 (by decide) ?_
        refine g_goto (tgt := 61) C dX9_push_47 (by decide) ?_
        refine g_iast (ws' := [(mo, .inr (9, [.ref rw, .int (nI n), .int lg, .int sf, .int dg, .ref mh, .ref md, .int un, .ref mk, .ref mt, .int le, .int sm, .ref z1, .ref z2, .ref z3, .long tr, .int at_, .int be, .int rs, .ref y1, .ref y2, .ref y3, .ref y4, .int nu, .int sf, .int dg, .int 0, .ref ya, .int fpu, .ref yw, .int wn, .ref yp])), aI E rw 168 (upd (va_cpy rf rf 0 156 12) 157 0), aI E mh 9 hi, aI E md 9 de]) C 1 157 rfl (rfl) (by decide) (by decide) rfl dX9_push_61 ?_
        refine g_aload_n C dX9_push_62 rfl ?_
        refine g_callV C (c_X9_runs k.l E mo rw mh md mk mt z1 z2 z3 y1 y2 y3 y4 ya yw yp lg sf dg un le sm tr at_ be rs nu sf dg 0 fpu wn n hi de (upd (va_cpy rf rf 0 156 12) 157 0) mm a 0 (by first | assumption | omega) (by first | assumption | omega) (by rw [pk_un (by decide), show (156 : Nat) = 156 + 0 from rfl, cpyR_in (by decide)]; exact h0) (pk_us) (fun s hs => by rw [pk_un (by omega), show 159 + s = 156 + (3 + s) by omega, cpyR_in (by omega), show 0 + (3 + s) = 3 + s by omega]; exact hmm s hs) (fun _ => rfl)) kmX9_166 kiX9_runs ksX9_runs knX9 kcX9_runs ⟨rfl, rfl⟩ ⟨rfl, kdX9_runs⟩ ⟨by decide, by decide⟩ ⟨by decide, by decide⟩ [0, 1, 2, 3] [] rfl (wr := []) rfl (by decide +kernel) (by decide +kernel) (by decide +kernel) 0 9 rfl rfl rfl (As := []) (rest := []) rfl (Nat.le_of_ble_eq_true rfl) dX9_push_63 (fun rv_ rw_ hp_ => ?_)
        obtain ⟨rf2_4, rfl, rfl, g0, g2⟩ := hp_
        refine g_rep [0, 1, 2, 3] (ws' := [(mo, .inr (9, [.ref rw, .int (nI n), .int lg, .int sf, .int dg, .ref mh, .ref md, .int un, .ref mk, .ref mt, .int le, .int sm, .ref z1, .ref z2, .ref z3, .long tr, .int at_, .int be, .int rs, .ref y1, .ref y2, .ref y3, .ref y4, .int nu, .int sf, .int dg, .int ((runF n hi de mm lg sf dg 9 a 0 0 0).2.2.1), .ref ya, .int fpu, .ref yw, .int wn, .ref yp])), aI E rw 168 rf2_4, aI E mh 9 hi, aI E md 9 de]) (st' := [.int ((runF n hi de mm lg sf dg 9 a 0 0 0).2.2.2)]) (n' := 0) (z' := 0) (pc' := 66) rfl rfl rfl rfl (by decide +kernel) rfl ?_
        have hrr : (runF n hi de mm lg sf dg 9 a 0 0 0).1 = (runF n hi de mm lg sf dg 9 a (asV (nI u + nI i)) 0 0).1 := by rw [runF_flo (by omega), runF_flo (by omega)]
        rw [hrr] at g0
        refine g_pop C dX9_push_66 rfl ?_
        refine g_aload_n C dX9_push_67 rfl ?_
        refine g_get C kwX9 0 rfl rfl 0 (by decide) kfX9_7 rfl dX9_push_68 ?_
        refine g_sipush (v := 156) C dX9_push_71 (by decide) ?_
        refine g_iald C 1 156 rfl (rfl) (by decide) (by decide) dX9_push_74 ?_
        refine g_topi (v := nI (runF n hi de mm lg sf dg 9 a (asV (nI u + nI i)) 0 0).1) (g0) ?_
        refine g_iload_n C dX9_push_75 rfl ?_
        refine g_icmp_ne (tgt := 81) C dX9_push_76 (by decide) (fun c76 => ?_) (fun c76 => ?_)
        · skip
          rw [if_neg (fun q => c76 (by rw [q]))] at ht
          refine g_iinc (v := nI (i + 1)) (lv' := [some (.ref mo), some (.int (nI j)), some (.int (nI (i + 1)))]) C dX9_push_81 rfl (nI_add _ 1) (hnl 2 (by decide)) rfl rfl ?_
          refine g_goto (tgt := 16) C dX9_push_84 (by decide) ?_
          exact ih (i + 1) _ _ _ _ (by omega) ht (by rw [g2 _ (Or.inl (by decide)), pk_un (by omega), cpyR_out (by omega)]; exact h0) (by rw [g2 _ (Or.inl (by decide)), pk_un (by omega), cpyR_out (by omega)]; exact h1) (fun s hs => by rw [g2 _ (Or.inl (by omega)), pk_un (by omega), cpyR_out (by omega)]; exact hmm s hs) (fun i q => by rw [g2 _ (Or.inl q), pk_un (by omega), cpyR_out (by omega)]; exact hrz i q)
        · skip
          rw [if_pos ((nI_eq (by omega) (by omega)).mp c76)] at ht
          refine g_iload_n C dX9_push_79 rfl ?_
          exact g_iret C hR (⟨_, _, _, _, by rw [← ht], rfl, fun i q => by rw [g2 _ (Or.inl q), pk_un (by omega), cpyR_out (by omega)]; exact hrz i q⟩) dX9_push_80

set_option maxHeartbeats 4000000 in
set_option maxRecDepth 100000 in
theorem c_X9_push (l : Launch) (E : EX) (mo : Nat) (rw : Nat) (mh : Nat) (md : Nat) (mk : Nat) (mt : Nat) (z1 : Nat) (z2 : Nat) (z3 : Nat) (y1 : Nat) (y2 : Nat) (y3 : Nat) (y4 : Nat) (ya : Nat) (yw : Nat) (yp : Nat) (lg : Int32) (sf : Int32) (dg : Int32) (un : Int32) (le : Int32) (sm : Int32) (tr : Int64) (at_ : Int32) (be : Int32) (rs : Int32) (nu : Int32) (os : Int32) (od : Int32) (sl : Int32) (fpu : Int32) (wn : Int32) (n : Nat) (hi : Nat → Int32) (de : Nat → Int32) (rf : Nat → Int32) (mm : Nat → Int32) (a : Nat) (u : Nat) (j : Nat) (hn : n ≤ 9) (ha : a ≤ n) (h0 : rf 0 = nI a) (h1 : rf 1 = nI u) (hmm : ∀ s, s < 9 → rf (3 + s) = mm s) (hj : j ≤ n) : Ct l E yX9_push cX9_push 3 (some .int) (rmL 6 0 0) [.ref mo, .int (nI j)] [(mo, .inr (9, [.ref rw, .int (nI n), .int lg, .int sf, .int dg, .ref mh, .ref md, .int un, .ref mk, .ref mt, .int le, .int sm, .ref z1, .ref z2, .ref z3, .long tr, .int at_, .int be, .int rs, .ref y1, .ref y2, .ref y3, .ref y4, .int nu, .int os, .int od, .int sl, .ref ya, .int fpu, .ref yw, .int wn, .ref yp])), aI E rw 168 rf, aI E mh 9 hi, aI E md 9 de] (fun (rv_ : Option Value) (rw_ : va_W) => ∃ (rf2 : Nat → Int32) (os2 : Int32) (od2 : Int32) (sl2 : Int32), rv_ = some (.int (pushF (fun i => (runF n hi de mm lg sf dg 9 a (asV (nI u + nI i)) 0 0).1) j 61 0)) ∧ rw_ = [(mo, .inr (9, [.ref rw, .int (nI n), .int lg, .int sf, .int dg, .ref mh, .ref md, .int un, .ref mk, .ref mt, .int le, .int sm, .ref z1, .ref z2, .ref z3, .long tr, .int at_, .int be, .int rs, .ref y1, .ref y2, .ref y3, .ref y4, .int nu, .int os2, .int od2, .int sl2, .ref ya, .int fpu, .ref yw, .int wn, .ref yp])), aI E rw 168 rf2, aI E mh 9 hi, aI E md 9 de] ∧ (∀ i, i < 156 → rf2 i = rf i)) 0 0 := by
  refine Ct_of (by decide) (Nat.le_of_ble_eq_true rfl) ?_
  intro k hkl hnl C hR hin_
  subst hkl
  show G k E 0 0 0 [some (.ref mo), some (.int (nI j)), none] [] [(mo, .inr (9, [.ref rw, .int (nI n), .int lg, .int sf, .int dg, .ref mh, .ref md, .int un, .ref mk, .ref mt, .int le, .int sm, .ref z1, .ref z2, .ref z3, .long tr, .int at_, .int be, .int rs, .ref y1, .ref y2, .ref y3, .ref y4, .int nu, .int os, .int od, .int sl, .ref ya, .int fpu, .ref yw, .int wn, .ref yp])), aI E rw 168 rf, aI E mh 9 hi, aI E md 9 de]
  refine g_iload_n C dX9_push_0 rfl ?_
  refine g_iconst (v := 0) C dX9_push_1 (by decide) ?_
  refine g_aload_n C dX9_push_2 rfl ?_
  refine g_get C kwX9 0 rfl rfl 1 (by decide) kfX9_66 rfl dX9_push_3 ?_
  refine g_callS C (c_X9_in k.l E (nI j) 0 (nI n)) kmX9_69 ktX9_in knX9 kcX9_in ⟨rfl, rfl⟩ kdX9_in ⟨by decide, by decide⟩ ⟨by decide, by decide⟩ [] [0, 1, 2, 3] rfl (wr := [(mo, .inr (9, [.ref rw, .int (nI n), .int lg, .int sf, .int dg, .ref mh, .ref md, .int un, .ref mk, .ref mt, .int le, .int sm, .ref z1, .ref z2, .ref z3, .long tr, .int at_, .int be, .int rs, .ref y1, .ref y2, .ref y3, .ref y4, .int nu, .int os, .int od, .int sl, .ref ya, .int fpu, .ref yw, .int wn, .ref yp])), aI E rw 168 rf, aI E mh 9 hi, aI E md 9 de]) rfl (by decide +kernel) (by decide +kernel) (by decide +kernel) rfl (As := [.int (nI j), .int 0, .int (nI n)]) (rest := []) rfl (Nat.le_of_ble_eq_true rfl) dX9_push_6 (fun rv_ rw_ hp_ => ?_)
  obtain ⟨rfl, rfl⟩ := hp_
  refine g_rep [0, 1, 2, 3] (ws' := [(mo, .inr (9, [.ref rw, .int (nI n), .int lg, .int sf, .int dg, .ref mh, .ref md, .int un, .ref mk, .ref mt, .int le, .int sm, .ref z1, .ref z2, .ref z3, .long tr, .int at_, .int be, .int rs, .ref y1, .ref y2, .ref y3, .ref y4, .int nu, .int os, .int od, .int sl, .ref ya, .int fpu, .ref yw, .int wn, .ref yp])), aI E rw 168 rf, aI E mh 9 hi, aI E md 9 de]) (st' := [.int (bI (0 ≤ (nI j) ∧ (nI j) ≤ (nI n)))]) (n' := 0) (z' := 0) (pc' := 9) rfl rfl rfl rfl (by decide +kernel) rfl ?_
  refine g_if_ne (tgt := 14) C dX9_push_9 (by decide) (fun c9 => ?_) (fun c9 => ?_)
  · skip
    refine g_iconst (v := 0) C dX9_push_14 (by decide) ?_
    refine g_istore_n (lv' := [some (.ref mo), some (.int (nI j)), some (.int 0)]) C dX9_push_15 (hnl 2 (by decide)) rfl rfl ?_
    exact lp_X9_push C hnl hn ha hj hR 61 0 rf os od sl (by omega) rfl h0 h1 hmm (fun _ _ => rfl)
  · skip
    exact absurd ((in_iff (by omega)).mpr ⟨j, hj, rfl⟩) (bI_0 c9)

set_option maxHeartbeats 4000000 in
set_option maxRecDepth 100000 in
theorem c_X9_pushB (l : Launch) (E : EX) (mo : Nat) (rw : Nat) (mh : Nat) (md : Nat) (mk : Nat) (mt : Nat) (z1 : Nat) (z2 : Nat) (z3 : Nat) (y1 : Nat) (y2 : Nat) (y3 : Nat) (y4 : Nat) (ya : Nat) (yw : Nat) (yp : Nat) (st0 : Int32) (lg : Int32) (sf : Int32) (dg : Int32) (un : Int32) (le : Int32) (sm : Int32) (tr : Int64) (at_ : Int32) (be : Int32) (rs : Int32) (nu : Int32) (os : Int32) (od : Int32) (sl : Int32) (fpu : Int32) (wn : Int32) (y : Int32) (hb : ¬ (0 ≤ y ∧ y ≤ st0)) : Ct l E yX9_push cX9_push 3 (some .int) (rmL 6 0 0) [.ref mo, .int y] [(mo, .inr (9, [.ref rw, .int st0, .int lg, .int sf, .int dg, .ref mh, .ref md, .int un, .ref mk, .ref mt, .int le, .int sm, .ref z1, .ref z2, .ref z3, .long tr, .int at_, .int be, .int rs, .ref y1, .ref y2, .ref y3, .ref y4, .int nu, .int os, .int od, .int sl, .ref ya, .int fpu, .ref yw, .int wn, .ref yp]))] (fun (rv_ : Option Value) (rw_ : va_W) => rv_ = some (.int (-1)) ∧ rw_ = [(mo, .inr (9, [.ref rw, .int st0, .int lg, .int sf, .int dg, .ref mh, .ref md, .int un, .ref mk, .ref mt, .int le, .int sm, .ref z1, .ref z2, .ref z3, .long tr, .int at_, .int be, .int rs, .ref y1, .ref y2, .ref y3, .ref y4, .int nu, .int os, .int od, .int sl, .ref ya, .int fpu, .ref yw, .int wn, .ref yp]))]) 0 0 := by
  refine Ct_of (by decide) (Nat.le_of_ble_eq_true rfl) ?_
  intro k hkl hnl C hR hin_
  subst hkl
  show G k E 0 0 0 [some (.ref mo), some (.int y), none] [] [(mo, .inr (9, [.ref rw, .int st0, .int lg, .int sf, .int dg, .ref mh, .ref md, .int un, .ref mk, .ref mt, .int le, .int sm, .ref z1, .ref z2, .ref z3, .long tr, .int at_, .int be, .int rs, .ref y1, .ref y2, .ref y3, .ref y4, .int nu, .int os, .int od, .int sl, .ref ya, .int fpu, .ref yw, .int wn, .ref yp]))]
  refine g_iload_n C dX9_push_0 rfl ?_
  refine g_iconst (v := 0) C dX9_push_1 (by decide) ?_
  refine g_aload_n C dX9_push_2 rfl ?_
  refine g_get C kwX9 0 rfl rfl 1 (by decide) kfX9_66 rfl dX9_push_3 ?_
  refine g_callS C (c_X9_in k.l E y 0 st0) kmX9_69 ktX9_in knX9 kcX9_in ⟨rfl, rfl⟩ kdX9_in ⟨by decide, by decide⟩ ⟨by decide, by decide⟩ [] [0] rfl (wr := [(mo, .inr (9, [.ref rw, .int st0, .int lg, .int sf, .int dg, .ref mh, .ref md, .int un, .ref mk, .ref mt, .int le, .int sm, .ref z1, .ref z2, .ref z3, .long tr, .int at_, .int be, .int rs, .ref y1, .ref y2, .ref y3, .ref y4, .int nu, .int os, .int od, .int sl, .ref ya, .int fpu, .ref yw, .int wn, .ref yp]))]) rfl (by decide +kernel) (by decide +kernel) (by decide +kernel) rfl (As := [.int y, .int 0, .int st0]) (rest := []) rfl (Nat.le_of_ble_eq_true rfl) dX9_push_6 (fun rv_ rw_ hp_ => ?_)
  obtain ⟨rfl, rfl⟩ := hp_
  refine g_rep [0] (ws' := [(mo, .inr (9, [.ref rw, .int st0, .int lg, .int sf, .int dg, .ref mh, .ref md, .int un, .ref mk, .ref mt, .int le, .int sm, .ref z1, .ref z2, .ref z3, .long tr, .int at_, .int be, .int rs, .ref y1, .ref y2, .ref y3, .ref y4, .int nu, .int os, .int od, .int sl, .ref ya, .int fpu, .ref yw, .int wn, .ref yp]))]) (st' := [.int (bI (0 ≤ y ∧ y ≤ st0))]) (n' := 0) (z' := 0) (pc' := 9) rfl rfl rfl rfl (by decide +kernel) rfl ?_
  refine g_if_ne (tgt := 14) C dX9_push_9 (by decide) (fun c9 => ?_) (fun c9 => ?_)
  · skip
    exact absurd (bI_1 c9) hb
  · skip
    refine g_iconst (v := (-1)) C dX9_push_12 (by decide) ?_
    exact g_iret C hR (⟨rfl, rfl⟩) dX9_push_13

set_option maxHeartbeats 4000000 in
set_option maxRecDepth 100000 in
theorem lp_X9_mat {k : KX} {E : EX} (C : Cx k E cX9_mat RX9 (rmL 6 0 0)) (hnl : ∀ j : Nat, j < 4 → j < k.nL) {mo : Nat} {rw : Nat} {mh : Nat} {md : Nat} {mk : Nat} {mt : Nat} {z1 : Nat} {z2 : Nat} {z3 : Nat} {y1 : Nat} {y2 : Nat} {y3 : Nat} {y4 : Nat} {ya : Nat} {yw : Nat} {yp : Nat} {lg : Int32} {sf : Int32} {dg : Int32} {un : Int32} {le : Int32} {sm : Int32} {tr : Int64} {at_ : Int32} {be : Int32} {rs : Int32} {nu : Int32} {fpu : Int32} {wn : Int32} {n : Nat} {hi : Nat → Int32} {de : Nat → Int32} {mm : Nat → Int32} {a : Nat} {u : Nat} {j : Nat} {y : Int32} (hn : n ≤ 9) (ha : a ≤ n) (hj : j ≤ n) (hfl : a = n → u = 0) {t : Int32} {rz : Nat → Int32} (hR : Rt k E (fun (rv_ : Option Value) (rw_ : va_W) => ∃ (rf2 : Nat → Int32) (os2 : Int32) (od2 : Int32) (sl2 : Int32), rv_ = some (.int t) ∧ rw_ = [(mo, .inr (9, [.ref rw, .int (nI n), .int lg, .int sf, .int dg, .ref mh, .ref md, .int un, .ref mk, .ref mt, .int le, .int sm, .ref z1, .ref z2, .ref z3, .long tr, .int at_, .int be, .int rs, .ref y1, .ref y2, .ref y3, .ref y4, .int nu, .int os2, .int od2, .int sl2, .ref ya, .int fpu, .ref yw, .int wn, .ref yp])), aI E rw 168 rf2, aI E mh 9 hi, aI E md 9 de] ∧ (∀ i, i < 156 → rf2 i = rz i)) 0 0 (some .int)) : ∀ (f i : Nat) (rf : Nat → Int32) (os od sl : Int32), i + f = n → pushF (fun i => (runF n hi de (upd mm i y) lg sf dg 9 a (nI u) 0 0).1) j f i = t → rf 0 = nI a → rf 1 = nI u → (∀ s, s < 9 → rf (3 + s) = mm s) → (∀ i, i < 156 → rf i = rz i) → G k E 0 0 25 [some (.ref mo), some (.int (nI j)), some (.int y), some (.int (nI i))] [] [(mo, .inr (9, [.ref rw, .int (nI n), .int lg, .int sf, .int dg, .ref mh, .ref md, .int un, .ref mk, .ref mt, .int le, .int sm, .ref z1, .ref z2, .ref z3, .long tr, .int at_, .int be, .int rs, .ref y1, .ref y2, .ref y3, .ref y4, .int nu, .int os, .int od, .int sl, .ref ya, .int fpu, .ref yw, .int wn, .ref yp])), aI E rw 168 rf, aI E mh 9 hi, aI E md 9 de] := by
  intro f
  induction f with
  | zero =>
    intro i rf os od sl hi_ ht h0 h1 hmm hrz
    refine g_iload_n C dX9_mat_25 rfl ?_
    refine g_aload_n C dX9_mat_26 rfl ?_
    refine g_get C kwX9 0 rfl rfl 1 (by decide) kfX9_66 rfl dX9_mat_27 ?_
    refine g_icmp_ge (tgt := 73) C dX9_mat_30 (by decide) (fun c30 => ?_) (fun c30 => ?_)
    · skip
      refine g_bipush (v := (-9)) C dX9_mat_73 (by decide) ?_
      exact g_iret C hR (⟨_, _, _, _, by rw [← ht]; rfl, rfl, hrz⟩) dX9_mat_75
    · skip
      exact absurd ((nI_leI (by omega) (by omega)).mpr (by omega)) c30
  | succ f ih =>
    intro i rf os od sl hi_ ht h0 h1 hmm hrz
    unfold pushF at ht
    have hr := runF_le (n := n) (hi := hi) (de := de) (ma := upd mm i y) (lg := lg) (st := sf) (dr := dg) 9 a (nI u) 0 0 ha
    refine g_iload_n C dX9_mat_25 rfl ?_
    refine g_aload_n C dX9_mat_26 rfl ?_
    refine g_get C kwX9 0 rfl rfl 1 (by decide) kfX9_66 rfl dX9_mat_27 ?_
    refine g_icmp_ge (tgt := 73) C dX9_mat_30 (by decide) (fun c30 => ?_) (fun c30 => ?_)
    · skip
      exact absurd (nx_ge (by omega) (by omega) c30) (by omega)
    · skip
      refine g_aload_n C dX9_mat_33 rfl ?_
      refine g_callV C (c_X9_layTried k.l E mo rw mh md mk mt z1 z2 z3 y1 y2 y3 y4 ya yw yp (nI n) lg sf dg un le sm tr at_ be rs nu os od sl fpu wn rf) kmX9_163 kiX9_layTried ksX9_layTried knX9 kcX9_layTried ⟨rfl, rfl⟩ ⟨rfl, kdX9_layTried⟩ ⟨by decide, by decide⟩ ⟨by decide, by decide⟩ [0, 1] [2, 3] rfl (wr := [aI E mh 9 hi, aI E md 9 de]) rfl (by decide +kernel) (by decide +kernel) (by decide +kernel) 0 9 rfl rfl rfl (As := []) (rest := []) rfl (Nat.le_of_ble_eq_true rfl) dX9_mat_34 (fun rv_ rw_ hp_ => ?_)
      obtain ⟨rfl, rfl⟩ := hp_
      refine g_rep [2, 3, 0, 1] (ws' := [(mo, .inr (9, [.ref rw, .int (nI n), .int lg, .int sf, .int dg, .ref mh, .ref md, .int un, .ref mk, .ref mt, .int le, .int sm, .ref z1, .ref z2, .ref z3, .long tr, .int at_, .int be, .int rs, .ref y1, .ref y2, .ref y3, .ref y4, .int nu, .int sf, .int dg, .int 0, .ref ya, .int fpu, .ref yw, .int wn, .ref yp])), aI E rw 168 (va_cpy rf rf 0 156 12), aI E mh 9 hi, aI E md 9 de]) (st' := []) (n' := 0) (z' := 0) (pc' := 37) rfl rfl rfl rfl (by decide +kernel) rfl ?_
      refine g_aload_n C dX9_mat_37 rfl ?_
      refine g_get C kwX9 0 rfl rfl 0 (by decide) kfX9_7 rfl dX9_mat_38 ?_
      refine g_sipush (v := 159) C dX9_mat_41 (by decide) ?_
      refine g_iload_n C dX9_mat_44 rfl ?_
      refine g_iadd C dX9_mat_45 ?_
      refine g_topi (v := nI (159 + i)) (nI_add 159 _) ?_
      refine g_iload_n C dX9_mat_46 rfl ?_
      refine g_iast (ws' := [(mo, .inr (9, [.ref rw, .int (nI n), .int lg, .int sf, .int dg, .ref mh, .ref md, .int un, .ref mk, .ref mt, .int le, .int sm, .ref z1, .ref z2, .ref z3, .long tr, .int at_, .int be, .int rs, .ref y1, .ref y2, .ref y3, .ref y4, .int nu, .int sf, .int dg, .int 0, .ref ya, .int fpu, .ref yw, .int wn, .ref yp])), aI E rw 168 (upd (va_cpy rf rf 0 156 12) (159 + i) y), aI E mh 9 hi, aI E md 9 de]) C 1 (159 + i) rfl (rfl) (by omega) (by decide) rfl dX9_mat_47 ?_
      refine g_aload_n C dX9_mat_48 rfl ?_
      refine g_callV C (c_X9_runs k.l E mo rw mh md mk mt z1 z2 z3 y1 y2 y3 y4 ya yw yp lg sf dg un le sm tr at_ be rs nu sf dg 0 fpu wn n hi de (upd (va_cpy rf rf 0 156 12) (159 + i) y) (upd mm i y) a (nI u) (by first | assumption | omega) (by first | assumption | omega) (by rw [pk_un (by omega), show (156 : Nat) = 156 + 0 from rfl, cpyR_in (by decide)]; exact h0) (by rw [pk_un (by omega), show (157 : Nat) = 156 + 1 from rfl, cpyR_in (by decide)]; exact h1) (fun s hs => by by_cases e : s = i; rw [e, pk_us, pk_us]; rw [pk_un (by omega), pk_un e, show 159 + s = 156 + (3 + s) by omega, cpyR_in (by omega), show 0 + (3 + s) = 3 + s by omega]; exact hmm s hs) (fun q => by rw [hfl q]; rfl)) kmX9_166 kiX9_runs ksX9_runs knX9 kcX9_runs ⟨rfl, rfl⟩ ⟨rfl, kdX9_runs⟩ ⟨by decide, by decide⟩ ⟨by decide, by decide⟩ [0, 1, 2, 3] [] rfl (wr := []) rfl (by decide +kernel) (by decide +kernel) (by decide +kernel) 0 9 rfl rfl rfl (As := []) (rest := []) rfl (Nat.le_of_ble_eq_true rfl) dX9_mat_49 (fun rv_ rw_ hp_ => ?_)
      obtain ⟨rf2_1, rfl, rfl, g0, g2⟩ := hp_
      refine g_rep [0, 1, 2, 3] (ws' := [(mo, .inr (9, [.ref rw, .int (nI n), .int lg, .int sf, .int dg, .ref mh, .ref md, .int un, .ref mk, .ref mt, .int le, .int sm, .ref z1, .ref z2, .ref z3, .long tr, .int at_, .int be, .int rs, .ref y1, .ref y2, .ref y3, .ref y4, .int nu, .int sf, .int dg, .int ((runF n hi de (upd mm i y) lg sf dg 9 a (nI u) 0 0).2.2.1), .ref ya, .int fpu, .ref yw, .int wn, .ref yp])), aI E rw 168 rf2_1, aI E mh 9 hi, aI E md 9 de]) (st' := [.int ((runF n hi de (upd mm i y) lg sf dg 9 a (nI u) 0 0).2.2.2)]) (n' := 0) (z' := 0) (pc' := 52) rfl rfl rfl rfl (by decide +kernel) rfl ?_
      refine g_pop C dX9_mat_52 rfl ?_
      refine g_aload_n C dX9_mat_53 rfl ?_
      refine g_get C kwX9 0 rfl rfl 0 (by decide) kfX9_7 rfl dX9_mat_54 ?_
      refine g_sipush (v := 156) C dX9_mat_57 (by decide) ?_
      refine g_iald C 1 156 rfl (rfl) (by decide) (by decide) dX9_mat_60 ?_
      refine g_topi (v := nI (runF n hi de (upd mm i y) lg sf dg 9 a (nI u) 0 0).1) (g0) ?_
      refine g_iload_n C dX9_mat_61 rfl ?_
      refine g_icmp_ne (tgt := 67) C dX9_mat_62 (by decide) (fun c62 => ?_) (fun c62 => ?_)
      · skip
        rw [if_neg (fun q => c62 (by rw [q]))] at ht
        refine g_iinc (v := nI (i + 1)) (lv' := [some (.ref mo), some (.int (nI j)), some (.int y), some (.int (nI (i + 1)))]) C dX9_mat_67 rfl (nI_add _ 1) (hnl 3 (by decide)) rfl rfl ?_
        refine g_goto (tgt := 25) C dX9_mat_70 (by decide) ?_
        exact ih (i + 1) _ _ _ _ (by omega) ht (by rw [g2 _ (Or.inl (by decide)), pk_un (by omega), cpyR_out (by omega)]; exact h0) (by rw [g2 _ (Or.inl (by decide)), pk_un (by omega), cpyR_out (by omega)]; exact h1) (fun s hs => by rw [g2 _ (Or.inl (by omega)), pk_un (by omega), cpyR_out (by omega)]; exact hmm s hs) (fun i q => by rw [g2 _ (Or.inl q), pk_un (by omega), cpyR_out (by omega)]; exact hrz i q)
      · skip
        rw [if_pos ((nI_eq (by omega) (by omega)).mp c62)] at ht
        refine g_iload_n C dX9_mat_65 rfl ?_
        exact g_iret C hR (⟨_, _, _, _, by rw [← ht], rfl, fun i q => by rw [g2 _ (Or.inl q), pk_un (by omega), cpyR_out (by omega)]; exact hrz i q⟩) dX9_mat_66

set_option maxHeartbeats 4000000 in
set_option maxRecDepth 100000 in
theorem c_X9_mat (l : Launch) (E : EX) (mo : Nat) (rw : Nat) (mh : Nat) (md : Nat) (mk : Nat) (mt : Nat) (z1 : Nat) (z2 : Nat) (z3 : Nat) (y1 : Nat) (y2 : Nat) (y3 : Nat) (y4 : Nat) (ya : Nat) (yw : Nat) (yp : Nat) (lg : Int32) (sf : Int32) (dg : Int32) (un : Int32) (le : Int32) (sm : Int32) (tr : Int64) (at_ : Int32) (be : Int32) (rs : Int32) (nu : Int32) (os : Int32) (od : Int32) (sl : Int32) (fpu : Int32) (wn : Int32) (n : Nat) (hi : Nat → Int32) (de : Nat → Int32) (rf : Nat → Int32) (mm : Nat → Int32) (a : Nat) (u : Nat) (j : Nat) (y : Int32) (hn : n ≤ 9) (ha : a ≤ n) (h0 : rf 0 = nI a) (h1 : rf 1 = nI u) (hmm : ∀ s, s < 9 → rf (3 + s) = mm s) (hj : j ≤ n) (hy : 0 ≤ y ∧ y ≤ 5) (hfl : a = n → u = 0) : Ct l E yX9_mat cX9_mat 4 (some .int) (rmL 6 0 0) [.ref mo, .int (nI j), .int y] [(mo, .inr (9, [.ref rw, .int (nI n), .int lg, .int sf, .int dg, .ref mh, .ref md, .int un, .ref mk, .ref mt, .int le, .int sm, .ref z1, .ref z2, .ref z3, .long tr, .int at_, .int be, .int rs, .ref y1, .ref y2, .ref y3, .ref y4, .int nu, .int os, .int od, .int sl, .ref ya, .int fpu, .ref yw, .int wn, .ref yp])), aI E rw 168 rf, aI E mh 9 hi, aI E md 9 de] (fun (rv_ : Option Value) (rw_ : va_W) => ∃ (rf2 : Nat → Int32) (os2 : Int32) (od2 : Int32) (sl2 : Int32), rv_ = some (.int (pushF (fun i => (runF n hi de (upd mm i y) lg sf dg 9 a (nI u) 0 0).1) j n 0)) ∧ rw_ = [(mo, .inr (9, [.ref rw, .int (nI n), .int lg, .int sf, .int dg, .ref mh, .ref md, .int un, .ref mk, .ref mt, .int le, .int sm, .ref z1, .ref z2, .ref z3, .long tr, .int at_, .int be, .int rs, .ref y1, .ref y2, .ref y3, .ref y4, .int nu, .int os2, .int od2, .int sl2, .ref ya, .int fpu, .ref yw, .int wn, .ref yp])), aI E rw 168 rf2, aI E mh 9 hi, aI E md 9 de] ∧ (∀ i, i < 156 → rf2 i = rf i)) 0 0 := by
  refine Ct_of (by decide) (Nat.le_of_ble_eq_true rfl) ?_
  intro k hkl hnl C hR hin_
  subst hkl
  show G k E 0 0 0 [some (.ref mo), some (.int (nI j)), some (.int y), none] [] [(mo, .inr (9, [.ref rw, .int (nI n), .int lg, .int sf, .int dg, .ref mh, .ref md, .int un, .ref mk, .ref mt, .int le, .int sm, .ref z1, .ref z2, .ref z3, .long tr, .int at_, .int be, .int rs, .ref y1, .ref y2, .ref y3, .ref y4, .int nu, .int os, .int od, .int sl, .ref ya, .int fpu, .ref yw, .int wn, .ref yp])), aI E rw 168 rf, aI E mh 9 hi, aI E md 9 de]
  refine g_iload_n C dX9_mat_0 rfl ?_
  refine g_iconst (v := 0) C dX9_mat_1 (by decide) ?_
  refine g_aload_n C dX9_mat_2 rfl ?_
  refine g_get C kwX9 0 rfl rfl 1 (by decide) kfX9_66 rfl dX9_mat_3 ?_
  refine g_callS C (c_X9_in k.l E (nI j) 0 (nI n)) kmX9_69 ktX9_in knX9 kcX9_in ⟨rfl, rfl⟩ kdX9_in ⟨by decide, by decide⟩ ⟨by decide, by decide⟩ [] [0, 1, 2, 3] rfl (wr := [(mo, .inr (9, [.ref rw, .int (nI n), .int lg, .int sf, .int dg, .ref mh, .ref md, .int un, .ref mk, .ref mt, .int le, .int sm, .ref z1, .ref z2, .ref z3, .long tr, .int at_, .int be, .int rs, .ref y1, .ref y2, .ref y3, .ref y4, .int nu, .int os, .int od, .int sl, .ref ya, .int fpu, .ref yw, .int wn, .ref yp])), aI E rw 168 rf, aI E mh 9 hi, aI E md 9 de]) rfl (by decide +kernel) (by decide +kernel) (by decide +kernel) rfl (As := [.int (nI j), .int 0, .int (nI n)]) (rest := []) rfl (Nat.le_of_ble_eq_true rfl) dX9_mat_6 (fun rv_ rw_ hp_ => ?_)
  obtain ⟨rfl, rfl⟩ := hp_
  refine g_rep [0, 1, 2, 3] (ws' := [(mo, .inr (9, [.ref rw, .int (nI n), .int lg, .int sf, .int dg, .ref mh, .ref md, .int un, .ref mk, .ref mt, .int le, .int sm, .ref z1, .ref z2, .ref z3, .long tr, .int at_, .int be, .int rs, .ref y1, .ref y2, .ref y3, .ref y4, .int nu, .int os, .int od, .int sl, .ref ya, .int fpu, .ref yw, .int wn, .ref yp])), aI E rw 168 rf, aI E mh 9 hi, aI E md 9 de]) (st' := [.int (bI (0 ≤ (nI j) ∧ (nI j) ≤ (nI n)))]) (n' := 0) (z' := 0) (pc' := 9) rfl rfl rfl rfl (by decide +kernel) rfl ?_
  refine g_if_eq (tgt := 21) C dX9_mat_9 (by decide) (fun c9 => ?_) (fun c9 => ?_)
  · skip
    exact absurd ((in_iff (by omega)).mpr ⟨j, hj, rfl⟩) (bI_0 c9)
  · skip
    refine g_iload_n C dX9_mat_12 rfl ?_
    refine g_iconst (v := 0) C dX9_mat_13 (by decide) ?_
    refine g_iconst (v := 5) C dX9_mat_14 (by decide) ?_
    refine g_callS C (c_X9_in k.l E y 0 5) kmX9_69 ktX9_in knX9 kcX9_in ⟨rfl, rfl⟩ kdX9_in ⟨by decide, by decide⟩ ⟨by decide, by decide⟩ [] [0, 1, 2, 3] rfl (wr := [(mo, .inr (9, [.ref rw, .int (nI n), .int lg, .int sf, .int dg, .ref mh, .ref md, .int un, .ref mk, .ref mt, .int le, .int sm, .ref z1, .ref z2, .ref z3, .long tr, .int at_, .int be, .int rs, .ref y1, .ref y2, .ref y3, .ref y4, .int nu, .int os, .int od, .int sl, .ref ya, .int fpu, .ref yw, .int wn, .ref yp])), aI E rw 168 rf, aI E mh 9 hi, aI E md 9 de]) rfl (by decide +kernel) (by decide +kernel) (by decide +kernel) rfl (As := [.int y, .int 0, .int 5]) (rest := []) rfl (Nat.le_of_ble_eq_true rfl) dX9_mat_15 (fun rv_ rw_ hp_ => ?_)
    obtain ⟨rfl, rfl⟩ := hp_
    refine g_rep [0, 1, 2, 3] (ws' := [(mo, .inr (9, [.ref rw, .int (nI n), .int lg, .int sf, .int dg, .ref mh, .ref md, .int un, .ref mk, .ref mt, .int le, .int sm, .ref z1, .ref z2, .ref z3, .long tr, .int at_, .int be, .int rs, .ref y1, .ref y2, .ref y3, .ref y4, .int nu, .int os, .int od, .int sl, .ref ya, .int fpu, .ref yw, .int wn, .ref yp])), aI E rw 168 rf, aI E mh 9 hi, aI E md 9 de]) (st' := [.int (bI (0 ≤ y ∧ y ≤ 5))]) (n' := 0) (z' := 0) (pc' := 18) rfl rfl rfl rfl (by decide +kernel) rfl ?_
    refine g_if_ne (tgt := 23) C dX9_mat_18 (by decide) (fun c18 => ?_) (fun c18 => ?_)
    · skip
      refine g_iconst (v := 0) C dX9_mat_23 (by decide) ?_
      refine g_istore_n (lv' := [some (.ref mo), some (.int (nI j)), some (.int y), some (.int 0)]) C dX9_mat_24 (hnl 3 (by decide)) rfl rfl ?_
      exact lp_X9_mat C hnl hn ha hj hfl hR n 0 rf os od sl (by omega) rfl h0 h1 hmm (fun _ _ => rfl)
    · skip
      exact absurd hy (bI_0 c18)

set_option maxHeartbeats 4000000 in
set_option maxRecDepth 100000 in
theorem c_X9_matB (l : Launch) (E : EX) (mo : Nat) (rw : Nat) (mh : Nat) (md : Nat) (mk : Nat) (mt : Nat) (z1 : Nat) (z2 : Nat) (z3 : Nat) (y1 : Nat) (y2 : Nat) (y3 : Nat) (y4 : Nat) (ya : Nat) (yw : Nat) (yp : Nat) (st0 : Int32) (lg : Int32) (sf : Int32) (dg : Int32) (un : Int32) (le : Int32) (sm : Int32) (tr : Int64) (at_ : Int32) (be : Int32) (rs : Int32) (nu : Int32) (os : Int32) (od : Int32) (sl : Int32) (fpu : Int32) (wn : Int32) (y : Int32) (z0 : Int32) (hb : ¬ ((0 ≤ y ∧ y ≤ st0) ∧ (0 ≤ z0 ∧ z0 ≤ 5))) : Ct l E yX9_mat cX9_mat 4 (some .int) (rmL 6 0 0) [.ref mo, .int y, .int z0] [(mo, .inr (9, [.ref rw, .int st0, .int lg, .int sf, .int dg, .ref mh, .ref md, .int un, .ref mk, .ref mt, .int le, .int sm, .ref z1, .ref z2, .ref z3, .long tr, .int at_, .int be, .int rs, .ref y1, .ref y2, .ref y3, .ref y4, .int nu, .int os, .int od, .int sl, .ref ya, .int fpu, .ref yw, .int wn, .ref yp]))] (fun (rv_ : Option Value) (rw_ : va_W) => rv_ = some (.int (-1)) ∧ rw_ = [(mo, .inr (9, [.ref rw, .int st0, .int lg, .int sf, .int dg, .ref mh, .ref md, .int un, .ref mk, .ref mt, .int le, .int sm, .ref z1, .ref z2, .ref z3, .long tr, .int at_, .int be, .int rs, .ref y1, .ref y2, .ref y3, .ref y4, .int nu, .int os, .int od, .int sl, .ref ya, .int fpu, .ref yw, .int wn, .ref yp]))]) 0 0 := by
  refine Ct_of (by decide) (Nat.le_of_ble_eq_true rfl) ?_
  intro k hkl hnl C hR hin_
  subst hkl
  show G k E 0 0 0 [some (.ref mo), some (.int y), some (.int z0), none] [] [(mo, .inr (9, [.ref rw, .int st0, .int lg, .int sf, .int dg, .ref mh, .ref md, .int un, .ref mk, .ref mt, .int le, .int sm, .ref z1, .ref z2, .ref z3, .long tr, .int at_, .int be, .int rs, .ref y1, .ref y2, .ref y3, .ref y4, .int nu, .int os, .int od, .int sl, .ref ya, .int fpu, .ref yw, .int wn, .ref yp]))]
  refine g_iload_n C dX9_mat_0 rfl ?_
  refine g_iconst (v := 0) C dX9_mat_1 (by decide) ?_
  refine g_aload_n C dX9_mat_2 rfl ?_
  refine g_get C kwX9 0 rfl rfl 1 (by decide) kfX9_66 rfl dX9_mat_3 ?_
  refine g_callS C (c_X9_in k.l E y 0 st0) kmX9_69 ktX9_in knX9 kcX9_in ⟨rfl, rfl⟩ kdX9_in ⟨by decide, by decide⟩ ⟨by decide, by decide⟩ [] [0] rfl (wr := [(mo, .inr (9, [.ref rw, .int st0, .int lg, .int sf, .int dg, .ref mh, .ref md, .int un, .ref mk, .ref mt, .int le, .int sm, .ref z1, .ref z2, .ref z3, .long tr, .int at_, .int be, .int rs, .ref y1, .ref y2, .ref y3, .ref y4, .int nu, .int os, .int od, .int sl, .ref ya, .int fpu, .ref yw, .int wn, .ref yp]))]) rfl (by decide +kernel) (by decide +kernel) (by decide +kernel) rfl (As := [.int y, .int 0, .int st0]) (rest := []) rfl (Nat.le_of_ble_eq_true rfl) dX9_mat_6 (fun rv_ rw_ hp_ => ?_)
  obtain ⟨rfl, rfl⟩ := hp_
  refine g_rep [0] (ws' := [(mo, .inr (9, [.ref rw, .int st0, .int lg, .int sf, .int dg, .ref mh, .ref md, .int un, .ref mk, .ref mt, .int le, .int sm, .ref z1, .ref z2, .ref z3, .long tr, .int at_, .int be, .int rs, .ref y1, .ref y2, .ref y3, .ref y4, .int nu, .int os, .int od, .int sl, .ref ya, .int fpu, .ref yw, .int wn, .ref yp]))]) (st' := [.int (bI (0 ≤ y ∧ y ≤ st0))]) (n' := 0) (z' := 0) (pc' := 9) rfl rfl rfl rfl (by decide +kernel) rfl ?_
  refine g_if_eq (tgt := 21) C dX9_mat_9 (by decide) (fun c9 => ?_) (fun c9 => ?_)
  · skip
    refine g_iconst (v := (-1)) C dX9_mat_21 (by decide) ?_
    exact g_iret C hR (⟨rfl, rfl⟩) dX9_mat_22
  · skip
    refine g_iload_n C dX9_mat_12 rfl ?_
    refine g_iconst (v := 0) C dX9_mat_13 (by decide) ?_
    refine g_iconst (v := 5) C dX9_mat_14 (by decide) ?_
    refine g_callS C (c_X9_in k.l E z0 0 5) kmX9_69 ktX9_in knX9 kcX9_in ⟨rfl, rfl⟩ kdX9_in ⟨by decide, by decide⟩ ⟨by decide, by decide⟩ [] [0] rfl (wr := [(mo, .inr (9, [.ref rw, .int st0, .int lg, .int sf, .int dg, .ref mh, .ref md, .int un, .ref mk, .ref mt, .int le, .int sm, .ref z1, .ref z2, .ref z3, .long tr, .int at_, .int be, .int rs, .ref y1, .ref y2, .ref y3, .ref y4, .int nu, .int os, .int od, .int sl, .ref ya, .int fpu, .ref yw, .int wn, .ref yp]))]) rfl (by decide +kernel) (by decide +kernel) (by decide +kernel) rfl (As := [.int z0, .int 0, .int 5]) (rest := []) rfl (Nat.le_of_ble_eq_true rfl) dX9_mat_15 (fun rv_ rw_ hp_ => ?_)
    obtain ⟨rfl, rfl⟩ := hp_
    refine g_rep [0] (ws' := [(mo, .inr (9, [.ref rw, .int st0, .int lg, .int sf, .int dg, .ref mh, .ref md, .int un, .ref mk, .ref mt, .int le, .int sm, .ref z1, .ref z2, .ref z3, .long tr, .int at_, .int be, .int rs, .ref y1, .ref y2, .ref y3, .ref y4, .int nu, .int os, .int od, .int sl, .ref ya, .int fpu, .ref yw, .int wn, .ref yp]))]) (st' := [.int (bI (0 ≤ z0 ∧ z0 ≤ 5))]) (n' := 0) (z' := 0) (pc' := 18) rfl rfl rfl rfl (by decide +kernel) rfl ?_
    refine g_if_ne (tgt := 23) C dX9_mat_18 (by decide) (fun c18 => ?_) (fun c18 => ?_)
    · skip
      exact absurd ⟨bI_1 c9, bI_1 c18⟩ hb
    · skip
      refine g_iconst (v := (-1)) C dX9_mat_21 (by decide) ?_
      exact g_iret C hR (⟨rfl, rfl⟩) dX9_mat_22

set_option maxHeartbeats 4000000 in
set_option maxRecDepth 100000 in
theorem c_X9_restsAt (l : Launch) (E : EX) (mo : Nat) (rw : Nat) (mh : Nat) (md : Nat) (mk : Nat) (mt : Nat) (z1 : Nat) (z2 : Nat) (z3 : Nat) (y1 : Nat) (y2 : Nat) (y3 : Nat) (y4 : Nat) (ya : Nat) (yw : Nat) (yp : Nat) (lg : Int32) (sf : Int32) (dg : Int32) (un : Int32) (le : Int32) (sm : Int32) (tr : Int64) (at_ : Int32) (be : Int32) (rs : Int32) (nu : Int32) (os : Int32) (od : Int32) (sl : Int32) (fpu : Int32) (wn : Int32) (n : Nat) (hi : Nat → Int32) (de : Nat → Int32) (rf : Nat → Int32) (mm : Nat → Int32) (x1 : Int32) (x2 : Int32) (b : Nat) (y : Int32) (hn : n ≤ 9) (hb : b < n) (hmm : ∀ s, s < 9 → rf (3 + s) = mm s) : Ct l E yX9_restsAt cX9_restsAt 5 (some .int) (rmL 5 0 0) [.ref mo, .int x1, .int x2, .int (nI b), .int y] [(mo, .inr (9, [.ref rw, .int (nI n), .int lg, .int sf, .int dg, .ref mh, .ref md, .int un, .ref mk, .ref mt, .int le, .int sm, .ref z1, .ref z2, .ref z3, .long tr, .int at_, .int be, .int rs, .ref y1, .ref y2, .ref y3, .ref y4, .int nu, .int os, .int od, .int sl, .ref ya, .int fpu, .ref yw, .int wn, .ref yp])), aI E rw 168 rf, aI E mh 9 hi, aI E md 9 de] (fun (rv_ : Option Value) (rw_ : va_W) => ∃ (rf2 : Nat → Int32) (os2 : Int32) (od2 : Int32) (sl2 : Int32), rv_ = some (.int (nI (runF n hi de mm lg x1 x2 9 b y 0 0).1)) ∧ rw_ = [(mo, .inr (9, [.ref rw, .int (nI n), .int lg, .int sf, .int dg, .ref mh, .ref md, .int un, .ref mk, .ref mt, .int le, .int sm, .ref z1, .ref z2, .ref z3, .long tr, .int at_, .int be, .int rs, .ref y1, .ref y2, .ref y3, .ref y4, .int nu, .int os2, .int od2, .int sl2, .ref ya, .int fpu, .ref yw, .int wn, .ref yp])), aI E rw 168 rf2, aI E mh 9 hi, aI E md 9 de] ∧ (∀ i, i < 156 → rf2 i = rf i)) 0 0 := by
  refine Ct_of (by decide) (Nat.le_of_ble_eq_true rfl) ?_
  intro k hkl hnl C hR hin_
  subst hkl
  show G k E 0 0 0 [some (.ref mo), some (.int x1), some (.int x2), some (.int (nI b)), some (.int y)] [] [(mo, .inr (9, [.ref rw, .int (nI n), .int lg, .int sf, .int dg, .ref mh, .ref md, .int un, .ref mk, .ref mt, .int le, .int sm, .ref z1, .ref z2, .ref z3, .long tr, .int at_, .int be, .int rs, .ref y1, .ref y2, .ref y3, .ref y4, .int nu, .int os, .int od, .int sl, .ref ya, .int fpu, .ref yw, .int wn, .ref yp])), aI E rw 168 rf, aI E mh 9 hi, aI E md 9 de]
  refine g_aload_n C dX9_restsAt_0 rfl ?_
  refine g_iconst (v := 0) C dX9_restsAt_1 (by decide) ?_
  refine g_sipush (v := 156) C dX9_restsAt_2 (by decide) ?_
  refine g_callV C (c_X9_copyRow k.l E mo rw mh md mk mt z1 z2 z3 y1 y2 y3 y4 ya yw yp (nI n) lg sf dg un le sm tr at_ be rs nu os od sl fpu wn rf 0 156 (by decide) (by decide) (Or.inr (by decide))) kmX9_145 kiX9_copyRow ksX9_copyRow knX9 kcX9_copyRow ⟨rfl, rfl⟩ ⟨rfl, kdX9_copyRow⟩ ⟨by decide, by decide⟩ ⟨by decide, by decide⟩ [0, 1] [2, 3] rfl (wr := [aI E mh 9 hi, aI E md 9 de]) rfl (by decide +kernel) (by decide +kernel) (by decide +kernel) 0 9 rfl rfl rfl (As := [.int 0, .int 156]) (rest := []) rfl (Nat.le_of_ble_eq_true rfl) dX9_restsAt_5 (fun rv_ rw_ hp_ => ?_)
  obtain ⟨rfl, rfl⟩ := hp_
  refine g_rep [2, 3, 0, 1] (ws' := [(mo, .inr (9, [.ref rw, .int (nI n), .int lg, .int sf, .int dg, .ref mh, .ref md, .int un, .ref mk, .ref mt, .int le, .int sm, .ref z1, .ref z2, .ref z3, .long tr, .int at_, .int be, .int rs, .ref y1, .ref y2, .ref y3, .ref y4, .int nu, .int os, .int od, .int sl, .ref ya, .int fpu, .ref yw, .int wn, .ref yp])), aI E rw 168 (va_cpy rf rf 0 156 12), aI E mh 9 hi, aI E md 9 de]) (st' := []) (n' := 0) (z' := 0) (pc' := 8) rfl rfl rfl rfl (by decide +kernel) rfl ?_
  refine g_aload_n C dX9_restsAt_8 rfl ?_
  refine g_iload_n C dX9_restsAt_9 rfl ?_
  refine g_put (ws' := [(mo, .inr (9, [.ref rw, .int (nI n), .int lg, .int sf, .int dg, .ref mh, .ref md, .int un, .ref mk, .ref mt, .int le, .int sm, .ref z1, .ref z2, .ref z3, .long tr, .int at_, .int be, .int rs, .ref y1, .ref y2, .ref y3, .ref y4, .int nu, .int x1, .int od, .int sl, .ref ya, .int fpu, .ref yw, .int wn, .ref yp])), aI E rw 168 (va_cpy rf rf 0 156 12), aI E mh 9 hi, aI E md 9 de]) C kwX9 tyX9 tyX9_ok nmX9 0 rfl rfl 24 (by decide) kfX9_125 rfl rfl rfl (Nat.le_of_ble_eq_true rfl) rfl dX9_restsAt_10 ?_
  refine g_aload_n C dX9_restsAt_13 rfl ?_
  refine g_iload_n C dX9_restsAt_14 rfl ?_
  refine g_put (ws' := [(mo, .inr (9, [.ref rw, .int (nI n), .int lg, .int sf, .int dg, .ref mh, .ref md, .int un, .ref mk, .ref mt, .int le, .int sm, .ref z1, .ref z2, .ref z3, .long tr, .int at_, .int be, .int rs, .ref y1, .ref y2, .ref y3, .ref y4, .int nu, .int x1, .int x2, .int sl, .ref ya, .int fpu, .ref yw, .int wn, .ref yp])), aI E rw 168 (va_cpy rf rf 0 156 12), aI E mh 9 hi, aI E md 9 de]) C kwX9 tyX9 tyX9_ok nmX9 0 rfl rfl 25 (by decide) kfX9_128 rfl rfl rfl (Nat.le_of_ble_eq_true rfl) rfl dX9_restsAt_15 ?_
  refine g_aload_n C dX9_restsAt_18 rfl ?_
  refine g_get C kwX9 0 rfl rfl 0 (by decide) kfX9_7 rfl dX9_restsAt_19 ?_
  refine g_sipush (v := 156) C dX9_restsAt_22 (by decide) ?_
  refine g_iload_n C dX9_restsAt_25 rfl ?_
  refine g_iast (ws' := [(mo, .inr (9, [.ref rw, .int (nI n), .int lg, .int sf, .int dg, .ref mh, .ref md, .int un, .ref mk, .ref mt, .int le, .int sm, .ref z1, .ref z2, .ref z3, .long tr, .int at_, .int be, .int rs, .ref y1, .ref y2, .ref y3, .ref y4, .int nu, .int x1, .int x2, .int sl, .ref ya, .int fpu, .ref yw, .int wn, .ref yp])), aI E rw 168 (upd (va_cpy rf rf 0 156 12) 156 (nI b)), aI E mh 9 hi, aI E md 9 de]) C 1 156 rfl (rfl) (by decide) (by decide) rfl dX9_restsAt_26 ?_
  refine g_aload_n C dX9_restsAt_27 rfl ?_
  refine g_get C kwX9 0 rfl rfl 0 (by decide) kfX9_7 rfl dX9_restsAt_28 ?_
  refine g_sipush (v := 157) C dX9_restsAt_31 (by decide) ?_
  refine g_iload C dX9_restsAt_34 rfl ?_
  refine g_iast (ws' := [(mo, .inr (9, [.ref rw, .int (nI n), .int lg, .int sf, .int dg, .ref mh, .ref md, .int un, .ref mk, .ref mt, .int le, .int sm, .ref z1, .ref z2, .ref z3, .long tr, .int at_, .int be, .int rs, .ref y1, .ref y2, .ref y3, .ref y4, .int nu, .int x1, .int x2, .int sl, .ref ya, .int fpu, .ref yw, .int wn, .ref yp])), aI E rw 168 (upd (upd (va_cpy rf rf 0 156 12) 156 (nI b)) 157 y), aI E mh 9 hi, aI E md 9 de]) C 1 157 rfl (rfl) (by decide) (by decide) rfl dX9_restsAt_36 ?_
  refine g_aload_n C dX9_restsAt_37 rfl ?_
  refine g_callV C (c_X9_runs k.l E mo rw mh md mk mt z1 z2 z3 y1 y2 y3 y4 ya yw yp lg sf dg un le sm tr at_ be rs nu x1 x2 sl fpu wn n hi de (upd (upd (va_cpy rf rf 0 156 12) 156 (nI b)) 157 y) mm b y (by first | assumption | omega) (by omega) (by rw [pk_un (by decide), pk_us]) (pk_us) (fun s hs => by rw [pk_un (by omega), pk_un (by omega), show 159 + s = 156 + (3 + s) by omega, cpyR_in (by omega), show 0 + (3 + s) = 3 + s by omega]; exact hmm s hs) (fun q => absurd q (by omega))) kmX9_166 kiX9_runs ksX9_runs knX9 kcX9_runs ⟨rfl, rfl⟩ ⟨rfl, kdX9_runs⟩ ⟨by decide, by decide⟩ ⟨by decide, by decide⟩ [0, 1, 2, 3] [] rfl (wr := []) rfl (by decide +kernel) (by decide +kernel) (by decide +kernel) 0 9 rfl rfl rfl (As := []) (rest := []) rfl (Nat.le_of_ble_eq_true rfl) dX9_restsAt_38 (fun rv_ rw_ hp_ => ?_)
  obtain ⟨rf2_1, rfl, rfl, g0, g2⟩ := hp_
  refine g_rep [0, 1, 2, 3] (ws' := [(mo, .inr (9, [.ref rw, .int (nI n), .int lg, .int sf, .int dg, .ref mh, .ref md, .int un, .ref mk, .ref mt, .int le, .int sm, .ref z1, .ref z2, .ref z3, .long tr, .int at_, .int be, .int rs, .ref y1, .ref y2, .ref y3, .ref y4, .int nu, .int x1, .int x2, .int ((runF n hi de mm lg x1 x2 9 b y sl 0).2.2.1), .ref ya, .int fpu, .ref yw, .int wn, .ref yp])), aI E rw 168 rf2_1, aI E mh 9 hi, aI E md 9 de]) (st' := [.int ((runF n hi de mm lg x1 x2 9 b y sl 0).2.2.2)]) (n' := 0) (z' := 0) (pc' := 41) rfl rfl rfl rfl (by decide +kernel) rfl ?_
  refine g_pop C dX9_restsAt_41 rfl ?_
  refine g_aload_n C dX9_restsAt_42 rfl ?_
  refine g_get C kwX9 0 rfl rfl 0 (by decide) kfX9_7 rfl dX9_restsAt_43 ?_
  refine g_sipush (v := 156) C dX9_restsAt_46 (by decide) ?_
  refine g_iald C 1 156 rfl (rfl) (by decide) (by decide) dX9_restsAt_49 ?_
  refine g_topi (v := nI (runF n hi de mm lg x1 x2 9 b y 0 0).1) (by rw [g0, runF_ind 9 b y sl 0 0 0]) ?_
  exact g_iret C hR (⟨_, _, _, _, rfl, rfl, fun i q => by rw [g2 _ (Or.inl q), pk_un (by omega), pk_un (by omega), cpyR_out (by omega)]⟩) dX9_restsAt_50

set_option maxHeartbeats 4000000 in
set_option maxRecDepth 100000 in
theorem lp0_X9_isWay {k : KX} {E : EX} (C : Cx k E cX9_isWay RX9 (rmL 6 0 0)) (hnl : ∀ j : Nat, j < 5 → j < k.nL) {mo : Nat} {rw : Nat} {mh : Nat} {md : Nat} {mk : Nat} {mt : Nat} {z1 : Nat} {z2 : Nat} {z3 : Nat} {y1 : Nat} {y2 : Nat} {y3 : Nat} {y4 : Nat} {ya : Nat} {yw : Nat} {yp : Nat} {lg : Int32} {sf : Int32} {dg : Int32} {un : Int32} {le : Int32} {tr : Int64} {at_ : Int32} {be : Int32} {rs : Int32} {nu : Int32} {fpu : Int32} {wn : Int32} {n : Nat} {hi : Nat → Int32} {de : Nat → Int32} {mm : Nat → Int32} {m : Nat} {bs : Nat → Nat} {e1 : Nat → Int32} {e2 : Nat → Int32} {e3 : Nat → Int32} {x1 : Int32} {x2 : Int32} (hn : n ≤ 9) (hm6 : m ≤ 6) (hbs : ∀ j, j < m → e1 j = nI (bs j) ∧ bs j < n) {t : Bool} {rz : Nat → Int32} (hR : Rt k E (fun (rv_ : Option Value) (rw_ : va_W) => ∃ (rf2 : Nat → Int32) (os2 : Int32) (od2 : Int32) (sl2 : Int32), rv_ = some (.int (bI (t = true))) ∧ rw_ = [(mo, .inr (9, [.ref rw, .int (nI n), .int lg, .int sf, .int dg, .ref mh, .ref md, .int un, .ref mk, .ref mt, .int le, .int (nI m), .ref z1, .ref z2, .ref z3, .long tr, .int at_, .int be, .int rs, .ref y1, .ref y2, .ref y3, .ref y4, .int nu, .int os2, .int od2, .int sl2, .ref ya, .int fpu, .ref yw, .int wn, .ref yp])), aI E rw 168 rf2, aI E mh 9 hi, aI E md 9 de, aI E z1 6 e1, aI E z2 6 e2, aI E z3 6 e3] ∧ (∀ i, i < 156 → rf2 i = rz i)) 0 0 (some .boolean)) : ∀ (f i : Nat) (rf : Nat → Int32) (os od sl : Int32), i + f = m → false = t → (∀ i, i < 156 → rf i = rz i) → G k E 0 0 5 [some (.ref mo), some (.int x1), some (.int x2), some (.int 0), some (.int (nI i))] [] [(mo, .inr (9, [.ref rw, .int (nI n), .int lg, .int sf, .int dg, .ref mh, .ref md, .int un, .ref mk, .ref mt, .int le, .int (nI m), .ref z1, .ref z2, .ref z3, .long tr, .int at_, .int be, .int rs, .ref y1, .ref y2, .ref y3, .ref y4, .int nu, .int os, .int od, .int sl, .ref ya, .int fpu, .ref yw, .int wn, .ref yp])), aI E rw 168 rf, aI E mh 9 hi, aI E md 9 de, aI E z1 6 e1, aI E z2 6 e2, aI E z3 6 e3] := by
  intro f
  induction f with
  | zero =>
    intro i rf os od sl hi_ ht hrz
    subst ht
    refine g_iload C dX9_isWay_5 rfl ?_
    refine g_aload_n C dX9_isWay_7 rfl ?_
    refine g_get C kwX9 0 rfl rfl 11 (by decide) kfX9_119 rfl dX9_isWay_8 ?_
    refine g_icmp_ge (tgt := 60) C dX9_isWay_11 (by decide) (fun c11 => ?_) (fun c11 => ?_)
    · skip
      refine g_iload_n C dX9_isWay_60 rfl ?_
      exact g_zret C hR (by first | exact Or.inl rfl | exact Or.inr rfl | exact bI01 _) (⟨_, _, _, _, rfl, rfl, hrz⟩) dX9_isWay_61
    · skip
      exact absurd ((nI_leI (by omega) (by omega)).mpr (by omega)) c11
  | succ f ih =>
    intro i rf os od sl hi_ ht hrz
    refine g_iload C dX9_isWay_5 rfl ?_
    refine g_aload_n C dX9_isWay_7 rfl ?_
    refine g_get C kwX9 0 rfl rfl 11 (by decide) kfX9_119 rfl dX9_isWay_8 ?_
    refine g_icmp_ge (tgt := 60) C dX9_isWay_11 (by decide) (fun c11 => ?_) (fun c11 => ?_)
    · skip
      exact absurd (nx_ge (by omega) (by omega) c11) (by omega)
    · skip
      refine g_iload_n C dX9_isWay_14 rfl ?_
      refine g_if_eq (tgt := 52) C dX9_isWay_15 (by decide) (fun c15 => ?_) (fun c15 => ?_)
      · skip
        refine g_iconst (v := 0) C dX9_isWay_52 (by decide) ?_
        refine g_istore_n (lv' := [some (.ref mo), some (.int x1), some (.int x2), some (.int 0), some (.int (nI i))]) C dX9_isWay_53 (hnl 3 (by decide)) rfl rfl ?_
        refine g_iinc (v := nI (i + 1)) (lv' := [some (.ref mo), some (.int x1), some (.int x2), some (.int 0), some (.int (nI (i + 1)))]) C dX9_isWay_54 rfl (nI_add _ 1) (hnl 4 (by decide)) rfl rfl ?_
        refine g_goto (tgt := 5) C dX9_isWay_57 (by decide) ?_
        exact ih (i + 1) _ _ _ _ (by omega) ht hrz
      · skip
        exact absurd rfl c15

set_option maxHeartbeats 4000000 in
set_option maxRecDepth 100000 in
theorem lp1_X9_isWay {k : KX} {E : EX} (C : Cx k E cX9_isWay RX9 (rmL 6 0 0)) (hnl : ∀ j : Nat, j < 5 → j < k.nL) {mo : Nat} {rw : Nat} {mh : Nat} {md : Nat} {mk : Nat} {mt : Nat} {z1 : Nat} {z2 : Nat} {z3 : Nat} {y1 : Nat} {y2 : Nat} {y3 : Nat} {y4 : Nat} {ya : Nat} {yw : Nat} {yp : Nat} {lg : Int32} {sf : Int32} {dg : Int32} {un : Int32} {le : Int32} {tr : Int64} {at_ : Int32} {be : Int32} {rs : Int32} {nu : Int32} {fpu : Int32} {wn : Int32} {n : Nat} {hi : Nat → Int32} {de : Nat → Int32} {mm : Nat → Int32} {m : Nat} {bs : Nat → Nat} {e1 : Nat → Int32} {e2 : Nat → Int32} {e3 : Nat → Int32} {x1 : Int32} {x2 : Int32} (hn : n ≤ 9) (hm6 : m ≤ 6) (hbs : ∀ j, j < m → e1 j = nI (bs j) ∧ bs j < n) {t : Bool} {rz : Nat → Int32} (hR : Rt k E (fun (rv_ : Option Value) (rw_ : va_W) => ∃ (rf2 : Nat → Int32) (os2 : Int32) (od2 : Int32) (sl2 : Int32), rv_ = some (.int (bI (t = true))) ∧ rw_ = [(mo, .inr (9, [.ref rw, .int (nI n), .int lg, .int sf, .int dg, .ref mh, .ref md, .int un, .ref mk, .ref mt, .int le, .int (nI m), .ref z1, .ref z2, .ref z3, .long tr, .int at_, .int be, .int rs, .ref y1, .ref y2, .ref y3, .ref y4, .int nu, .int os2, .int od2, .int sl2, .ref ya, .int fpu, .ref yw, .int wn, .ref yp])), aI E rw 168 rf2, aI E mh 9 hi, aI E md 9 de, aI E z1 6 e1, aI E z2 6 e2, aI E z3 6 e3] ∧ (∀ i, i < 156 → rf2 i = rz i)) 0 0 (some .boolean)) : ∀ (f i : Nat) (rf : Nat → Int32) (os od sl : Int32), i + f = m → exB n hi de mm lg bs e2 e3 x1 x2 f i = t → (∀ s, s < 9 → rf (3 + s) = mm s) → (∀ i, i < 156 → rf i = rz i) → G k E 0 0 5 [some (.ref mo), some (.int x1), some (.int x2), some (.int 1), some (.int (nI i))] [] [(mo, .inr (9, [.ref rw, .int (nI n), .int lg, .int sf, .int dg, .ref mh, .ref md, .int un, .ref mk, .ref mt, .int le, .int (nI m), .ref z1, .ref z2, .ref z3, .long tr, .int at_, .int be, .int rs, .ref y1, .ref y2, .ref y3, .ref y4, .int nu, .int os, .int od, .int sl, .ref ya, .int fpu, .ref yw, .int wn, .ref yp])), aI E rw 168 rf, aI E mh 9 hi, aI E md 9 de, aI E z1 6 e1, aI E z2 6 e2, aI E z3 6 e3] := by
  intro f
  induction f with
  | zero =>
    intro i rf os od sl hi_ ht hmm hrz
    refine g_iload C dX9_isWay_5 rfl ?_
    refine g_aload_n C dX9_isWay_7 rfl ?_
    refine g_get C kwX9 0 rfl rfl 11 (by decide) kfX9_119 rfl dX9_isWay_8 ?_
    refine g_icmp_ge (tgt := 60) C dX9_isWay_11 (by decide) (fun c11 => ?_) (fun c11 => ?_)
    · skip
      refine g_iload_n C dX9_isWay_60 rfl ?_
      exact g_zret C hR (by first | exact Or.inl rfl | exact Or.inr rfl | exact bI01 _) (⟨_, _, _, _, by rw [← ht]; rfl, rfl, hrz⟩) dX9_isWay_61
    · skip
      exact absurd ((nI_leI (by omega) (by omega)).mpr (by omega)) c11
  | succ f ih =>
    intro i rf os od sl hi_ ht hmm hrz
    unfold exB at ht
    have hb := hbs i (by omega)
    refine g_iload C dX9_isWay_5 rfl ?_
    refine g_aload_n C dX9_isWay_7 rfl ?_
    refine g_get C kwX9 0 rfl rfl 11 (by decide) kfX9_119 rfl dX9_isWay_8 ?_
    refine g_icmp_ge (tgt := 60) C dX9_isWay_11 (by decide) (fun c11 => ?_) (fun c11 => ?_)
    · skip
      exact absurd (nx_ge (by omega) (by omega) c11) (by omega)
    · skip
      refine g_iload_n C dX9_isWay_14 rfl ?_
      refine g_if_eq (tgt := 52) C dX9_isWay_15 (by decide) (fun c15 => ?_) (fun c15 => ?_)
      · skip
        exact absurd c15 (by decide)
      · skip
        refine g_aload_n C dX9_isWay_18 rfl ?_
        refine g_iload_n C dX9_isWay_19 rfl ?_
        refine g_iload_n C dX9_isWay_20 rfl ?_
        refine g_aload_n C dX9_isWay_21 rfl ?_
        refine g_get C kwX9 0 rfl rfl 12 (by decide) kfX9_36 rfl dX9_isWay_22 ?_
        refine g_iload C dX9_isWay_25 rfl ?_
        refine g_iald C 4 i rfl (rfl) (by omega) (by decide) dX9_isWay_27 ?_
        refine g_topi (v := nI (bs i)) (hb.1) ?_
        refine g_aload_n C dX9_isWay_28 rfl ?_
        refine g_get C kwX9 0 rfl rfl 13 (by decide) kfX9_39 rfl dX9_isWay_29 ?_
        refine g_iload C dX9_isWay_32 rfl ?_
        refine g_iald C 5 i rfl (rfl) (by omega) (by decide) dX9_isWay_34 ?_
        refine g_callV C (c_X9_restsAt k.l E mo rw mh md mk mt z1 z2 z3 y1 y2 y3 y4 ya yw yp lg sf dg un le (nI m) tr at_ be rs nu os od sl fpu wn n hi de rf mm x1 x2 (bs i) (e2 i) (by first | assumption | omega) (hb.2) (by first | assumption | omega)) kmX9_178 kiX9_restsAt ksX9_restsAt knX9 kcX9_restsAt ⟨rfl, rfl⟩ ⟨rfl, kdX9_restsAt⟩ ⟨by decide, by decide⟩ ⟨by decide, by decide⟩ [0, 1, 2, 3] [4, 5, 6] rfl (wr := [aI E z1 6 e1, aI E z2 6 e2, aI E z3 6 e3]) rfl (by decide +kernel) (by decide +kernel) (by decide +kernel) 0 9 rfl rfl rfl (As := [.int x1, .int x2, .int (nI (bs i)), .int (e2 i)]) (rest := []) rfl (Nat.le_of_ble_eq_true rfl) dX9_isWay_35 (fun rv_ rw_ hp_ => ?_)
        obtain ⟨rf2_1, os2_2, od2_3, sl2_4, rfl, rfl, g2⟩ := hp_
        refine g_rep [3, 4, 5, 6, 0, 1, 2] (ws' := [(mo, .inr (9, [.ref rw, .int (nI n), .int lg, .int sf, .int dg, .ref mh, .ref md, .int un, .ref mk, .ref mt, .int le, .int (nI m), .ref z1, .ref z2, .ref z3, .long tr, .int at_, .int be, .int rs, .ref y1, .ref y2, .ref y3, .ref y4, .int nu, .int os2_2, .int od2_3, .int sl2_4, .ref ya, .int fpu, .ref yw, .int wn, .ref yp])), aI E rw 168 rf2_1, aI E mh 9 hi, aI E md 9 de, aI E z1 6 e1, aI E z2 6 e2, aI E z3 6 e3]) (st' := [.int (nI (runF n hi de mm lg x1 x2 9 (bs i) (e2 i) 0 0).1)]) (n' := 0) (z' := 0) (pc' := 38) rfl rfl rfl rfl (by decide +kernel) rfl ?_
        refine g_aload_n C dX9_isWay_38 rfl ?_
        refine g_get C kwX9 0 rfl rfl 14 (by decide) kfX9_42 rfl dX9_isWay_39 ?_
        refine g_iload C dX9_isWay_42 rfl ?_
        refine g_iald C 6 i rfl (rfl) (by omega) (by decide) dX9_isWay_44 ?_
        refine g_icmp_ne (tgt := 52) C dX9_isWay_45 (by decide) (fun c45 => ?_) (fun c45 => ?_)
        · skip
          rw [if_neg c45] at ht
          refine g_iconst (v := 0) C dX9_isWay_52 (by decide) ?_
          refine g_istore_n (lv' := [some (.ref mo), some (.int x1), some (.int x2), some (.int 0), some (.int (nI i))]) C dX9_isWay_53 (hnl 3 (by decide)) rfl rfl ?_
          refine g_iinc (v := nI (i + 1)) (lv' := [some (.ref mo), some (.int x1), some (.int x2), some (.int 0), some (.int (nI (i + 1)))]) C dX9_isWay_54 rfl (nI_add _ 1) (hnl 4 (by decide)) rfl rfl ?_
          refine g_goto (tgt := 5) C dX9_isWay_57 (by decide) ?_
          exact lp0_X9_isWay (mm := mm) C hnl hn hm6 hbs hR f (i + 1) _ _ _ _ (by omega) ht (fun i q => by rw [g2 _ q]; exact hrz i q)
        · skip
          rw [if_pos c45] at ht
          refine g_iconst (v := 1) C dX9_isWay_48 (by decide) ?_
          refine g_goto (tgt := 53) C dX9_isWay_49 (by decide) ?_
          refine g_istore_n (lv' := [some (.ref mo), some (.int x1), some (.int x2), some (.int 1), some (.int (nI i))]) C dX9_isWay_53 (hnl 3 (by decide)) rfl rfl ?_
          refine g_iinc (v := nI (i + 1)) (lv' := [some (.ref mo), some (.int x1), some (.int x2), some (.int 1), some (.int (nI (i + 1)))]) C dX9_isWay_54 rfl (nI_add _ 1) (hnl 4 (by decide)) rfl rfl ?_
          refine g_goto (tgt := 5) C dX9_isWay_57 (by decide) ?_
          exact ih (i + 1) _ _ _ _ (by omega) ht (fun s hs => by rw [g2 _ (by omega)]; exact hmm s hs) (fun i q => by rw [g2 _ q]; exact hrz i q)

set_option maxHeartbeats 4000000 in
set_option maxRecDepth 100000 in
theorem c_X9_isWay (l : Launch) (E : EX) (mo : Nat) (rw : Nat) (mh : Nat) (md : Nat) (mk : Nat) (mt : Nat) (z1 : Nat) (z2 : Nat) (z3 : Nat) (y1 : Nat) (y2 : Nat) (y3 : Nat) (y4 : Nat) (ya : Nat) (yw : Nat) (yp : Nat) (lg : Int32) (sf : Int32) (dg : Int32) (un : Int32) (le : Int32) (tr : Int64) (at_ : Int32) (be : Int32) (rs : Int32) (nu : Int32) (os : Int32) (od : Int32) (sl : Int32) (fpu : Int32) (wn : Int32) (n : Nat) (hi : Nat → Int32) (de : Nat → Int32) (rf : Nat → Int32) (mm : Nat → Int32) (m : Nat) (bs : Nat → Nat) (e1 : Nat → Int32) (e2 : Nat → Int32) (e3 : Nat → Int32) (x1 : Int32) (x2 : Int32) (hn : n ≤ 9) (hm6 : m ≤ 6) (hbs : ∀ j, j < m → e1 j = nI (bs j) ∧ bs j < n) (hmm : ∀ s, s < 9 → rf (3 + s) = mm s) : Ct l E yX9_isWay cX9_isWay 5 (some .boolean) (rmL 6 0 0) [.ref mo, .int x1, .int x2] [(mo, .inr (9, [.ref rw, .int (nI n), .int lg, .int sf, .int dg, .ref mh, .ref md, .int un, .ref mk, .ref mt, .int le, .int (nI m), .ref z1, .ref z2, .ref z3, .long tr, .int at_, .int be, .int rs, .ref y1, .ref y2, .ref y3, .ref y4, .int nu, .int os, .int od, .int sl, .ref ya, .int fpu, .ref yw, .int wn, .ref yp])), aI E rw 168 rf, aI E mh 9 hi, aI E md 9 de, aI E z1 6 e1, aI E z2 6 e2, aI E z3 6 e3] (fun (rv_ : Option Value) (rw_ : va_W) => ∃ (rf2 : Nat → Int32) (os2 : Int32) (od2 : Int32) (sl2 : Int32), rv_ = some (.int (bI (exB n hi de mm lg bs e2 e3 x1 x2 m 0 = true))) ∧ rw_ = [(mo, .inr (9, [.ref rw, .int (nI n), .int lg, .int sf, .int dg, .ref mh, .ref md, .int un, .ref mk, .ref mt, .int le, .int (nI m), .ref z1, .ref z2, .ref z3, .long tr, .int at_, .int be, .int rs, .ref y1, .ref y2, .ref y3, .ref y4, .int nu, .int os2, .int od2, .int sl2, .ref ya, .int fpu, .ref yw, .int wn, .ref yp])), aI E rw 168 rf2, aI E mh 9 hi, aI E md 9 de, aI E z1 6 e1, aI E z2 6 e2, aI E z3 6 e3] ∧ (∀ i, i < 156 → rf2 i = rf i)) 0 0 := by
  refine Ct_of (by decide) (Nat.le_of_ble_eq_true rfl) ?_
  intro k hkl hnl C hR hin_
  subst hkl
  show G k E 0 0 0 [some (.ref mo), some (.int x1), some (.int x2), none, none] [] [(mo, .inr (9, [.ref rw, .int (nI n), .int lg, .int sf, .int dg, .ref mh, .ref md, .int un, .ref mk, .ref mt, .int le, .int (nI m), .ref z1, .ref z2, .ref z3, .long tr, .int at_, .int be, .int rs, .ref y1, .ref y2, .ref y3, .ref y4, .int nu, .int os, .int od, .int sl, .ref ya, .int fpu, .ref yw, .int wn, .ref yp])), aI E rw 168 rf, aI E mh 9 hi, aI E md 9 de, aI E z1 6 e1, aI E z2 6 e2, aI E z3 6 e3]
  refine g_iconst (v := 1) C dX9_isWay_0 (by decide) ?_
  refine g_istore_n (lv' := [some (.ref mo), some (.int x1), some (.int x2), some (.int 1), none]) C dX9_isWay_1 (hnl 3 (by decide)) rfl rfl ?_
  refine g_iconst (v := 0) C dX9_isWay_2 (by decide) ?_
  refine g_istore (lv' := [some (.ref mo), some (.int x1), some (.int x2), some (.int 1), some (.int 0)]) C dX9_isWay_3 (hnl 4 (by decide)) rfl rfl ?_
  exact lp1_X9_isWay C hnl hn hm6 hbs hR m 0 rf os od sl (by omega) rfl hmm (fun _ _ => rfl)

set_option maxHeartbeats 4000000 in
set_option maxRecDepth 100000 in
theorem lp_X9_layWays {k : KX} {E : EX} (C : Cx k E cX9_layWays RX9 (rmL 7 0 0)) (hnl : ∀ j : Nat, j < 2 → j < k.nL) {mo : Nat} {rw : Nat} {mh : Nat} {md : Nat} {mk : Nat} {mt : Nat} {z1 : Nat} {z2 : Nat} {z3 : Nat} {y1 : Nat} {y2 : Nat} {y3 : Nat} {y4 : Nat} {ya : Nat} {yw : Nat} {yp : Nat} {lg : Int32} {sf : Int32} {dg : Int32} {un : Int32} {le : Int32} {tr : Int64} {at_ : Int32} {be : Int32} {rs : Int32} {nu : Int32} {fpu : Int32} {n : Nat} {hi : Nat → Int32} {de : Nat → Int32} {mm : Nat → Int32} {m : Nat} {bs : Nat → Nat} {e1 : Nat → Int32} {e2 : Nat → Int32} {e3 : Nat → Int32} (hn : n ≤ 9) (hm6 : m ≤ 6) (hbs : ∀ j, j < m → e1 j = nI (bs j) ∧ bs j < n) {rz : Nat → Int32} (hR : Rt k E (fun (rv_ : Option Value) (rw_ : va_W) => ∃ (c2 : Nat) (fw2 : Nat → Int32) (rf2 : Nat → Int32) (os2 : Int32) (od2 : Int32) (sl2 : Int32), rv_ = none ∧ rw_ = [(mo, .inr (9, [.ref rw, .int (nI n), .int lg, .int sf, .int dg, .ref mh, .ref md, .int un, .ref mk, .ref mt, .int le, .int (nI m), .ref z1, .ref z2, .ref z3, .long tr, .int at_, .int be, .int rs, .ref y1, .ref y2, .ref y3, .ref y4, .int nu, .int os2, .int od2, .int sl2, .ref ya, .int fpu, .ref yw, .int (nI c2), .ref yp])), aI E rw 168 rf2, aI E mh 9 hi, aI E md 9 de, aI E z1 6 e1, aI E z2 6 e2, aI E z3 6 e3, aI E yw 36 fw2] ∧ (wayInvM (WW n hi de mm lg bs e2 e3 m) 36 c2 fw2) ∧ (∀ i, i < 156 → rf2 i = rz i)) 0 0 none) : ∀ (f j c0 : Nat) (fw : Nat → Int32) (rf : Nat → Int32) (os od sl : Int32), j + f = 36 → wayInvM (WW n hi de mm lg bs e2 e3 m) j c0 fw → (∀ s, s < 9 → rf (3 + s) = mm s) → (∀ i, i < 156 → rf i = rz i) → G k E 0 0 7 [some (.ref mo), some (.int (nI j))] [] [(mo, .inr (9, [.ref rw, .int (nI n), .int lg, .int sf, .int dg, .ref mh, .ref md, .int un, .ref mk, .ref mt, .int le, .int (nI m), .ref z1, .ref z2, .ref z3, .long tr, .int at_, .int be, .int rs, .ref y1, .ref y2, .ref y3, .ref y4, .int nu, .int os, .int od, .int sl, .ref ya, .int fpu, .ref yw, .int (nI c0), .ref yp])), aI E rw 168 rf, aI E mh 9 hi, aI E md 9 de, aI E z1 6 e1, aI E z2 6 e2, aI E z3 6 e3, aI E yw 36 fw] := by
  intro f
  induction f with
  | zero =>
    intro j c0 fw rf os od sl hj hw hmm hrz
    have e : j = 36 := by omega
    subst e
    refine g_iload_n C dX9_layWays_7 rfl ?_
    refine g_bipush (v := 36) C dX9_layWays_8 (by decide) ?_
    refine g_icmp_ge (tgt := 65) C dX9_layWays_10 (by decide) (fun c10 => ?_) (fun c10 => ?_)
    · skip
      exact g_vret C hR (⟨_, _, _, _, _, _, rfl, rfl, hw, hrz⟩) dX9_layWays_65
    · skip
      exact absurd (by decide) c10
  | succ f ih =>
    intro j c0 fw rf os od sl hj hw hmm hrz
    have hc0 := wayL_len (WW n hi de mm lg bs e2 e3 m) j
    have hc1 := hw.1
    refine g_iload_n C dX9_layWays_7 rfl ?_
    refine g_bipush (v := 36) C dX9_layWays_8 (by decide) ?_
    refine g_icmp_ge (tgt := 65) C dX9_layWays_10 (by decide) (fun c10 => ?_) (fun c10 => ?_)
    · skip
      exact absurd ((nI_leI (a := 36) (by decide) (by omega)).mp c10) (by omega)
    · skip
      refine g_aload_n C dX9_layWays_13 rfl ?_
      refine g_iconst (v := 1) C dX9_layWays_14 (by decide) ?_
      refine g_iload_n C dX9_layWays_15 rfl ?_
      refine g_iconst (v := 4) C dX9_layWays_16 (by decide) ?_
      refine g_idiv C dX9_layWays_17 (by decide) ?_
      refine g_topi (v := nI (j / 4)) (by rw [show (4 : Int32) = nI 4 from rfl, pk_div (by omega) (by decide) (by decide)]) ?_
      refine g_iadd C dX9_layWays_18 ?_
      refine g_topi (v := nI (1 + j / 4)) (nI_add 1 _) ?_
      refine g_iload_n C dX9_layWays_19 rfl ?_
      refine g_iconst (v := 4) C dX9_layWays_20 (by decide) ?_
      refine g_irem C dX9_layWays_21 (by decide) ?_
      refine g_topi (v := nI (j % 4)) (by rw [show (4 : Int32) = nI 4 from rfl, pk_rem (by omega) (by decide) (by decide)]) ?_
      refine g_callV C (c_X9_isWay k.l E mo rw mh md mk mt z1 z2 z3 y1 y2 y3 y4 ya yw yp lg sf dg un le tr at_ be rs nu os od sl fpu (nI c0) n hi de rf mm m bs e1 e2 e3 (nI (1 + j / 4)) (nI (j % 4)) (by first | assumption | omega) (by first | assumption | omega) (by first | assumption | omega) (by first | assumption | omega)) kmX9_185 kiX9_isWay ksX9_isWay knX9 kcX9_isWay ⟨rfl, rfl⟩ ⟨rfl, kdX9_isWay⟩ ⟨by decide, by decide⟩ ⟨by decide, by decide⟩ [0, 1, 2, 3, 4, 5, 6] [7] rfl (wr := [aI E yw 36 fw]) rfl (by decide +kernel) (by decide +kernel) (by decide +kernel) 0 9 rfl rfl rfl (As := [.int (nI (1 + j / 4)), .int (nI (j % 4))]) (rest := []) rfl (Nat.le_of_ble_eq_true rfl) dX9_layWays_22 (fun rv_ rw_ hp_ => ?_)
      obtain ⟨rf2_1, os2_2, od2_3, sl2_4, rfl, rfl, g2⟩ := hp_
      refine g_rep [1, 2, 3, 4, 5, 6, 7, 0] (ws' := [(mo, .inr (9, [.ref rw, .int (nI n), .int lg, .int sf, .int dg, .ref mh, .ref md, .int un, .ref mk, .ref mt, .int le, .int (nI m), .ref z1, .ref z2, .ref z3, .long tr, .int at_, .int be, .int rs, .ref y1, .ref y2, .ref y3, .ref y4, .int nu, .int os2_2, .int od2_3, .int sl2_4, .ref ya, .int fpu, .ref yw, .int (nI c0), .ref yp])), aI E rw 168 rf2_1, aI E mh 9 hi, aI E md 9 de, aI E z1 6 e1, aI E z2 6 e2, aI E z3 6 e3, aI E yw 36 fw]) (st' := [.int (bI (exB n hi de mm lg bs e2 e3 (nI (1 + j / 4)) (nI (j % 4)) m 0 = true))]) (n' := 0) (z' := 0) (pc' := 25) rfl rfl rfl rfl (by decide +kernel) rfl ?_
      refine g_if_eq (tgt := 59) C dX9_layWays_25 (by decide) (fun c25 => ?_) (fun c25 => ?_)
      · skip
        have hW : ¬ (WW n hi de mm lg bs e2 e3 m) j = true := bI_0 c25
        refine g_iinc (v := nI (j + 1)) (lv' := [some (.ref mo), some (.int (nI (j + 1)))]) C dX9_layWays_59 rfl (nI_add _ 1) (hnl 1 (by decide)) rfl rfl ?_
        refine g_goto (tgt := 7) C dX9_layWays_62 (by decide) ?_
        exact ih (j + 1) _ _ _ _ _ _ (by omega) (wayInvM_no hw hW) (fun s hs => by rw [g2 _ (by omega)]; exact hmm s hs) (fun i q => by rw [g2 _ q]; exact hrz i q)
      · skip
        have hW : (WW n hi de mm lg bs e2 e3 m) j = true := bI_1 c25
        refine g_aload_n C dX9_layWays_28 rfl ?_
        refine g_get C kwX9 0 rfl rfl 29 (by decide) kfX9_60 rfl dX9_layWays_29 ?_
        refine g_aload_n C dX9_layWays_32 rfl ?_
        refine g_get C kwX9 0 rfl rfl 30 (by decide) kfX9_182 rfl dX9_layWays_33 ?_
        refine g_bipush (v := 10) C dX9_layWays_36 (by decide) ?_
        refine g_iconst (v := 1) C dX9_layWays_38 (by decide) ?_
        refine g_iload_n C dX9_layWays_39 rfl ?_
        refine g_iconst (v := 4) C dX9_layWays_40 (by decide) ?_
        refine g_idiv C dX9_layWays_41 (by decide) ?_
        refine g_topi (v := nI (j / 4)) (by rw [show (4 : Int32) = nI 4 from rfl, pk_div (by omega) (by decide) (by decide)]) ?_
        refine g_iadd C dX9_layWays_42 ?_
        refine g_topi (v := nI (1 + j / 4)) (nI_add 1 _) ?_
        refine g_imul C dX9_layWays_43 ?_
        refine g_topi (v := nI (10 * (1 + j / 4))) (pk_mul 10 _) ?_
        refine g_iload_n C dX9_layWays_44 rfl ?_
        refine g_iconst (v := 4) C dX9_layWays_45 (by decide) ?_
        refine g_irem C dX9_layWays_46 (by decide) ?_
        refine g_topi (v := nI (j % 4)) (by rw [show (4 : Int32) = nI 4 from rfl, pk_rem (by omega) (by decide) (by decide)]) ?_
        refine g_iadd C dX9_layWays_47 ?_
        refine g_topi (v := nI (10 * (1 + j / 4) + j % 4)) (nI_add _ _) ?_
        refine g_iast (ws' := [(mo, .inr (9, [.ref rw, .int (nI n), .int lg, .int sf, .int dg, .ref mh, .ref md, .int un, .ref mk, .ref mt, .int le, .int (nI m), .ref z1, .ref z2, .ref z3, .long tr, .int at_, .int be, .int rs, .ref y1, .ref y2, .ref y3, .ref y4, .int nu, .int os2_2, .int od2_3, .int sl2_4, .ref ya, .int fpu, .ref yw, .int (nI c0), .ref yp])), aI E rw 168 rf2_1, aI E mh 9 hi, aI E md 9 de, aI E z1 6 e1, aI E z2 6 e2, aI E z3 6 e3, aI E yw 36 (upd fw c0 (nI (10 * (1 + j / 4) + j % 4)))]) C 7 c0 rfl (rfl) (by omega) (by decide) rfl dX9_layWays_48 ?_
        refine g_aload_n C dX9_layWays_49 rfl ?_
        refine g_dup C dX9_layWays_50 rfl ?_
        refine g_get C kwX9 0 rfl rfl 30 (by decide) kfX9_182 rfl dX9_layWays_51 ?_
        refine g_iconst (v := 1) C dX9_layWays_54 (by decide) ?_
        refine g_iadd C dX9_layWays_55 ?_
        refine g_topi (v := nI (c0 + 1)) (nI_1 c0) ?_
        refine g_put (ws' := [(mo, .inr (9, [.ref rw, .int (nI n), .int lg, .int sf, .int dg, .ref mh, .ref md, .int un, .ref mk, .ref mt, .int le, .int (nI m), .ref z1, .ref z2, .ref z3, .long tr, .int at_, .int be, .int rs, .ref y1, .ref y2, .ref y3, .ref y4, .int nu, .int os2_2, .int od2_3, .int sl2_4, .ref ya, .int fpu, .ref yw, .int (nI (c0 + 1)), .ref yp])), aI E rw 168 rf2_1, aI E mh 9 hi, aI E md 9 de, aI E z1 6 e1, aI E z2 6 e2, aI E z3 6 e3, aI E yw 36 (upd fw c0 (nI (10 * (1 + j / 4) + j % 4)))]) C kwX9 tyX9 tyX9_ok nmX9 0 rfl rfl 30 (by decide) kfX9_182 rfl rfl rfl (Nat.le_of_ble_eq_true rfl) rfl dX9_layWays_56 ?_
        refine g_iinc (v := nI (j + 1)) (lv' := [some (.ref mo), some (.int (nI (j + 1)))]) C dX9_layWays_59 rfl (nI_add _ 1) (hnl 1 (by decide)) rfl rfl ?_
        refine g_goto (tgt := 7) C dX9_layWays_62 (by decide) ?_
        exact ih (j + 1) _ _ _ _ _ _ (by omega) (wayInvM_yes hw hW) (fun s hs => by rw [g2 _ (by omega)]; exact hmm s hs) (fun i q => by rw [g2 _ q]; exact hrz i q)

set_option maxHeartbeats 4000000 in
set_option maxRecDepth 100000 in
theorem c_X9_layWays (l : Launch) (E : EX) (mo : Nat) (rw : Nat) (mh : Nat) (md : Nat) (mk : Nat) (mt : Nat) (z1 : Nat) (z2 : Nat) (z3 : Nat) (y1 : Nat) (y2 : Nat) (y3 : Nat) (y4 : Nat) (ya : Nat) (yw : Nat) (yp : Nat) (lg : Int32) (sf : Int32) (dg : Int32) (un : Int32) (le : Int32) (tr : Int64) (at_ : Int32) (be : Int32) (rs : Int32) (nu : Int32) (os : Int32) (od : Int32) (sl : Int32) (fpu : Int32) (wn : Int32) (n : Nat) (hi : Nat → Int32) (de : Nat → Int32) (rf : Nat → Int32) (mm : Nat → Int32) (m : Nat) (bs : Nat → Nat) (e1 : Nat → Int32) (e2 : Nat → Int32) (e3 : Nat → Int32) (fw : Nat → Int32) (hn : n ≤ 9) (hm6 : m ≤ 6) (hbs : ∀ j, j < m → e1 j = nI (bs j) ∧ bs j < n) (hmm : ∀ s, s < 9 → rf (3 + s) = mm s) : Ct l E yX9_layWays cX9_layWays 2 none (rmL 7 0 0) [.ref mo] [(mo, .inr (9, [.ref rw, .int (nI n), .int lg, .int sf, .int dg, .ref mh, .ref md, .int un, .ref mk, .ref mt, .int le, .int (nI m), .ref z1, .ref z2, .ref z3, .long tr, .int at_, .int be, .int rs, .ref y1, .ref y2, .ref y3, .ref y4, .int nu, .int os, .int od, .int sl, .ref ya, .int fpu, .ref yw, .int wn, .ref yp])), aI E rw 168 rf, aI E mh 9 hi, aI E md 9 de, aI E z1 6 e1, aI E z2 6 e2, aI E z3 6 e3, aI E yw 36 fw] (fun (rv_ : Option Value) (rw_ : va_W) => ∃ (c2 : Nat) (fw2 : Nat → Int32) (rf2 : Nat → Int32) (os2 : Int32) (od2 : Int32) (sl2 : Int32), rv_ = none ∧ rw_ = [(mo, .inr (9, [.ref rw, .int (nI n), .int lg, .int sf, .int dg, .ref mh, .ref md, .int un, .ref mk, .ref mt, .int le, .int (nI m), .ref z1, .ref z2, .ref z3, .long tr, .int at_, .int be, .int rs, .ref y1, .ref y2, .ref y3, .ref y4, .int nu, .int os2, .int od2, .int sl2, .ref ya, .int fpu, .ref yw, .int (nI c2), .ref yp])), aI E rw 168 rf2, aI E mh 9 hi, aI E md 9 de, aI E z1 6 e1, aI E z2 6 e2, aI E z3 6 e3, aI E yw 36 fw2] ∧ (wayInvM (WW n hi de mm lg bs e2 e3 m) 36 c2 fw2) ∧ (∀ i, i < 156 → rf2 i = rf i)) 0 0 := by
  refine Ct_of (by decide) (Nat.le_of_ble_eq_true rfl) ?_
  intro k hkl hnl C hR hin_
  subst hkl
  show G k E 0 0 0 [some (.ref mo), none] [] [(mo, .inr (9, [.ref rw, .int (nI n), .int lg, .int sf, .int dg, .ref mh, .ref md, .int un, .ref mk, .ref mt, .int le, .int (nI m), .ref z1, .ref z2, .ref z3, .long tr, .int at_, .int be, .int rs, .ref y1, .ref y2, .ref y3, .ref y4, .int nu, .int os, .int od, .int sl, .ref ya, .int fpu, .ref yw, .int wn, .ref yp])), aI E rw 168 rf, aI E mh 9 hi, aI E md 9 de, aI E z1 6 e1, aI E z2 6 e2, aI E z3 6 e3, aI E yw 36 fw]
  refine g_aload_n C dX9_layWays_0 rfl ?_
  refine g_iconst (v := 0) C dX9_layWays_1 (by decide) ?_
  refine g_put (ws' := [(mo, .inr (9, [.ref rw, .int (nI n), .int lg, .int sf, .int dg, .ref mh, .ref md, .int un, .ref mk, .ref mt, .int le, .int (nI m), .ref z1, .ref z2, .ref z3, .long tr, .int at_, .int be, .int rs, .ref y1, .ref y2, .ref y3, .ref y4, .int nu, .int os, .int od, .int sl, .ref ya, .int fpu, .ref yw, .int 0, .ref yp])), aI E rw 168 rf, aI E mh 9 hi, aI E md 9 de, aI E z1 6 e1, aI E z2 6 e2, aI E z3 6 e3, aI E yw 36 fw]) C kwX9 tyX9 tyX9_ok nmX9 0 rfl rfl 30 (by decide) kfX9_182 rfl rfl rfl (Nat.le_of_ble_eq_true rfl) rfl dX9_layWays_2 ?_
  refine g_iconst (v := 0) C dX9_layWays_5 (by decide) ?_
  refine g_istore_n (lv' := [some (.ref mo), some (.int 0)]) C dX9_layWays_6 (hnl 1 (by decide)) rfl rfl ?_
  exact lp_X9_layWays C hnl hn hm6 hbs hR 36 0 0 fw rf os od sl (by omega) ⟨rfl, fun i h => absurd h (Nat.not_lt_zero _)⟩ hmm (fun _ _ => rfl)

set_option maxHeartbeats 4000000 in
set_option maxRecDepth 100000 in
theorem c_X9_ways (l : Launch) (E : EX) (mo : Nat) (rw : Nat) (mh : Nat) (md : Nat) (mk : Nat) (mt : Nat) (z1 : Nat) (z2 : Nat) (z3 : Nat) (y1 : Nat) (y2 : Nat) (y3 : Nat) (y4 : Nat) (ya : Nat) (yw : Nat) (yp : Nat) (lg : Int32) (sf : Int32) (dg : Int32) (un : Int32) (le : Int32) (tr : Int64) (at_ : Int32) (be : Int32) (rs : Int32) (nu : Int32) (os : Int32) (od : Int32) (sl : Int32) (fpu : Int32) (wn : Int32) (n : Nat) (hi : Nat → Int32) (de : Nat → Int32) (rf : Nat → Int32) (mm : Nat → Int32) (m : Nat) (bs : Nat → Nat) (e1 : Nat → Int32) (e2 : Nat → Int32) (e3 : Nat → Int32) (fw : Nat → Int32) (y : Int32) (hn : n ≤ 9) (hm6 : m ≤ 6) (hbs : ∀ j, j < m → e1 j = nI (bs j) ∧ bs j < n) (hmm : ∀ s, s < 9 → rf (3 + s) = mm s) (hy : 0 ≤ y ∧ y ≤ 1) : Ct l E yX9_ways cX9_ways 2 (some .int) (rmL 8 0 0) [.ref mo, .int y] [(mo, .inr (9, [.ref rw, .int (nI n), .int lg, .int sf, .int dg, .ref mh, .ref md, .int un, .ref mk, .ref mt, .int le, .int (nI m), .ref z1, .ref z2, .ref z3, .long tr, .int at_, .int be, .int rs, .ref y1, .ref y2, .ref y3, .ref y4, .int nu, .int os, .int od, .int sl, .ref ya, .int fpu, .ref yw, .int wn, .ref yp])), aI E rw 168 rf, aI E mh 9 hi, aI E md 9 de, aI E z1 6 e1, aI E z2 6 e2, aI E z3 6 e3, aI E yw 36 fw] (fun (rv_ : Option Value) (rw_ : va_W) => ∃ (c2 : Nat) (fw2 : Nat → Int32) (rf2 : Nat → Int32) (os2 : Int32) (od2 : Int32) (sl2 : Int32), rv_ = some (.int (if y = 0 then nI (wayL (WW n hi de mm lg bs e2 e3 m) 36).length else if (wayL (WW n hi de mm lg bs e2 e3 m) 36).length = 0 then -9 else nI (10 * (1 + (wayL (WW n hi de mm lg bs e2 e3 m) 36).getD 0 0 / 4) + (wayL (WW n hi de mm lg bs e2 e3 m) 36).getD 0 0 % 4))) ∧ rw_ = [(mo, .inr (9, [.ref rw, .int (nI n), .int lg, .int sf, .int dg, .ref mh, .ref md, .int un, .ref mk, .ref mt, .int le, .int (nI m), .ref z1, .ref z2, .ref z3, .long tr, .int at_, .int be, .int rs, .ref y1, .ref y2, .ref y3, .ref y4, .int nu, .int os2, .int od2, .int sl2, .ref ya, .int fpu, .ref yw, .int (nI c2), .ref yp])), aI E rw 168 rf2, aI E mh 9 hi, aI E md 9 de, aI E z1 6 e1, aI E z2 6 e2, aI E z3 6 e3, aI E yw 36 fw2] ∧ (∀ i, i < 156 → rf2 i = rf i)) 0 0 := by
  refine Ct_of (by decide) (Nat.le_of_ble_eq_true rfl) ?_
  intro k hkl hnl C hR hin_
  subst hkl
  show G k E 0 0 0 [some (.ref mo), some (.int y)] [] [(mo, .inr (9, [.ref rw, .int (nI n), .int lg, .int sf, .int dg, .ref mh, .ref md, .int un, .ref mk, .ref mt, .int le, .int (nI m), .ref z1, .ref z2, .ref z3, .long tr, .int at_, .int be, .int rs, .ref y1, .ref y2, .ref y3, .ref y4, .int nu, .int os, .int od, .int sl, .ref ya, .int fpu, .ref yw, .int wn, .ref yp])), aI E rw 168 rf, aI E mh 9 hi, aI E md 9 de, aI E z1 6 e1, aI E z2 6 e2, aI E z3 6 e3, aI E yw 36 fw]
  refine g_iload_n C dX9_ways_0 rfl ?_
  refine g_iconst (v := 0) C dX9_ways_1 (by decide) ?_
  refine g_iconst (v := 1) C dX9_ways_2 (by decide) ?_
  refine g_callS C (c_X9_in k.l E y 0 1) kmX9_69 ktX9_in knX9 kcX9_in ⟨rfl, rfl⟩ kdX9_in ⟨by decide, by decide⟩ ⟨by decide, by decide⟩ [] [0, 1, 2, 3, 4, 5, 6, 7] rfl (wr := [(mo, .inr (9, [.ref rw, .int (nI n), .int lg, .int sf, .int dg, .ref mh, .ref md, .int un, .ref mk, .ref mt, .int le, .int (nI m), .ref z1, .ref z2, .ref z3, .long tr, .int at_, .int be, .int rs, .ref y1, .ref y2, .ref y3, .ref y4, .int nu, .int os, .int od, .int sl, .ref ya, .int fpu, .ref yw, .int wn, .ref yp])), aI E rw 168 rf, aI E mh 9 hi, aI E md 9 de, aI E z1 6 e1, aI E z2 6 e2, aI E z3 6 e3, aI E yw 36 fw]) rfl (by decide +kernel) (by decide +kernel) (by decide +kernel) rfl (As := [.int y, .int 0, .int 1]) (rest := []) rfl (Nat.le_of_ble_eq_true rfl) dX9_ways_3 (fun rv_ rw_ hp_ => ?_)
  obtain ⟨rfl, rfl⟩ := hp_
  refine g_rep [0, 1, 2, 3, 4, 5, 6, 7] (ws' := [(mo, .inr (9, [.ref rw, .int (nI n), .int lg, .int sf, .int dg, .ref mh, .ref md, .int un, .ref mk, .ref mt, .int le, .int (nI m), .ref z1, .ref z2, .ref z3, .long tr, .int at_, .int be, .int rs, .ref y1, .ref y2, .ref y3, .ref y4, .int nu, .int os, .int od, .int sl, .ref ya, .int fpu, .ref yw, .int wn, .ref yp])), aI E rw 168 rf, aI E mh 9 hi, aI E md 9 de, aI E z1 6 e1, aI E z2 6 e2, aI E z3 6 e3, aI E yw 36 fw]) (st' := [.int (bI (0 ≤ y ∧ y ≤ 1))]) (n' := 0) (z' := 0) (pc' := 6) rfl rfl rfl rfl (by decide +kernel) rfl ?_
  refine g_if_ne (tgt := 11) C dX9_ways_6 (by decide) (fun c6 => ?_) (fun c6 => ?_)
  · skip
    refine g_aload_n C dX9_ways_11 rfl ?_
    refine g_callV C (c_X9_layWays k.l E mo rw mh md mk mt z1 z2 z3 y1 y2 y3 y4 ya yw yp lg sf dg un le tr at_ be rs nu os od sl fpu wn n hi de rf mm m bs e1 e2 e3 fw (by first | assumption | omega) (by first | assumption | omega) (by first | assumption | omega) (by first | assumption | omega)) kmX9_188 kiX9_layWays ksX9_layWays knX9 kcX9_layWays ⟨rfl, rfl⟩ ⟨rfl, kdX9_layWays⟩ ⟨by decide, by decide⟩ ⟨by decide, by decide⟩ [0, 1, 2, 3, 4, 5, 6, 7] [] rfl (wr := []) rfl (by decide +kernel) (by decide +kernel) (by decide +kernel) 0 9 rfl rfl rfl (As := []) (rest := []) rfl (Nat.le_of_ble_eq_true rfl) dX9_ways_12 (fun rv_ rw_ hp_ => ?_)
    obtain ⟨cx, fw2_2, rf2_3, os2_4, od2_5, sl2_6, rfl, rfl, hwx, g2⟩ := hp_
    refine g_rep [0, 1, 2, 3, 4, 5, 6, 7] (ws' := [(mo, .inr (9, [.ref rw, .int (nI n), .int lg, .int sf, .int dg, .ref mh, .ref md, .int un, .ref mk, .ref mt, .int le, .int (nI m), .ref z1, .ref z2, .ref z3, .long tr, .int at_, .int be, .int rs, .ref y1, .ref y2, .ref y3, .ref y4, .int nu, .int os2_4, .int od2_5, .int sl2_6, .ref ya, .int fpu, .ref yw, .int (nI cx), .ref yp])), aI E rw 168 rf2_3, aI E mh 9 hi, aI E md 9 de, aI E z1 6 e1, aI E z2 6 e2, aI E z3 6 e3, aI E yw 36 fw2_2]) (st' := []) (n' := 0) (z' := 0) (pc' := 15) rfl rfl rfl rfl (by decide +kernel) rfl ?_
    have hw1 := hwx.1
    have hl36 := wayL_len (WW n hi de mm lg bs e2 e3 m) 36
    refine g_iload_n C dX9_ways_15 rfl ?_
    refine g_if_ne (tgt := 26) C dX9_ways_16 (by decide) (fun c16 => ?_) (fun c16 => ?_)
    · skip
      refine g_aload_n C dX9_ways_26 rfl ?_
      refine g_get C kwX9 0 rfl rfl 30 (by decide) kfX9_182 rfl dX9_ways_27 ?_
      refine g_if_ne (tgt := 38) C dX9_ways_30 (by decide) (fun c30 => ?_) (fun c30 => ?_)
      · skip
        have hz0 : ¬ cx = 0 := fun q => c30 (by rw [q]; rfl)
        refine g_aload_n C dX9_ways_38 rfl ?_
        refine g_get C kwX9 0 rfl rfl 29 (by decide) kfX9_60 rfl dX9_ways_39 ?_
        refine g_iconst (v := 0) C dX9_ways_42 (by decide) ?_
        refine g_iald C 7 0 rfl (rfl) (by decide) (by decide) dX9_ways_43 ?_
        refine g_topi (v := nI (10 * (1 + (wayL (WW n hi de mm lg bs e2 e3 m) 36).getD 0 0 / 4) + (wayL (WW n hi de mm lg bs e2 e3 m) 36).getD 0 0 % 4)) (hwx.2 0 (by omega)) ?_
        exact g_iret C hR (⟨_, _, _, _, _, _, by rw [if_neg c16, if_neg (by omega)], rfl, g2⟩) dX9_ways_44
      · skip
        have hz0 : cx = 0 := (nI_eq (b := 0) (by omega) (by decide)).mp c30
        refine g_bipush (v := (-9)) C dX9_ways_33 (by decide) ?_
        refine g_goto (tgt := 44) C dX9_ways_35 (by decide) ?_
        exact g_iret C hR (⟨_, _, _, _, _, _, by rw [if_neg c16, if_pos (by omega)], rfl, g2⟩) dX9_ways_44
    · skip
      refine g_aload_n C dX9_ways_19 rfl ?_
      refine g_get C kwX9 0 rfl rfl 30 (by decide) kfX9_182 rfl dX9_ways_20 ?_
      refine g_goto (tgt := 44) C dX9_ways_23 (by decide) ?_
      exact g_iret C hR (⟨_, _, _, _, _, _, by rw [if_pos c16, hw1], rfl, g2⟩) dX9_ways_44
  · skip
    exact absurd hy (bI_0 c6)

set_option maxHeartbeats 4000000 in
set_option maxRecDepth 100000 in
theorem c_X9_waysB (l : Launch) (E : EX) (mo : Nat) (rw : Nat) (mh : Nat) (md : Nat) (mk : Nat) (mt : Nat) (z1 : Nat) (z2 : Nat) (z3 : Nat) (y1 : Nat) (y2 : Nat) (y3 : Nat) (y4 : Nat) (ya : Nat) (yw : Nat) (yp : Nat) (st0 : Int32) (lg : Int32) (sf : Int32) (dg : Int32) (un : Int32) (le : Int32) (sm : Int32) (tr : Int64) (at_ : Int32) (be : Int32) (rs : Int32) (nu : Int32) (os : Int32) (od : Int32) (sl : Int32) (fpu : Int32) (wn : Int32) (y : Int32) (hb : ¬ (0 ≤ y ∧ y ≤ 1)) : Ct l E yX9_ways cX9_ways 2 (some .int) (rmL 8 0 0) [.ref mo, .int y] [(mo, .inr (9, [.ref rw, .int st0, .int lg, .int sf, .int dg, .ref mh, .ref md, .int un, .ref mk, .ref mt, .int le, .int sm, .ref z1, .ref z2, .ref z3, .long tr, .int at_, .int be, .int rs, .ref y1, .ref y2, .ref y3, .ref y4, .int nu, .int os, .int od, .int sl, .ref ya, .int fpu, .ref yw, .int wn, .ref yp]))] (fun (rv_ : Option Value) (rw_ : va_W) => rv_ = some (.int (-1)) ∧ rw_ = [(mo, .inr (9, [.ref rw, .int st0, .int lg, .int sf, .int dg, .ref mh, .ref md, .int un, .ref mk, .ref mt, .int le, .int sm, .ref z1, .ref z2, .ref z3, .long tr, .int at_, .int be, .int rs, .ref y1, .ref y2, .ref y3, .ref y4, .int nu, .int os, .int od, .int sl, .ref ya, .int fpu, .ref yw, .int wn, .ref yp]))]) 0 0 := by
  refine Ct_of (by decide) (Nat.le_of_ble_eq_true rfl) ?_
  intro k hkl hnl C hR hin_
  subst hkl
  show G k E 0 0 0 [some (.ref mo), some (.int y)] [] [(mo, .inr (9, [.ref rw, .int st0, .int lg, .int sf, .int dg, .ref mh, .ref md, .int un, .ref mk, .ref mt, .int le, .int sm, .ref z1, .ref z2, .ref z3, .long tr, .int at_, .int be, .int rs, .ref y1, .ref y2, .ref y3, .ref y4, .int nu, .int os, .int od, .int sl, .ref ya, .int fpu, .ref yw, .int wn, .ref yp]))]
  refine g_iload_n C dX9_ways_0 rfl ?_
  refine g_iconst (v := 0) C dX9_ways_1 (by decide) ?_
  refine g_iconst (v := 1) C dX9_ways_2 (by decide) ?_
  refine g_callS C (c_X9_in k.l E y 0 1) kmX9_69 ktX9_in knX9 kcX9_in ⟨rfl, rfl⟩ kdX9_in ⟨by decide, by decide⟩ ⟨by decide, by decide⟩ [] [0] rfl (wr := [(mo, .inr (9, [.ref rw, .int st0, .int lg, .int sf, .int dg, .ref mh, .ref md, .int un, .ref mk, .ref mt, .int le, .int sm, .ref z1, .ref z2, .ref z3, .long tr, .int at_, .int be, .int rs, .ref y1, .ref y2, .ref y3, .ref y4, .int nu, .int os, .int od, .int sl, .ref ya, .int fpu, .ref yw, .int wn, .ref yp]))]) rfl (by decide +kernel) (by decide +kernel) (by decide +kernel) rfl (As := [.int y, .int 0, .int 1]) (rest := []) rfl (Nat.le_of_ble_eq_true rfl) dX9_ways_3 (fun rv_ rw_ hp_ => ?_)
  obtain ⟨rfl, rfl⟩ := hp_
  refine g_rep [0] (ws' := [(mo, .inr (9, [.ref rw, .int st0, .int lg, .int sf, .int dg, .ref mh, .ref md, .int un, .ref mk, .ref mt, .int le, .int sm, .ref z1, .ref z2, .ref z3, .long tr, .int at_, .int be, .int rs, .ref y1, .ref y2, .ref y3, .ref y4, .int nu, .int os, .int od, .int sl, .ref ya, .int fpu, .ref yw, .int wn, .ref yp]))]) (st' := [.int (bI (0 ≤ y ∧ y ≤ 1))]) (n' := 0) (z' := 0) (pc' := 6) rfl rfl rfl rfl (by decide +kernel) rfl ?_
  refine g_if_ne (tgt := 11) C dX9_ways_6 (by decide) (fun c6 => ?_) (fun c6 => ?_)
  · skip
    exact absurd (bI_1 c6) hb
  · skip
    refine g_iconst (v := (-1)) C dX9_ways_9 (by decide) ?_
    exact g_iret C hR (⟨rfl, rfl⟩) dX9_ways_10
