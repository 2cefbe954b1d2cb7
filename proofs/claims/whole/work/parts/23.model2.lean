def bump (x : Int32) : Int32 := if 999 ≤ x then x + 0 else x + 1
theorem nI_ne_lt {a n : Nat} (h : a ≤ n) (hn : n ≤ 9) (e : ¬ nI a = nI n) : a < n := by
  rcases Nat.lt_or_ge a n with q | q
  · exact q
  · have : a = n := by omega
    rw [this] at e
    exact absurd rfl e

set_option maxHeartbeats 4000000 in
set_option maxRecDepth 100000 in
theorem c_X9_flip (l : Launch) (E : EX) (mo : Nat) (rw : Nat) (mh : Nat) (md : Nat) (mk : Nat) (mt : Nat) (z1 : Nat) (z2 : Nat) (z3 : Nat) (y1 : Nat) (y2 : Nat) (y3 : Nat) (y4 : Nat) (ya : Nat) (yw : Nat) (yp : Nat) (lg : Int32) (sf : Int32) (dg : Int32) (un : Int32) (le : Int32) (sm : Int32) (tr : Int64) (at_ : Int32) (be : Int32) (rs : Int32) (nu : Int32) (os : Int32) (od : Int32) (sl : Int32) (fpu : Int32) (wn : Int32) (n : Nat) (hi : Nat → Int32) (de : Nat → Int32) (rf : Nat → Int32) (mm : Nat → Int32) (B : Nat) (a : Nat) (v : Int32) (hn : n ≤ 9) (ha : a < n) (hB : B + 12 ≤ 168) (h0 : rf B = nI a) (h1 : rf (B + 1) = v) (hmm : ∀ s, s < 9 → rf (B + 3 + s) = mm s) : Ct l E yX9_flip cX9_flip 3 none (rmL 3 0 0) [.ref mo, .int (nI B)] [(mo, .inr (9, [.ref rw, .int (nI n), .int lg, .int sf, .int dg, .ref mh, .ref md, .int un, .ref mk, .ref mt, .int le, .int sm, .ref z1, .ref z2, .ref z3, .long tr, .int at_, .int be, .int rs, .ref y1, .ref y2, .ref y3, .ref y4, .int nu, .int os, .int od, .int sl, .ref ya, .int fpu, .ref yw, .int wn, .ref yp])), aI E rw 168 rf, aI E mh 9 hi, aI E md 9 de] (fun (rv_ : Option Value) (rw_ : va_W) => ∃ (rf2 : Nat → Int32), rv_ = none ∧ rw_ = [(mo, .inr (9, [.ref rw, .int (nI n), .int lg, .int sf, .int dg, .ref mh, .ref md, .int un, .ref mk, .ref mt, .int le, .int sm, .ref z1, .ref z2, .ref z3, .long tr, .int at_, .int be, .int rs, .ref y1, .ref y2, .ref y3, .ref y4, .int nu, .int os, .int od, .int ((turnF n hi de mm lg os od a v sl).2.2), .ref ya, .int fpu, .ref yw, .int wn, .ref yp])), aI E rw 168 rf2, aI E mh 9 hi, aI E md 9 de] ∧ (rf2 B = nI (turnF n hi de mm lg os od a v sl).1) ∧ (rf2 (B + 1) = (turnF n hi de mm lg os od a v sl).2.1) ∧ (rf2 (B + 2) = bump (rf (B + 2))) ∧ (∀ i, ¬ i = B → ¬ i = B + 1 → ¬ i = B + 2 → rf2 i = rf i)) 0 0 := by
  refine Ct_of (by decide) (Nat.le_of_ble_eq_true rfl) ?_
  intro k hkl hnl C hR hin_
  subst hkl
  show G k E 0 0 0 [some (.ref mo), some (.int (nI B)), none] [] [(mo, .inr (9, [.ref rw, .int (nI n), .int lg, .int sf, .int dg, .ref mh, .ref md, .int un, .ref mk, .ref mt, .int le, .int sm, .ref z1, .ref z2, .ref z3, .long tr, .int at_, .int be, .int rs, .ref y1, .ref y2, .ref y3, .ref y4, .int nu, .int os, .int od, .int sl, .ref ya, .int fpu, .ref yw, .int wn, .ref yp])), aI E rw 168 rf, aI E mh 9 hi, aI E md 9 de]
  refine g_aload_n C dX9_flip_0 rfl ?_
  refine g_get C kwX9 0 rfl rfl 0 (by decide) kfX9_7 rfl dX9_flip_1 ?_
  refine g_iload_n C dX9_flip_4 rfl ?_
  refine g_iconst (v := 1) C dX9_flip_5 (by decide) ?_
  refine g_iadd C dX9_flip_6 ?_
  refine g_topi (v := nI (B + 1)) (nI_add B 1) ?_
  refine g_iald C 1 (B + 1) rfl (rfl) (by omega) (by decide) dX9_flip_7 ?_
  refine g_topi (v := v) (h1) ?_
  refine g_istore_n (lv' := [some (.ref mo), some (.int (nI B)), some (.int v)]) C dX9_flip_8 (hnl 2 (by decide)) rfl rfl ?_
  refine g_iload_n C dX9_flip_9 rfl ?_
  refine g_aload_n C dX9_flip_10 rfl ?_
  refine g_get C kwX9 0 rfl rfl 24 (by decide) kfX9_125 rfl dX9_flip_11 ?_
  refine g_icmp_ge (tgt := 29) C dX9_flip_14 (by decide) (fun c14 => ?_) (fun c14 => ?_)
  · skip
    have et : turnF n hi de mm lg os od a v sl = landF hi de mm lg od (n - (a + 1)) (a + 1) (asV (v - os + hi a - od)) sl := by unfold turnF; rw [if_pos c14]
    refine g_aload_n C dX9_flip_29 rfl ?_
    refine g_get C kwX9 0 rfl rfl 0 (by decide) kfX9_7 rfl dX9_flip_30 ?_
    refine g_iload_n C dX9_flip_33 rfl ?_
    refine g_iconst (v := 1) C dX9_flip_34 (by decide) ?_
    refine g_iadd C dX9_flip_35 ?_
    refine g_topi (v := nI (B + 1)) (nI_add B 1) ?_
    refine g_iload_n C dX9_flip_36 rfl ?_
    refine g_aload_n C dX9_flip_37 rfl ?_
    refine g_get C kwX9 0 rfl rfl 24 (by decide) kfX9_125 rfl dX9_flip_38 ?_
    refine g_isub C dX9_flip_41 ?_
    refine g_aload_n C dX9_flip_42 rfl ?_
    refine g_get C kwX9 0 rfl rfl 5 (by decide) kfX9_23 rfl dX9_flip_43 ?_
    refine g_aload_n C dX9_flip_46 rfl ?_
    refine g_get C kwX9 0 rfl rfl 0 (by decide) kfX9_7 rfl dX9_flip_47 ?_
    refine g_iload_n C dX9_flip_50 rfl ?_
    refine g_iconst (v := 0) C dX9_flip_51 (by decide) ?_
    refine g_iadd C dX9_flip_52 ?_
    refine g_topi (v := nI B) (Int32.add_zero _) ?_
    refine g_iald C 1 B rfl (rfl) (by omega) (by decide) dX9_flip_53 ?_
    refine g_topi (v := nI a) (h0) ?_
    refine g_iald C 2 a rfl (rfl) (by omega) (by decide) dX9_flip_54 ?_
    refine g_iadd C dX9_flip_55 ?_
    refine g_aload_n C dX9_flip_56 rfl ?_
    refine g_get C kwX9 0 rfl rfl 25 (by decide) kfX9_128 rfl dX9_flip_57 ?_
    refine g_isub C dX9_flip_60 ?_
    refine g_callS C (c_X9_bound k.l E (((v - os) + (hi a)) - od)) kmX9_134 ktX9_bound knX9 kcX9_bound ⟨rfl, rfl⟩ kdX9_bound ⟨by decide, by decide⟩ ⟨by decide, by decide⟩ [] [0, 1, 2, 3] rfl (wr := [(mo, .inr (9, [.ref rw, .int (nI n), .int lg, .int sf, .int dg, .ref mh, .ref md, .int un, .ref mk, .ref mt, .int le, .int sm, .ref z1, .ref z2, .ref z3, .long tr, .int at_, .int be, .int rs, .ref y1, .ref y2, .ref y3, .ref y4, .int nu, .int os, .int od, .int sl, .ref ya, .int fpu, .ref yw, .int wn, .ref yp])), aI E rw 168 rf, aI E mh 9 hi, aI E md 9 de]) rfl (by decide +kernel) (by decide +kernel) (by decide +kernel) rfl (As := [.int (((v - os) + (hi a)) - od)]) (rest := [.int (nI (B + 1)), .ref rw]) rfl (Nat.le_of_ble_eq_true rfl) dX9_flip_61 (fun rv_ rw_ hp_ => ?_)
    obtain ⟨rfl, rfl⟩ := hp_
    refine g_rep [0, 1, 2, 3] (ws' := [(mo, .inr (9, [.ref rw, .int (nI n), .int lg, .int sf, .int dg, .ref mh, .ref md, .int un, .ref mk, .ref mt, .int le, .int sm, .ref z1, .ref z2, .ref z3, .long tr, .int at_, .int be, .int rs, .ref y1, .ref y2, .ref y3, .ref y4, .int nu, .int os, .int od, .int sl, .ref ya, .int fpu, .ref yw, .int wn, .ref yp])), aI E rw 168 rf, aI E mh 9 hi, aI E md 9 de]) (st' := [.int (asV (((v - os) + (hi a)) - od)), .int (nI (B + 1)), .ref rw]) (n' := 0) (z' := 0) (pc' := 64) rfl rfl rfl rfl (by decide +kernel) rfl ?_
    refine g_iast (ws' := [(mo, .inr (9, [.ref rw, .int (nI n), .int lg, .int sf, .int dg, .ref mh, .ref md, .int un, .ref mk, .ref mt, .int le, .int sm, .ref z1, .ref z2, .ref z3, .long tr, .int at_, .int be, .int rs, .ref y1, .ref y2, .ref y3, .ref y4, .int nu, .int os, .int od, .int sl, .ref ya, .int fpu, .ref yw, .int wn, .ref yp])), aI E rw 168 (upd rf (B + 1) (asV (((v - os) + (hi a)) - od))), aI E mh 9 hi, aI E md 9 de]) C 1 (B + 1) rfl (rfl) (by omega) (by decide) rfl dX9_flip_64 ?_
    refine g_aload_n C dX9_flip_65 rfl ?_
    refine g_get C kwX9 0 rfl rfl 0 (by decide) kfX9_7 rfl dX9_flip_66 ?_
    refine g_iload_n C dX9_flip_69 rfl ?_
    refine g_iconst (v := 0) C dX9_flip_70 (by decide) ?_
    refine g_iadd C dX9_flip_71 ?_
    refine g_topi (v := nI B) (Int32.add_zero _) ?_
    refine g_dup2 C dX9_flip_72 rfl rfl ?_
    refine g_iald C 1 B rfl (rfl) (by omega) (by decide) dX9_flip_73 ?_
    refine g_topi (v := nI a) (by rw [pk_un (by omega)]; exact h0) ?_
    refine g_iconst (v := 1) C dX9_flip_74 (by decide) ?_
    refine g_iadd C dX9_flip_75 ?_
    refine g_topi (v := nI (a + 1)) (nI_1 a) ?_
    refine g_iast (ws' := [(mo, .inr (9, [.ref rw, .int (nI n), .int lg, .int sf, .int dg, .ref mh, .ref md, .int un, .ref mk, .ref mt, .int le, .int sm, .ref z1, .ref z2, .ref z3, .long tr, .int at_, .int be, .int rs, .ref y1, .ref y2, .ref y3, .ref y4, .int nu, .int os, .int od, .int sl, .ref ya, .int fpu, .ref yw, .int wn, .ref yp])), aI E rw 168 (upd (upd rf (B + 1) (asV (((v - os) + (hi a)) - od))) B (nI (a + 1))), aI E mh 9 hi, aI E md 9 de]) C 1 B rfl (rfl) (by omega) (by decide) rfl dX9_flip_76 ?_
    refine g_aload_n C dX9_flip_77 rfl ?_
    refine g_iload_n C dX9_flip_78 rfl ?_
    refine g_callV C (c_X9_lands k.l E mo rw mh md mk mt z1 z2 z3 y1 y2 y3 y4 ya yw yp lg sf dg un le sm tr at_ be rs nu os od sl fpu wn n hi de (upd (upd rf (B + 1) (asV (((v - os) + (hi a)) - od))) B (nI (a + 1))) mm B (a + 1) (asV (((v - os) + (hi a)) - od)) (by first | assumption | omega) (ha) (by first | assumption | omega) (upd_self _ _ _) (by rw [pk_un (by omega), pk_us]) (fun s hs => by rw [pk_un (by omega), pk_un (by omega)]; exact hmm s hs)) kmX9_138 kiX9_lands ksX9_lands knX9 kcX9_lands ⟨rfl, rfl⟩ ⟨rfl, kdX9_lands⟩ ⟨by decide, by decide⟩ ⟨by decide, by decide⟩ [0, 1, 2, 3] [] rfl (wr := []) rfl (by decide +kernel) (by decide +kernel) (by decide +kernel) 0 9 rfl rfl rfl (As := [.int (nI B)]) (rest := []) rfl (Nat.le_of_ble_eq_true rfl) dX9_flip_79 (fun rv_ rw_ hp_ => ?_)
    obtain ⟨rf2_1, rfl, rfl, f0_2, f1_3, f2_4⟩ := hp_
    refine g_rep [0, 1, 2, 3] (ws' := [(mo, .inr (9, [.ref rw, .int (nI n), .int lg, .int sf, .int dg, .ref mh, .ref md, .int un, .ref mk, .ref mt, .int le, .int sm, .ref z1, .ref z2, .ref z3, .long tr, .int at_, .int be, .int rs, .ref y1, .ref y2, .ref y3, .ref y4, .int nu, .int os, .int od, .int ((landF hi de mm lg od (n - (a + 1)) (a + 1) (asV (((v - os) + (hi a)) - od)) sl).2.2), .ref ya, .int fpu, .ref yw, .int wn, .ref yp])), aI E rw 168 rf2_1, aI E mh 9 hi, aI E md 9 de]) (st' := []) (n' := 0) (z' := 0) (pc' := 82) rfl rfl rfl rfl (by decide +kernel) rfl ?_
    refine g_aload_n C dX9_flip_82 rfl ?_
    refine g_get C kwX9 0 rfl rfl 0 (by decide) kfX9_7 rfl dX9_flip_83 ?_
    refine g_iload_n C dX9_flip_86 rfl ?_
    refine g_iconst (v := 2) C dX9_flip_87 (by decide) ?_
    refine g_iadd C dX9_flip_88 ?_
    refine g_topi (v := nI (B + 2)) (nI_add B 2) ?_
    refine g_dup2 C dX9_flip_89 rfl rfl ?_
    refine g_iald C 1 (B + 2) rfl (rfl) (by omega) (by decide) dX9_flip_90 ?_
    refine g_topi (v := rf (B + 2)) (by rw [f2_4 _ (by omega) (by omega), pk_un (by omega), pk_un (by omega)]) ?_
    refine g_aload_n C dX9_flip_91 rfl ?_
    refine g_get C kwX9 0 rfl rfl 0 (by decide) kfX9_7 rfl dX9_flip_92 ?_
    refine g_iload_n C dX9_flip_95 rfl ?_
    refine g_iconst (v := 2) C dX9_flip_96 (by decide) ?_
    refine g_iadd C dX9_flip_97 ?_
    refine g_topi (v := nI (B + 2)) (nI_add B 2) ?_
    refine g_iald C 1 (B + 2) rfl (rfl) (by omega) (by decide) dX9_flip_98 ?_
    refine g_topi (v := rf (B + 2)) (by rw [f2_4 _ (by omega) (by omega), pk_un (by omega), pk_un (by omega)]) ?_
    refine g_sipush (v := 999) C dX9_flip_99 (by decide) ?_
    refine g_icmp_ge (tgt := 109) C dX9_flip_102 (by decide) (fun c102 => ?_) (fun c102 => ?_)
    · skip
      refine g_iconst (v := 0) C dX9_flip_109 (by decide) ?_
      refine g_iadd C dX9_flip_110 ?_
      refine g_iast (ws' := [(mo, .inr (9, [.ref rw, .int (nI n), .int lg, .int sf, .int dg, .ref mh, .ref md, .int un, .ref mk, .ref mt, .int le, .int sm, .ref z1, .ref z2, .ref z3, .long tr, .int at_, .int be, .int rs, .ref y1, .ref y2, .ref y3, .ref y4, .int nu, .int os, .int od, .int ((landF hi de mm lg od (n - (a + 1)) (a + 1) (asV (((v - os) + (hi a)) - od)) sl).2.2), .ref ya, .int fpu, .ref yw, .int wn, .ref yp])), aI E rw 168 (upd rf2_1 (B + 2) ((rf (B + 2)) + 0)), aI E mh 9 hi, aI E md 9 de]) C 1 (B + 2) rfl (rfl) (by omega) (by decide) rfl dX9_flip_111 ?_
      exact g_vret C hR (⟨_, rfl, by rw [et], by rw [pk_un (by omega), f0_2, et], by rw [pk_un (by omega), f1_3, et], by rw [pk_us, bump, if_pos c102], fun i q1 q2 q3 => by rw [pk_un q3, f2_4 i q1 q2, pk_un q1, pk_un q2]⟩) dX9_flip_112
    · skip
      refine g_iconst (v := 1) C dX9_flip_105 (by decide) ?_
      refine g_goto (tgt := 110) C dX9_flip_106 (by decide) ?_
      refine g_iadd C dX9_flip_110 ?_
      refine g_iast (ws' := [(mo, .inr (9, [.ref rw, .int (nI n), .int lg, .int sf, .int dg, .ref mh, .ref md, .int un, .ref mk, .ref mt, .int le, .int sm, .ref z1, .ref z2, .ref z3, .long tr, .int at_, .int be, .int rs, .ref y1, .ref y2, .ref y3, .ref y4, .int nu, .int os, .int od, .int ((landF hi de mm lg od (n - (a + 1)) (a + 1) (asV (((v - os) + (hi a)) - od)) sl).2.2), .ref ya, .int fpu, .ref yw, .int wn, .ref yp])), aI E rw 168 (upd rf2_1 (B + 2) ((rf (B + 2)) + 1)), aI E mh 9 hi, aI E md 9 de]) C 1 (B + 2) rfl (rfl) (by omega) (by decide) rfl dX9_flip_111 ?_
      exact g_vret C hR (⟨_, rfl, by rw [et], by rw [pk_un (by omega), f0_2, et], by rw [pk_un (by omega), f1_3, et], by rw [pk_us, bump, if_neg c102], fun i q1 q2 q3 => by rw [pk_un q3, f2_4 i q1 q2, pk_un q1, pk_un q2]⟩) dX9_flip_112
  · skip
    have et : turnF n hi de mm lg os od a v sl = (a, 0, sl) := by unfold turnF; rw [if_neg c14]
    refine g_aload_n C dX9_flip_17 rfl ?_
    refine g_get C kwX9 0 rfl rfl 0 (by decide) kfX9_7 rfl dX9_flip_18 ?_
    refine g_iload_n C dX9_flip_21 rfl ?_
    refine g_iconst (v := 1) C dX9_flip_22 (by decide) ?_
    refine g_iadd C dX9_flip_23 ?_
    refine g_topi (v := nI (B + 1)) (nI_add B 1) ?_
    refine g_iconst (v := 0) C dX9_flip_24 (by decide) ?_
    refine g_iast (ws' := [(mo, .inr (9, [.ref rw, .int (nI n), .int lg, .int sf, .int dg, .ref mh, .ref md, .int un, .ref mk, .ref mt, .int le, .int sm, .ref z1, .ref z2, .ref z3, .long tr, .int at_, .int be, .int rs, .ref y1, .ref y2, .ref y3, .ref y4, .int nu, .int os, .int od, .int sl, .ref ya, .int fpu, .ref yw, .int wn, .ref yp])), aI E rw 168 (upd rf (B + 1) 0), aI E mh 9 hi, aI E md 9 de]) C 1 (B + 1) rfl (rfl) (by omega) (by decide) rfl dX9_flip_25 ?_
    refine g_goto (tgt := 82) C dX9_flip_26 (by decide) ?_
    refine g_aload_n C dX9_flip_82 rfl ?_
    refine g_get C kwX9 0 rfl rfl 0 (by decide) kfX9_7 rfl dX9_flip_83 ?_
    refine g_iload_n C dX9_flip_86 rfl ?_
    refine g_iconst (v := 2) C dX9_flip_87 (by decide) ?_
    refine g_iadd C dX9_flip_88 ?_
    refine g_topi (v := nI (B + 2)) (nI_add B 2) ?_
    refine g_dup2 C dX9_flip_89 rfl rfl ?_
    refine g_iald C 1 (B + 2) rfl (rfl) (by omega) (by decide) dX9_flip_90 ?_
    refine g_topi (v := rf (B + 2)) (by rw [pk_un (by omega)]) ?_
    refine g_aload_n C dX9_flip_91 rfl ?_
    refine g_get C kwX9 0 rfl rfl 0 (by decide) kfX9_7 rfl dX9_flip_92 ?_
    refine g_iload_n C dX9_flip_95 rfl ?_
    refine g_iconst (v := 2) C dX9_flip_96 (by decide) ?_
    refine g_iadd C dX9_flip_97 ?_
    refine g_topi (v := nI (B + 2)) (nI_add B 2) ?_
    refine g_iald C 1 (B + 2) rfl (rfl) (by omega) (by decide) dX9_flip_98 ?_
    refine g_topi (v := rf (B + 2)) (by rw [pk_un (by omega)]) ?_
    refine g_sipush (v := 999) C dX9_flip_99 (by decide) ?_
    refine g_icmp_ge (tgt := 109) C dX9_flip_102 (by decide) (fun c102 => ?_) (fun c102 => ?_)
    · skip
      refine g_iconst (v := 0) C dX9_flip_109 (by decide) ?_
      refine g_iadd C dX9_flip_110 ?_
      refine g_iast (ws' := [(mo, .inr (9, [.ref rw, .int (nI n), .int lg, .int sf, .int dg, .ref mh, .ref md, .int un, .ref mk, .ref mt, .int le, .int sm, .ref z1, .ref z2, .ref z3, .long tr, .int at_, .int be, .int rs, .ref y1, .ref y2, .ref y3, .ref y4, .int nu, .int os, .int od, .int sl, .ref ya, .int fpu, .ref yw, .int wn, .ref yp])), aI E rw 168 (upd (upd rf (B + 1) 0) (B + 2) ((rf (B + 2)) + 0)), aI E mh 9 hi, aI E md 9 de]) C 1 (B + 2) rfl (rfl) (by omega) (by decide) rfl dX9_flip_111 ?_
      exact g_vret C hR (⟨_, rfl, by rw [et], by rw [pk_un (by omega), pk_un (by omega), h0, et], by rw [pk_un (by omega), pk_us, et], by rw [pk_us, bump, if_pos c102], fun i q1 q2 q3 => by rw [pk_un q3, pk_un q2]⟩) dX9_flip_112
    · skip
      refine g_iconst (v := 1) C dX9_flip_105 (by decide) ?_
      refine g_goto (tgt := 110) C dX9_flip_106 (by decide) ?_
      refine g_iadd C dX9_flip_110 ?_
      refine g_iast (ws' := [(mo, .inr (9, [.ref rw, .int (nI n), .int lg, .int sf, .int dg, .ref mh, .ref md, .int un, .ref mk, .ref mt, .int le, .int sm, .ref z1, .ref z2, .ref z3, .long tr, .int at_, .int be, .int rs, .ref y1, .ref y2, .ref y3, .ref y4, .int nu, .int os, .int od, .int sl, .ref ya, .int fpu, .ref yw, .int wn, .ref yp])), aI E rw 168 (upd (upd rf (B + 1) 0) (B + 2) ((rf (B + 2)) + 1)), aI E mh 9 hi, aI E md 9 de]) C 1 (B + 2) rfl (rfl) (by omega) (by decide) rfl dX9_flip_111 ?_
      exact g_vret C hR (⟨_, rfl, by rw [et], by rw [pk_un (by omega), pk_un (by omega), h0, et], by rw [pk_un (by omega), pk_us, et], by rw [pk_us, bump, if_neg c102], fun i q1 q2 q3 => by rw [pk_un q3, pk_un q2]⟩) dX9_flip_112

set_option maxHeartbeats 4000000 in
set_option maxRecDepth 100000 in
theorem lp_X9_runs {k : KX} {E : EX} (C : Cx k E cX9_runs RX9 (rmL 4 0 0)) (hnl : ∀ j : Nat, j < 2 → j < k.nL) {mo : Nat} {rw : Nat} {mh : Nat} {md : Nat} {mk : Nat} {mt : Nat} {z1 : Nat} {z2 : Nat} {z3 : Nat} {y1 : Nat} {y2 : Nat} {y3 : Nat} {y4 : Nat} {ya : Nat} {yw : Nat} {yp : Nat} {lg : Int32} {sf : Int32} {dg : Int32} {un : Int32} {le : Int32} {sm : Int32} {tr : Int64} {at_ : Int32} {be : Int32} {rs : Int32} {nu : Int32} {os : Int32} {od : Int32} {fpu : Int32} {wn : Int32} {n : Nat} {hi : Nat → Int32} {de : Nat → Int32} {mm : Nat → Int32} (hn : n ≤ 9) {rz : Nat → Int32} {t : Nat × Int32 × Int32 × Int32} (hR : Rt k E (fun (rv_ : Option Value) (rw_ : va_W) => ∃ (rf2 : Nat → Int32), rv_ = some (.int t.2.2.2) ∧ rw_ = [(mo, .inr (9, [.ref rw, .int (nI n), .int lg, .int sf, .int dg, .ref mh, .ref md, .int un, .ref mk, .ref mt, .int le, .int sm, .ref z1, .ref z2, .ref z3, .long tr, .int at_, .int be, .int rs, .ref y1, .ref y2, .ref y3, .ref y4, .int nu, .int os, .int od, .int t.2.2.1, .ref ya, .int fpu, .ref yw, .int wn, .ref yp])), aI E rw 168 rf2, aI E mh 9 hi, aI E md 9 de] ∧ (rf2 156 = nI (t).1) ∧ (∀ i, i < 156 ∨ 159 ≤ i → rf2 i = rz i)) 0 0 (some .int)) : ∀ (f a : Nat) (v sl cnt : Int32) (rf : Nat → Int32), (n - a ≤ f ∨ ¬ 0 < v) → a ≤ n → runF n hi de mm lg os od f a v sl cnt = t → rf 156 = nI a → rf 157 = v → (∀ s, s < 9 → rf (159 + s) = mm s) → (a = n → v = 0) → (∀ i, i < 156 ∨ 159 ≤ i → rf i = rz i) → G k E 0 0 2 [some (.ref mo), some (.int cnt)] [] [(mo, .inr (9, [.ref rw, .int (nI n), .int lg, .int sf, .int dg, .ref mh, .ref md, .int un, .ref mk, .ref mt, .int le, .int sm, .ref z1, .ref z2, .ref z3, .long tr, .int at_, .int be, .int rs, .ref y1, .ref y2, .ref y3, .ref y4, .int nu, .int os, .int od, .int sl, .ref ya, .int fpu, .ref yw, .int wn, .ref yp])), aI E rw 168 rf, aI E mh 9 hi, aI E md 9 de] := by
  intro f
  induction f with
  | zero =>
    intro a v sl cnt rf hf ha ht h0 h1 hmm hfl hrz
    have hv0 : ¬ 0 < v := fun q => by
      rcases hf with z | z
      · rw [hfl (by omega)] at q; exact absurd q (by decide)
      · exact z q
    have ht : (a, v, sl, cnt) = t := ht
    refine g_aload_n C dX9_runs_2 rfl ?_
    refine g_get C kwX9 0 rfl rfl 0 (by decide) kfX9_7 rfl dX9_runs_3 ?_
    refine g_sipush (v := 157) C dX9_runs_6 (by decide) ?_
    refine g_iald C 1 157 rfl (rfl) (by decide) (by decide) dX9_runs_9 ?_
    refine g_topi (v := v) (h1) ?_
    refine g_if_le (tgt := 26) C dX9_runs_10 (by decide) (fun c10 => ?_) (fun c10 => ?_)
    · skip
      refine g_iload_n C dX9_runs_26 rfl ?_
      exact g_iret C hR (⟨_, by rw [← ht], by rw [← ht], by rw [← ht]; exact h0, hrz⟩) dX9_runs_27
    · skip
      exact absurd (Int32.not_lt.mp hv0) c10
  | succ f ih =>
    intro a v sl cnt rf hf ha ht h0 h1 hmm hfl hrz
    unfold runF at ht
    refine g_aload_n C dX9_runs_2 rfl ?_
    refine g_get C kwX9 0 rfl rfl 0 (by decide) kfX9_7 rfl dX9_runs_3 ?_
    refine g_sipush (v := 157) C dX9_runs_6 (by decide) ?_
    refine g_iald C 1 157 rfl (rfl) (by decide) (by decide) dX9_runs_9 ?_
    refine g_topi (v := v) (h1) ?_
    refine g_if_le (tgt := 26) C dX9_runs_10 (by decide) (fun c10 => ?_) (fun c10 => ?_)
    · skip
      rw [if_neg (fun q => Int32.not_le.mpr q.1 c10)] at ht
      refine g_iload_n C dX9_runs_26 rfl ?_
      exact g_iret C hR (⟨_, by rw [← ht], by rw [← ht], by rw [← ht]; exact h0, hrz⟩) dX9_runs_27
    · skip
      have hv1 := Int32.not_le.mp c10
      have ha2 : a < n := by
        rcases Nat.lt_or_ge a n with q | q
        · exact q
        · rw [hfl (by omega)] at hv1; exact absurd hv1 (by decide)
      rw [if_pos ⟨hv1, ha2⟩] at ht
      refine g_aload_n C dX9_runs_13 rfl ?_
      refine g_sipush (v := 156) C dX9_runs_14 (by decide) ?_
      refine g_callV C (c_X9_flip k.l E mo rw mh md mk mt z1 z2 z3 y1 y2 y3 y4 ya yw yp lg sf dg un le sm tr at_ be rs nu os od sl fpu wn n hi de rf mm 156 a v (by first | assumption | omega) (ha2) (by decide) (h0) (h1) (hmm)) kmX9_142 kiX9_flip ksX9_flip knX9 kcX9_flip ⟨rfl, rfl⟩ ⟨rfl, kdX9_flip⟩ ⟨by decide, by decide⟩ ⟨by decide, by decide⟩ [0, 1, 2, 3] [] rfl (wr := []) rfl (by decide +kernel) (by decide +kernel) (by decide +kernel) 0 9 rfl rfl rfl (As := [.int 156]) (rest := []) rfl (Nat.le_of_ble_eq_true rfl) dX9_runs_17 (fun rv_ rw_ hp_ => ?_)
      obtain ⟨rf2_1, rfl, rfl, g0, g1, g3, g2⟩ := hp_
      refine g_rep [0, 1, 2, 3] (ws' := [(mo, .inr (9, [.ref rw, .int (nI n), .int lg, .int sf, .int dg, .ref mh, .ref md, .int un, .ref mk, .ref mt, .int le, .int sm, .ref z1, .ref z2, .ref z3, .long tr, .int at_, .int be, .int rs, .ref y1, .ref y2, .ref y3, .ref y4, .int nu, .int os, .int od, .int ((turnF n hi de mm lg os od a v sl).2.2), .ref ya, .int fpu, .ref yw, .int wn, .ref yp])), aI E rw 168 rf2_1, aI E mh 9 hi, aI E md 9 de]) (st' := []) (n' := 0) (z' := 0) (pc' := 20) rfl rfl rfl rfl (by decide +kernel) rfl ?_
      refine g_iinc (v := cnt + 1) (lv' := [some (.ref mo), some (.int (cnt + 1))]) C dX9_runs_20 rfl (rfl) (hnl 1 (by decide)) rfl rfl ?_
      refine g_goto (tgt := 2) C dX9_runs_23 (by decide) ?_
      refine ih _ _ _ _ _ ?_ (turnF_le ha2).2 ht g0 g1 (fun s hs => by rw [g2 _ (by omega) (by omega) (by omega)]; exact hmm s hs) (turnF_fl ha2) (fun i q => by rw [g2 _ (by omega) (by omega) (by omega)]; exact hrz i q)
      by_cases qs : os ≤ v
      · left
        have := turnF_gt (n := n) (hi := hi) (de := de) (ma := mm) (lg := lg) (dr := od) (a := a) (sl := sl) qs
        rcases hf with z | z
        · omega
        · exact absurd hv1 z
      · right
        have e : turnF n hi de mm lg os od a v sl = (a, 0, sl) := by unfold turnF; rw [if_neg qs]
        rw [e]
        show ¬ (0 : Int32) < 0
        decide

set_option maxHeartbeats 4000000 in
set_option maxRecDepth 100000 in
theorem c_X9_runs (l : Launch) (E : EX) (mo : Nat) (rw : Nat) (mh : Nat) (md : Nat) (mk : Nat) (mt : Nat) (z1 : Nat) (z2 : Nat) (z3 : Nat) (y1 : Nat) (y2 : Nat) (y3 : Nat) (y4 : Nat) (ya : Nat) (yw : Nat) (yp : Nat) (lg : Int32) (sf : Int32) (dg : Int32) (un : Int32) (le : Int32) (sm : Int32) (tr : Int64) (at_ : Int32) (be : Int32) (rs : Int32) (nu : Int32) (os : Int32) (od : Int32) (sl : Int32) (fpu : Int32) (wn : Int32) (n : Nat) (hi : Nat → Int32) (de : Nat → Int32) (rf : Nat → Int32) (mm : Nat → Int32) (a : Nat) (v : Int32) (hn : n ≤ 9) (ha : a ≤ n) (h0 : rf 156 = nI a) (h1 : rf 157 = v) (hmm : ∀ s, s < 9 → rf (159 + s) = mm s) (hfl : a = n → v = 0) : Ct l E yX9_runs cX9_runs 2 (some .int) (rmL 4 0 0) [.ref mo] [(mo, .inr (9, [.ref rw, .int (nI n), .int lg, .int sf, .int dg, .ref mh, .ref md, .int un, .ref mk, .ref mt, .int le, .int sm, .ref z1, .ref z2, .ref z3, .long tr, .int at_, .int be, .int rs, .ref y1, .ref y2, .ref y3, .ref y4, .int nu, .int os, .int od, .int sl, .ref ya, .int fpu, .ref yw, .int wn, .ref yp])), aI E rw 168 rf, aI E mh 9 hi, aI E md 9 de] (fun (rv_ : Option Value) (rw_ : va_W) => ∃ (rf2 : Nat → Int32), rv_ = some (.int ((runF n hi de mm lg os od 9 a v sl 0).2.2.2)) ∧ rw_ = [(mo, .inr (9, [.ref rw, .int (nI n), .int lg, .int sf, .int dg, .ref mh, .ref md, .int un, .ref mk, .ref mt, .int le, .int sm, .ref z1, .ref z2, .ref z3, .long tr, .int at_, .int be, .int rs, .ref y1, .ref y2, .ref y3, .ref y4, .int nu, .int os, .int od, .int ((runF n hi de mm lg os od 9 a v sl 0).2.2.1), .ref ya, .int fpu, .ref yw, .int wn, .ref yp])), aI E rw 168 rf2, aI E mh 9 hi, aI E md 9 de] ∧ (rf2 156 = nI (runF n hi de mm lg os od 9 a v sl 0).1) ∧ (∀ i, i < 156 ∨ 159 ≤ i → rf2 i = rf i)) 0 0 := by
  refine Ct_of (by decide) (Nat.le_of_ble_eq_true rfl) ?_
  intro k hkl hnl C hR hin_
  subst hkl
  show G k E 0 0 0 [some (.ref mo), none] [] [(mo, .inr (9, [.ref rw, .int (nI n), .int lg, .int sf, .int dg, .ref mh, .ref md, .int un, .ref mk, .ref mt, .int le, .int sm, .ref z1, .ref z2, .ref z3, .long tr, .int at_, .int be, .int rs, .ref y1, .ref y2, .ref y3, .ref y4, .int nu, .int os, .int od, .int sl, .ref ya, .int fpu, .ref yw, .int wn, .ref yp])), aI E rw 168 rf, aI E mh 9 hi, aI E md 9 de]
  refine g_iconst (v := 0) C dX9_runs_0 (by decide) ?_
  refine g_istore_n (lv' := [some (.ref mo), some (.int 0)]) C dX9_runs_1 (hnl 1 (by decide)) rfl rfl ?_
  exact lp_X9_runs C hnl hn hR 9 a v sl 0 rf (Or.inl (by omega)) ha rfl h0 h1 hmm hfl (fun _ _ => rfl)

set_option maxHeartbeats 4000000 in
set_option maxRecDepth 100000 in
theorem c_X9_tellRun (l : Launch) (E : EX) (mo : Nat) (rw : Nat) (mh : Nat) (md : Nat) (mk : Nat) (mt : Nat) (z1 : Nat) (z2 : Nat) (z3 : Nat) (y1 : Nat) (y2 : Nat) (y3 : Nat) (y4 : Nat) (ya : Nat) (yw : Nat) (yp : Nat) (lg : Int32) (sf : Int32) (dg : Int32) (un : Int32) (le : Int32) (sm : Int32) (tr : Int64) (at_ : Int32) (be : Int32) (rs : Int32) (nu : Int32) (os : Int32) (od : Int32) (sl : Int32) (fpu : Int32) (wn : Int32) (n : Nat) (hi : Nat → Int32) (de : Nat → Int32) (rf : Nat → Int32) (mm : Nat → Int32) (a : Nat) (v : Int32) (y : Int32) (hn : n ≤ 9) (ha : a ≤ n) (h0 : rf 0 = nI a) (h1 : rf 1 = v) (hmm : ∀ s, s < 9 → rf (3 + s) = mm s) (hfl : a = n → v = 0) : Ct l E yX9_tellRun cX9_tellRun 3 (some .int) (rmL 5 0 0) [.ref mo, .int y] [(mo, .inr (9, [.ref rw, .int (nI n), .int lg, .int sf, .int dg, .ref mh, .ref md, .int un, .ref mk, .ref mt, .int le, .int sm, .ref z1, .ref z2, .ref z3, .long tr, .int at_, .int be, .int rs, .ref y1, .ref y2, .ref y3, .ref y4, .int nu, .int os, .int od, .int sl, .ref ya, .int fpu, .ref yw, .int wn, .ref yp])), aI E rw 168 rf, aI E mh 9 hi, aI E md 9 de] (fun (rv_ : Option Value) (rw_ : va_W) => ∃ (rf2 : Nat → Int32) (os2 : Int32) (od2 : Int32) (sl2 : Int32), rv_ = some (.int (if y = 3 then nI (runF n hi de mm lg sf dg 9 a v 0 0).1 else if y = 4 then (runF n hi de mm lg sf dg 9 a v 0 0).2.2.2 else (runF n hi de mm lg sf dg 9 a v 0 0).2.2.1)) ∧ rw_ = [(mo, .inr (9, [.ref rw, .int (nI n), .int lg, .int sf, .int dg, .ref mh, .ref md, .int un, .ref mk, .ref mt, .int le, .int sm, .ref z1, .ref z2, .ref z3, .long tr, .int at_, .int be, .int rs, .ref y1, .ref y2, .ref y3, .ref y4, .int nu, .int os2, .int od2, .int sl2, .ref ya, .int fpu, .ref yw, .int wn, .ref yp])), aI E rw 168 rf2, aI E mh 9 hi, aI E md 9 de] ∧ (∀ i, i < 156 → rf2 i = rf i)) 0 0 := by
  refine Ct_of (by decide) (Nat.le_of_ble_eq_true rfl) ?_
  intro k hkl hnl C hR hin_
  subst hkl
  show G k E 0 0 0 [some (.ref mo), some (.int y), none] [] [(mo, .inr (9, [.ref rw, .int (nI n), .int lg, .int sf, .int dg, .ref mh, .ref md, .int un, .ref mk, .ref mt, .int le, .int sm, .ref z1, .ref z2, .ref z3, .long tr, .int at_, .int be, .int rs, .ref y1, .ref y2, .ref y3, .ref y4, .int nu, .int os, .int od, .int sl, .ref ya, .int fpu, .ref yw, .int wn, .ref yp])), aI E rw 168 rf, aI E mh 9 hi, aI E md 9 de]
  refine g_aload_n C dX9_tellRun_0 rfl ?_
  refine g_callV C (c_X9_layTried k.l E mo rw mh md mk mt z1 z2 z3 y1 y2 y3 y4 ya yw yp (nI n) lg sf dg un le sm tr at_ be rs nu os od sl fpu wn rf) kmX9_163 kiX9_layTried ksX9_layTried knX9 kcX9_layTried ⟨rfl, rfl⟩ ⟨rfl, kdX9_layTried⟩ ⟨by decide, by decide⟩ ⟨by decide, by decide⟩ [0, 1] [2, 3] rfl (wr := [aI E mh 9 hi, aI E md 9 de]) rfl (by decide +kernel) (by decide +kernel) (by decide +kernel) 0 9 rfl rfl rfl (As := []) (rest := []) rfl (Nat.le_of_ble_eq_true rfl) dX9_tellRun_1 (fun rv_ rw_ hp_ => ?_)
  obtain ⟨rfl, rfl⟩ := hp_
  refine g_rep [2, 3, 0, 1] (ws' := [(mo, .inr (9, [.ref rw, .int (nI n), .int lg, .int sf, .int dg, .ref mh, .ref md, .int un, .ref mk, .ref mt, .int le, .int sm, .ref z1, .ref z2, .ref z3, .long tr, .int at_, .int be, .int rs, .ref y1, .ref y2, .ref y3, .ref y4, .int nu, .int sf, .int dg, .int 0, .ref ya, .int fpu, .ref yw, .int wn, .ref yp])), aI E rw 168 (va_cpy rf rf 0 156 12), aI E mh 9 hi, aI E md 9 de]) (st' := []) (n' := 0) (z' := 0) (pc' := 4) rfl rfl rfl rfl (by decide +kernel) rfl ?_
  refine g_aload_n C dX9_tellRun_4 rfl ?_
  refine g_callV C (c_X9_runs k.l E mo rw mh md mk mt z1 z2 z3 y1 y2 y3 y4 ya yw yp lg sf dg un le sm tr at_ be rs nu sf dg 0 fpu wn n hi de (va_cpy rf rf 0 156 12) mm a v (by first | assumption | omega) (ha) (by rw [show (156 : Nat) = 156 + 0 from rfl, cpyR_in (by decide)]; exact h0) (by rw [show (157 : Nat) = 156 + 1 from rfl, cpyR_in (by decide)]; exact h1) (fun s hs => by rw [show 159 + s = 156 + (3 + s) by omega, cpyR_in (by omega), show 0 + (3 + s) = 3 + s by omega]; exact hmm s hs) (hfl)) kmX9_166 kiX9_runs ksX9_runs knX9 kcX9_runs ⟨rfl, rfl⟩ ⟨rfl, kdX9_runs⟩ ⟨by decide, by decide⟩ ⟨by decide, by decide⟩ [0, 1, 2, 3] [] rfl (wr := []) rfl (by decide +kernel) (by decide +kernel) (by decide +kernel) 0 9 rfl rfl rfl (As := []) (rest := []) rfl (Nat.le_of_ble_eq_true rfl) dX9_tellRun_5 (fun rv_ rw_ hp_ => ?_)
  obtain ⟨rf2_1, rfl, rfl, g0, g2⟩ := hp_
  refine g_rep [0, 1, 2, 3] (ws' := [(mo, .inr (9, [.ref rw, .int (nI n), .int lg, .int sf, .int dg, .ref mh, .ref md, .int un, .ref mk, .ref mt, .int le, .int sm, .ref z1, .ref z2, .ref z3, .long tr, .int at_, .int be, .int rs, .ref y1, .ref y2, .ref y3, .ref y4, .int nu, .int sf, .int dg, .int ((runF n hi de mm lg sf dg 9 a v 0 0).2.2.1), .ref ya, .int fpu, .ref yw, .int wn, .ref yp])), aI E rw 168 rf2_1, aI E mh 9 hi, aI E md 9 de]) (st' := [.int ((runF n hi de mm lg sf dg 9 a v 0 0).2.2.2)]) (n' := 0) (z' := 0) (pc' := 8) rfl rfl rfl rfl (by decide +kernel) rfl ?_
  refine g_istore_n (lv' := [some (.ref mo), some (.int y), some (.int ((runF n hi de mm lg sf dg 9 a v 0 0).2.2.2))]) C dX9_tellRun_8 (hnl 2 (by decide)) rfl rfl ?_
  refine g_iload_n C dX9_tellRun_9 rfl ?_
  refine g_iconst (v := 3) C dX9_tellRun_10 (by decide) ?_
  refine g_icmp_ne (tgt := 25) C dX9_tellRun_11 (by decide) (fun c11 => ?_) (fun c11 => ?_)
  · skip
    refine g_iload_n C dX9_tellRun_25 rfl ?_
    refine g_iconst (v := 4) C dX9_tellRun_26 (by decide) ?_
    refine g_icmp_ne (tgt := 34) C dX9_tellRun_27 (by decide) (fun c27 => ?_) (fun c27 => ?_)
    · skip
      refine g_aload_n C dX9_tellRun_34 rfl ?_
      refine g_get C kwX9 0 rfl rfl 26 (by decide) kfX9_131 rfl dX9_tellRun_35 ?_
      exact g_iret C hR (⟨_, _, _, _, by rw [if_neg c11, if_neg c27], rfl, fun i q => by rw [g2 i (Or.inl q), cpyR_out (Or.inl q)]⟩) dX9_tellRun_38
    · skip
      refine g_iload_n C dX9_tellRun_30 rfl ?_
      refine g_goto (tgt := 38) C dX9_tellRun_31 (by decide) ?_
      exact g_iret C hR (⟨_, _, _, _, by rw [if_neg c11, if_pos c27], rfl, fun i q => by rw [g2 i (Or.inl q), cpyR_out (Or.inl q)]⟩) dX9_tellRun_38
  · skip
    refine g_aload_n C dX9_tellRun_14 rfl ?_
    refine g_get C kwX9 0 rfl rfl 0 (by decide) kfX9_7 rfl dX9_tellRun_15 ?_
    refine g_sipush (v := 156) C dX9_tellRun_18 (by decide) ?_
    refine g_iald C 1 156 rfl (rfl) (by decide) (by decide) dX9_tellRun_21 ?_
    refine g_topi (v := nI (runF n hi de mm lg sf dg 9 a v 0 0).1) (g0) ?_
    refine g_goto (tgt := 38) C dX9_tellRun_22 (by decide) ?_
    exact g_iret C hR (⟨_, _, _, _, by rw [if_pos c11], rfl, fun i q => by rw [g2 i (Or.inl q), cpyR_out (Or.inl q)]⟩) dX9_tellRun_38

set_option maxHeartbeats 4000000 in
set_option maxRecDepth 100000 in
theorem c_X9_keepPast (l : Launch) (E : EX) (mo : Nat) (rw : Nat) (mh : Nat) (md : Nat) (mk : Nat) (mt : Nat) (z1 : Nat) (z2 : Nat) (z3 : Nat) (y1 : Nat) (y2 : Nat) (y3 : Nat) (y4 : Nat) (ya : Nat) (yw : Nat) (yp : Nat) (st0 : Int32) (lg : Int32) (sf : Int32) (dg : Int32) (le : Int32) (sm : Int32) (tr : Int64) (at_ : Int32) (be : Int32) (rs : Int32) (nu : Int32) (os : Int32) (od : Int32) (sl : Int32) (fpu : Int32) (wn : Int32) (rf : Nat → Int32) (u : Nat) (hu : u < 10) : Ct l E yX9_keepPast cX9_keepPast 2 none (rmL 2 0 0) [.ref mo] [(mo, .inr (9, [.ref rw, .int st0, .int lg, .int sf, .int dg, .ref mh, .ref md, .int (nI u), .ref mk, .ref mt, .int le, .int sm, .ref z1, .ref z2, .ref z3, .long tr, .int at_, .int be, .int rs, .ref y1, .ref y2, .ref y3, .ref y4, .int nu, .int os, .int od, .int sl, .ref ya, .int fpu, .ref yw, .int wn, .ref yp])), aI E rw 168 rf] (fun (rv_ : Option Value) (rw_ : va_W) => rv_ = none ∧ rw_ = [(mo, .inr (9, [.ref rw, .int st0, .int lg, .int sf, .int dg, .ref mh, .ref md, .int (nI (u + 1)), .ref mk, .ref mt, .int le, .int sm, .ref z1, .ref z2, .ref z3, .long tr, .int at_, .int be, .int rs, .ref y1, .ref y2, .ref y3, .ref y4, .int nu, .int os, .int od, .int sl, .ref ya, .int fpu, .ref yw, .int wn, .ref yp])), aI E rw 168 (va_cpy rf rf 0 (12 + 12 * u) 12)]) 0 0 := by
  refine Ct_of (by decide) (Nat.le_of_ble_eq_true rfl) ?_
  intro k hkl hnl C hR hin_
  subst hkl
  show G k E 0 0 0 [some (.ref mo), none] [] [(mo, .inr (9, [.ref rw, .int st0, .int lg, .int sf, .int dg, .ref mh, .ref md, .int (nI u), .ref mk, .ref mt, .int le, .int sm, .ref z1, .ref z2, .ref z3, .long tr, .int at_, .int be, .int rs, .ref y1, .ref y2, .ref y3, .ref y4, .int nu, .int os, .int od, .int sl, .ref ya, .int fpu, .ref yw, .int wn, .ref yp])), aI E rw 168 rf]
  refine g_aload_n C dX9_keepPast_0 rfl ?_
  refine g_get C kwX9 0 rfl rfl 7 (by decide) kfX9_116 rfl dX9_keepPast_1 ?_
  refine g_bipush (v := 10) C dX9_keepPast_4 (by decide) ?_
  refine g_icmp_ne (tgt := 51) C dX9_keepPast_6 (by decide) (fun c6 => ?_) (fun c6 => ?_)
  · skip
    refine g_aload_n C dX9_keepPast_51 rfl ?_
    refine g_iconst (v := 0) C dX9_keepPast_52 (by decide) ?_
    refine g_bipush (v := 12) C dX9_keepPast_53 (by decide) ?_
    refine g_bipush (v := 12) C dX9_keepPast_55 (by decide) ?_
    refine g_aload_n C dX9_keepPast_57 rfl ?_
    refine g_get C kwX9 0 rfl rfl 7 (by decide) kfX9_116 rfl dX9_keepPast_58 ?_
    refine g_imul C dX9_keepPast_61 ?_
    refine g_topi (v := nI (12 * u)) (pk_mul 12 u) ?_
    refine g_iadd C dX9_keepPast_62 ?_
    refine g_topi (v := nI (12 + 12 * u)) (nI_add 12 _) ?_
    refine g_callV C (c_X9_copyRow k.l E mo rw mh md mk mt z1 z2 z3 y1 y2 y3 y4 ya yw yp st0 lg sf dg (nI u) le sm tr at_ be rs nu os od sl fpu wn rf 0 (12 + 12 * u) (by decide) (by omega) (Or.inr (by omega))) kmX9_145 kiX9_copyRow ksX9_copyRow knX9 kcX9_copyRow ⟨rfl, rfl⟩ ⟨rfl, kdX9_copyRow⟩ ⟨by decide, by decide⟩ ⟨by decide, by decide⟩ [0, 1] [] rfl (wr := []) rfl (by decide +kernel) (by decide +kernel) (by decide +kernel) 0 9 rfl rfl rfl (As := [.int 0, .int (nI (12 + 12 * u))]) (rest := []) rfl (Nat.le_of_ble_eq_true rfl) dX9_keepPast_63 (fun rv_ rw_ hp_ => ?_)
    obtain ⟨rfl, rfl⟩ := hp_
    refine g_rep [0, 1] (ws' := [(mo, .inr (9, [.ref rw, .int st0, .int lg, .int sf, .int dg, .ref mh, .ref md, .int (nI u), .ref mk, .ref mt, .int le, .int sm, .ref z1, .ref z2, .ref z3, .long tr, .int at_, .int be, .int rs, .ref y1, .ref y2, .ref y3, .ref y4, .int nu, .int os, .int od, .int sl, .ref ya, .int fpu, .ref yw, .int wn, .ref yp])), aI E rw 168 (va_cpy rf rf 0 (12 + 12 * u) 12)]) (st' := []) (n' := 0) (z' := 0) (pc' := 66) rfl rfl rfl rfl (by decide +kernel) rfl ?_
    refine g_aload_n C dX9_keepPast_66 rfl ?_
    refine g_dup C dX9_keepPast_67 rfl ?_
    refine g_get C kwX9 0 rfl rfl 7 (by decide) kfX9_116 rfl dX9_keepPast_68 ?_
    refine g_iconst (v := 1) C dX9_keepPast_71 (by decide) ?_
    refine g_iadd C dX9_keepPast_72 ?_
    refine g_topi (v := nI (u + 1)) (nI_1 u) ?_
    refine g_put (ws' := [(mo, .inr (9, [.ref rw, .int st0, .int lg, .int sf, .int dg, .ref mh, .ref md, .int (nI (u + 1)), .ref mk, .ref mt, .int le, .int sm, .ref z1, .ref z2, .ref z3, .long tr, .int at_, .int be, .int rs, .ref y1, .ref y2, .ref y3, .ref y4, .int nu, .int os, .int od, .int sl, .ref ya, .int fpu, .ref yw, .int wn, .ref yp])), aI E rw 168 (va_cpy rf rf 0 (12 + 12 * u) 12)]) C kwX9 tyX9 tyX9_ok nmX9 0 rfl rfl 7 (by decide) kfX9_116 rfl rfl rfl (Nat.le_of_ble_eq_true rfl) rfl dX9_keepPast_73 ?_
    exact g_vret C hR (⟨rfl, rfl⟩) dX9_keepPast_76
  · skip
    exact absurd ((nI_eq (b := 10) (by omega) (by decide)).mp c6) (by omega)

set_option maxHeartbeats 4000000 in
set_option maxRecDepth 100000 in
theorem lp_X9_past {k : KX} {E : EX} (C : Cx k E cX9_keepPast RX9 (rmL 2 0 0)) (hnl : ∀ j : Nat, j < 2 → j < k.nL) {mo : Nat} {rw : Nat} {mh : Nat} {md : Nat} {mk : Nat} {mt : Nat} {z1 : Nat} {z2 : Nat} {z3 : Nat} {y1 : Nat} {y2 : Nat} {y3 : Nat} {y4 : Nat} {ya : Nat} {yw : Nat} {yp : Nat} {st0 : Int32} {lg : Int32} {sf : Int32} {dg : Int32} {le : Int32} {sm : Int32} {tr : Int64} {at_ : Int32} {be : Int32} {rs : Int32} {nu : Int32} {os : Int32} {od : Int32} {sl : Int32} {fpu : Int32} {wn : Int32} {rf : Nat → Int32} (hR : Rt k E (fun (rv_ : Option Value) (rw_ : va_W) => rv_ = none ∧ rw_ = [(mo, .inr (9, [.ref rw, .int st0, .int lg, .int sf, .int dg, .ref mh, .ref md, .int (nI 10), .ref mk, .ref mt, .int le, .int sm, .ref z1, .ref z2, .ref z3, .long tr, .int at_, .int be, .int rs, .ref y1, .ref y2, .ref y3, .ref y4, .int nu, .int os, .int od, .int sl, .ref ya, .int fpu, .ref yw, .int wn, .ref yp])), aI E rw 168 (va_cpy (va_cpy rf rf 24 12 108) (va_cpy rf rf 24 12 108) 0 120 12)]) 0 0 none) : ∀ (g j : Nat), j + g = 108 → G k E 0 0 11 [some (.ref mo), some (.int (nI j))] [] [(mo, .inr (9, [.ref rw, .int st0, .int lg, .int sf, .int dg, .ref mh, .ref md, .int (nI 10), .ref mk, .ref mt, .int le, .int sm, .ref z1, .ref z2, .ref z3, .long tr, .int at_, .int be, .int rs, .ref y1, .ref y2, .ref y3, .ref y4, .int nu, .int os, .int od, .int sl, .ref ya, .int fpu, .ref yw, .int wn, .ref yp])), aI E rw 168 (va_cpy rf rf 24 12 j)] := by
  intro g
  induction g with
  | zero =>
    intro j hj
    have e : j = 108 := by omega
    subst e
    refine g_iload_n C dX9_keepPast_11 rfl ?_
    refine g_bipush (v := 108) C dX9_keepPast_12 (by decide) ?_
    refine g_icmp_ge (tgt := 41) C dX9_keepPast_14 (by decide) (fun c14 => ?_) (fun c14 => ?_)
    · skip
      refine g_aload_n C dX9_keepPast_41 rfl ?_
      refine g_dup C dX9_keepPast_42 rfl ?_
      refine g_get C kwX9 0 rfl rfl 7 (by decide) kfX9_116 rfl dX9_keepPast_43 ?_
      refine g_iconst (v := 1) C dX9_keepPast_46 (by decide) ?_
      refine g_isub C dX9_keepPast_47 ?_
      refine g_topi (v := nI 9) (by decide) ?_
      refine g_put (ws' := [(mo, .inr (9, [.ref rw, .int st0, .int lg, .int sf, .int dg, .ref mh, .ref md, .int (nI 9), .ref mk, .ref mt, .int le, .int sm, .ref z1, .ref z2, .ref z3, .long tr, .int at_, .int be, .int rs, .ref y1, .ref y2, .ref y3, .ref y4, .int nu, .int os, .int od, .int sl, .ref ya, .int fpu, .ref yw, .int wn, .ref yp])), aI E rw 168 (va_cpy rf rf 24 12 108)]) C kwX9 tyX9 tyX9_ok nmX9 0 rfl rfl 7 (by decide) kfX9_116 rfl rfl rfl (Nat.le_of_ble_eq_true rfl) rfl dX9_keepPast_48 ?_
      refine g_aload_n C dX9_keepPast_51 rfl ?_
      refine g_iconst (v := 0) C dX9_keepPast_52 (by decide) ?_
      refine g_bipush (v := 12) C dX9_keepPast_53 (by decide) ?_
      refine g_bipush (v := 12) C dX9_keepPast_55 (by decide) ?_
      refine g_aload_n C dX9_keepPast_57 rfl ?_
      refine g_get C kwX9 0 rfl rfl 7 (by decide) kfX9_116 rfl dX9_keepPast_58 ?_
      refine g_imul C dX9_keepPast_61 ?_
      refine g_topi (v := nI 108) (by decide) ?_
      refine g_iadd C dX9_keepPast_62 ?_
      refine g_topi (v := nI 120) (by decide) ?_
      refine g_callV C (c_X9_copyRow k.l E mo rw mh md mk mt z1 z2 z3 y1 y2 y3 y4 ya yw yp st0 lg sf dg (nI 9) le sm tr at_ be rs nu os od sl fpu wn (va_cpy rf rf 24 12 108) 0 120 (by decide) (by decide) (Or.inr (by decide))) kmX9_145 kiX9_copyRow ksX9_copyRow knX9 kcX9_copyRow ⟨rfl, rfl⟩ ⟨rfl, kdX9_copyRow⟩ ⟨by decide, by decide⟩ ⟨by decide, by decide⟩ [0, 1] [] rfl (wr := []) rfl (by decide +kernel) (by decide +kernel) (by decide +kernel) 0 9 rfl rfl rfl (As := [.int 0, .int (nI 120)]) (rest := []) rfl (Nat.le_of_ble_eq_true rfl) dX9_keepPast_63 (fun rv_ rw_ hp_ => ?_)
      obtain ⟨rfl, rfl⟩ := hp_
      refine g_rep [0, 1] (ws' := [(mo, .inr (9, [.ref rw, .int st0, .int lg, .int sf, .int dg, .ref mh, .ref md, .int (nI 9), .ref mk, .ref mt, .int le, .int sm, .ref z1, .ref z2, .ref z3, .long tr, .int at_, .int be, .int rs, .ref y1, .ref y2, .ref y3, .ref y4, .int nu, .int os, .int od, .int sl, .ref ya, .int fpu, .ref yw, .int wn, .ref yp])), aI E rw 168 (va_cpy (va_cpy rf rf 24 12 108) (va_cpy rf rf 24 12 108) 0 120 12)]) (st' := []) (n' := 0) (z' := 0) (pc' := 66) rfl rfl rfl rfl (by decide +kernel) rfl ?_
      refine g_aload_n C dX9_keepPast_66 rfl ?_
      refine g_dup C dX9_keepPast_67 rfl ?_
      refine g_get C kwX9 0 rfl rfl 7 (by decide) kfX9_116 rfl dX9_keepPast_68 ?_
      refine g_iconst (v := 1) C dX9_keepPast_71 (by decide) ?_
      refine g_iadd C dX9_keepPast_72 ?_
      refine g_topi (v := nI 10) (by decide) ?_
      refine g_put (ws' := [(mo, .inr (9, [.ref rw, .int st0, .int lg, .int sf, .int dg, .ref mh, .ref md, .int (nI 10), .ref mk, .ref mt, .int le, .int sm, .ref z1, .ref z2, .ref z3, .long tr, .int at_, .int be, .int rs, .ref y1, .ref y2, .ref y3, .ref y4, .int nu, .int os, .int od, .int sl, .ref ya, .int fpu, .ref yw, .int wn, .ref yp])), aI E rw 168 (va_cpy (va_cpy rf rf 24 12 108) (va_cpy rf rf 24 12 108) 0 120 12)]) C kwX9 tyX9 tyX9_ok nmX9 0 rfl rfl 7 (by decide) kfX9_116 rfl rfl rfl (Nat.le_of_ble_eq_true rfl) rfl dX9_keepPast_73 ?_
      exact g_vret C hR (⟨rfl, rfl⟩) dX9_keepPast_76
    · skip
      exact absurd (by decide) c14
  | succ g ih =>
    intro j hj
    refine g_iload_n C dX9_keepPast_11 rfl ?_
    refine g_bipush (v := 108) C dX9_keepPast_12 (by decide) ?_
    refine g_icmp_ge (tgt := 41) C dX9_keepPast_14 (by decide) (fun c14 => ?_) (fun c14 => ?_)
    · skip
      exact absurd ((nI_leI (a := 108) (by decide) (by omega)).mp c14) (by omega)
    · skip
      refine g_aload_n C dX9_keepPast_17 rfl ?_
      refine g_get C kwX9 0 rfl rfl 0 (by decide) kfX9_7 rfl dX9_keepPast_18 ?_
      refine g_bipush (v := 12) C dX9_keepPast_21 (by decide) ?_
      refine g_iload_n C dX9_keepPast_23 rfl ?_
      refine g_iadd C dX9_keepPast_24 ?_
      refine g_topi (v := nI (12 + j)) (nI_add 12 _) ?_
      refine g_aload_n C dX9_keepPast_25 rfl ?_
      refine g_get C kwX9 0 rfl rfl 0 (by decide) kfX9_7 rfl dX9_keepPast_26 ?_
      refine g_bipush (v := 24) C dX9_keepPast_29 (by decide) ?_
      refine g_iload_n C dX9_keepPast_31 rfl ?_
      refine g_iadd C dX9_keepPast_32 ?_
      refine g_topi (v := nI (24 + j)) (nI_add 24 _) ?_
      refine g_iald C 1 (24 + j) rfl (rfl) (by omega) (by decide) dX9_keepPast_33 ?_
      refine g_iast (ws' := [(mo, .inr (9, [.ref rw, .int st0, .int lg, .int sf, .int dg, .ref mh, .ref md, .int (nI 10), .ref mk, .ref mt, .int le, .int sm, .ref z1, .ref z2, .ref z3, .long tr, .int at_, .int be, .int rs, .ref y1, .ref y2, .ref y3, .ref y4, .int nu, .int os, .int od, .int sl, .ref ya, .int fpu, .ref yw, .int wn, .ref yp])), aI E rw 168 (va_cpy rf rf 24 12 (j + 1))]) C 1 (12 + j) rfl (rfl) (by omega) (by decide) (by rw [← cpyR_1 (by omega)]; rfl) dX9_keepPast_34 ?_
      refine g_iinc (v := nI (j + 1)) (lv' := [some (.ref mo), some (.int (nI (j + 1)))]) C dX9_keepPast_35 rfl (nI_add _ 1) (hnl 1 (by decide)) rfl rfl ?_
      refine g_goto (tgt := 11) C dX9_keepPast_38 (by decide) ?_
      exact ih (j + 1) (by omega)

set_option maxHeartbeats 4000000 in
set_option maxRecDepth 100000 in
theorem c_X9_keepPast10 (l : Launch) (E : EX) (mo : Nat) (rw : Nat) (mh : Nat) (md : Nat) (mk : Nat) (mt : Nat) (z1 : Nat) (z2 : Nat) (z3 : Nat) (y1 : Nat) (y2 : Nat) (y3 : Nat) (y4 : Nat) (ya : Nat) (yw : Nat) (yp : Nat) (st0 : Int32) (lg : Int32) (sf : Int32) (dg : Int32) (le : Int32) (sm : Int32) (tr : Int64) (at_ : Int32) (be : Int32) (rs : Int32) (nu : Int32) (os : Int32) (od : Int32) (sl : Int32) (fpu : Int32) (wn : Int32) (rf : Nat → Int32) : Ct l E yX9_keepPast cX9_keepPast 2 none (rmL 2 0 0) [.ref mo] [(mo, .inr (9, [.ref rw, .int st0, .int lg, .int sf, .int dg, .ref mh, .ref md, .int (nI 10), .ref mk, .ref mt, .int le, .int sm, .ref z1, .ref z2, .ref z3, .long tr, .int at_, .int be, .int rs, .ref y1, .ref y2, .ref y3, .ref y4, .int nu, .int os, .int od, .int sl, .ref ya, .int fpu, .ref yw, .int wn, .ref yp])), aI E rw 168 rf] (fun (rv_ : Option Value) (rw_ : va_W) => rv_ = none ∧ rw_ = [(mo, .inr (9, [.ref rw, .int st0, .int lg, .int sf, .int dg, .ref mh, .ref md, .int (nI 10), .ref mk, .ref mt, .int le, .int sm, .ref z1, .ref z2, .ref z3, .long tr, .int at_, .int be, .int rs, .ref y1, .ref y2, .ref y3, .ref y4, .int nu, .int os, .int od, .int sl, .ref ya, .int fpu, .ref yw, .int wn, .ref yp])), aI E rw 168 (va_cpy (va_cpy rf rf 24 12 108) (va_cpy rf rf 24 12 108) 0 120 12)]) 0 0 := by
  refine Ct_of (by decide) (Nat.le_of_ble_eq_true rfl) ?_
  intro k hkl hnl C hR hin_
  subst hkl
  show G k E 0 0 0 [some (.ref mo), none] [] [(mo, .inr (9, [.ref rw, .int st0, .int lg, .int sf, .int dg, .ref mh, .ref md, .int (nI 10), .ref mk, .ref mt, .int le, .int sm, .ref z1, .ref z2, .ref z3, .long tr, .int at_, .int be, .int rs, .ref y1, .ref y2, .ref y3, .ref y4, .int nu, .int os, .int od, .int sl, .ref ya, .int fpu, .ref yw, .int wn, .ref yp])), aI E rw 168 rf]
  refine g_aload_n C dX9_keepPast_0 rfl ?_
  refine g_get C kwX9 0 rfl rfl 7 (by decide) kfX9_116 rfl dX9_keepPast_1 ?_
  refine g_bipush (v := 10) C dX9_keepPast_4 (by decide) ?_
  refine g_icmp_ne (tgt := 51) C dX9_keepPast_6 (by decide) (fun c6 => ?_) (fun c6 => ?_)
  · skip
    exact absurd rfl c6
  · skip
    refine g_iconst (v := 0) C dX9_keepPast_9 (by decide) ?_
    refine g_istore_n (lv' := [some (.ref mo), some (.int 0)]) C dX9_keepPast_10 (hnl 1 (by decide)) rfl rfl ?_
    have h0 := lp_X9_past (rf := rf) C hnl hR 108 0 (by omega)
    rw [cpyR_0] at h0
    exact h0
