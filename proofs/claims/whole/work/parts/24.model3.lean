def kI : Nat → Int32
  | 0 => -1
  | j + 1 => nI j
theorem kI_dec (j : Nat) : nI j + Int32.ofInt (-1) = kI j := by
  cases j with
  | zero => decide
  | succ j => exact pk_m1 j
theorem kI_pred (n : Nat) : nI n - 1 = kI n := by
  cases n with
  | zero => decide
  | succ n => exact nx_pred n

set_option maxHeartbeats 4000000 in
set_option maxRecDepth 100000 in
theorem lp_X9_lf {k : KX} {E : EX} (C : Cx k E cX9_leastFrom RX9 (rmL 5 0 0)) (hnl : ∀ j : Nat, j < 7 → j < k.nL) {mo : Nat} {rw : Nat} {mh : Nat} {md : Nat} {mk : Nat} {mt : Nat} {z1 : Nat} {z2 : Nat} {z3 : Nat} {y1 : Nat} {y2 : Nat} {y3 : Nat} {y4 : Nat} {ya : Nat} {yw : Nat} {yp : Nat} {lg : Int32} {sf : Int32} {dg : Int32} {un : Int32} {le : Int32} {sm : Int32} {tr : Int64} {at_ : Int32} {be : Int32} {rs : Int32} {nu : Int32} {wn : Int32} {n : Nat} {hi : Nat → Int32} {de : Nat → Int32} {mm : Nat → Int32} {af : Nat → Int32} {a : Nat} {u : Nat} (hn : n ≤ 9) (ha : a < n) (hu : u < 100) (hst : sf ≤ 9) (haf : ∀ b w, a < b → b ≤ n → w < 100 → af (100 * b + w) = nI (LL n hi de mm lg sf dg b (nI w)).1) {rz : Nat → Int32} (hR : Rt k E (fun (rv_ : Option Value) (rw_ : va_W) => ∃ (rf2 : Nat → Int32) (sl2 : Int32), rv_ = some (.int (nI (LL n hi de mm lg sf dg a (nI u)).1)) ∧ rw_ = [(mo, .inr (9, [.ref rw, .int (nI n), .int lg, .int sf, .int dg, .ref mh, .ref md, .int un, .ref mk, .ref mt, .int le, .int sm, .ref z1, .ref z2, .ref z3, .long tr, .int at_, .int be, .int rs, .ref y1, .ref y2, .ref y3, .ref y4, .int nu, .int sf, .int dg, .int sl2, .ref ya, .int (nI (LL n hi de mm lg sf dg a (nI u)).2), .ref yw, .int wn, .ref yp])), aI E rw 168 rf2, aI E mh 9 hi, aI E md 9 de, aI E ya 1000 af] ∧ (∀ i, i < 156 → rf2 i = rz i)) 0 0 (some .int)) : ∀ (m : Nat) (b : Nat × Nat) (Kx sl fpu : Int32) (rf : Nat → Int32), Kx = kI m → bestD (cand n hi de mm lg sf dg a (nI u)) m b = LL n hi de mm lg sf dg a (nI u) → (fpu = nI b.2 ∨ b.1 = 99999) → b.1 ≤ 99999 → (∀ s, s < 9 → rf (3 + s) = mm s) → (∀ i, i < 156 → rf i = rz i) → m ≤ 10 → G k E 0 0 7 [some (.ref mo), some (.int (nI a)), some (.int (nI u)), some (.int (nI b.1)), some (.int Kx), none, none] [] [(mo, .inr (9, [.ref rw, .int (nI n), .int lg, .int sf, .int dg, .ref mh, .ref md, .int un, .ref mk, .ref mt, .int le, .int sm, .ref z1, .ref z2, .ref z3, .long tr, .int at_, .int be, .int rs, .ref y1, .ref y2, .ref y3, .ref y4, .int nu, .int sf, .int dg, .int sl, .ref ya, .int fpu, .ref yw, .int wn, .ref yp])), aI E rw 168 rf, aI E mh 9 hi, aI E md 9 de, aI E ya 1000 af] := by
  have hbnd := LL_bd (n := n) (hi := hi) (de := de) (ma := mm) (lg := lg) (dr := dg) (a := a) hst ⟨u, hu, rfl⟩
  intro m
  induction m with
  | zero =>
    intro b Kx sl fpu rf hK hbd hF hb9 hmm hrz _
    subst hK
    have e : b = LL n hi de mm lg sf dg a (nI u) := hbd
    subst e
    have eF := hF.resolve_right (by omega)
    subst eF
    refine g_iload C dX9_leastFrom_7 rfl ?_
    refine g_if_lt (tgt := 132) C dX9_leastFrom_9 (by decide) (fun c9 => ?_) (fun c9 => ?_)
    · skip
      refine g_iload_n C dX9_leastFrom_132 rfl ?_
      exact g_iret C hR (⟨_, _, rfl, rfl, hrz⟩) dX9_leastFrom_133
    · skip
      exact absurd (by decide) c9
  | succ j ih =>
    intro b Kx sl fpu rf hK hbd hF hb9 hmm hrz hj10
    subst hK
    show G k E 0 0 7 [some (.ref mo), some (.int (nI a)), some (.int (nI u)), some (.int (nI b.1)), some (.int (nI j)), none, none] [] [(mo, .inr (9, [.ref rw, .int (nI n), .int lg, .int sf, .int dg, .ref mh, .ref md, .int un, .ref mk, .ref mt, .int le, .int sm, .ref z1, .ref z2, .ref z3, .long tr, .int at_, .int be, .int rs, .ref y1, .ref y2, .ref y3, .ref y4, .int nu, .int sf, .int dg, .int sl, .ref ya, .int fpu, .ref yw, .int wn, .ref yp])), aI E rw 168 rf, aI E mh 9 hi, aI E md 9 de, aI E ya 1000 af]
    refine g_iload C dX9_leastFrom_7 rfl ?_
    refine g_if_lt (tgt := 132) C dX9_leastFrom_9 (by decide) (fun c9 => ?_) (fun c9 => ?_)
    · skip
      exact absurd c9 (Int32.not_lt.mpr (nI_nonneg _ (by omega)))
    · skip
      refine g_iload_n C dX9_leastFrom_12 rfl ?_
      refine g_iload C dX9_leastFrom_13 rfl ?_
      refine g_iadd C dX9_leastFrom_15 ?_
      refine g_callS C (c_X9_bound k.l E ((nI u) + (nI j))) kmX9_134 ktX9_bound knX9 kcX9_bound ⟨rfl, rfl⟩ kdX9_bound ⟨by decide, by decide⟩ ⟨by decide, by decide⟩ [] [0, 1, 2, 3, 4] rfl (wr := [(mo, .inr (9, [.ref rw, .int (nI n), .int lg, .int sf, .int dg, .ref mh, .ref md, .int un, .ref mk, .ref mt, .int le, .int sm, .ref z1, .ref z2, .ref z3, .long tr, .int at_, .int be, .int rs, .ref y1, .ref y2, .ref y3, .ref y4, .int nu, .int sf, .int dg, .int sl, .ref ya, .int fpu, .ref yw, .int wn, .ref yp])), aI E rw 168 rf, aI E mh 9 hi, aI E md 9 de, aI E ya 1000 af]) rfl (by decide +kernel) (by decide +kernel) (by decide +kernel) rfl (As := [.int ((nI u) + (nI j))]) (rest := []) rfl (Nat.le_of_ble_eq_true rfl) dX9_leastFrom_16 (fun rv_ rw_ hp_ => ?_)
      obtain ⟨rfl, rfl⟩ := hp_
      refine g_rep [0, 1, 2, 3, 4] (ws' := [(mo, .inr (9, [.ref rw, .int (nI n), .int lg, .int sf, .int dg, .ref mh, .ref md, .int un, .ref mk, .ref mt, .int le, .int sm, .ref z1, .ref z2, .ref z3, .long tr, .int at_, .int be, .int rs, .ref y1, .ref y2, .ref y3, .ref y4, .int nu, .int sf, .int dg, .int sl, .ref ya, .int fpu, .ref yw, .int wn, .ref yp])), aI E rw 168 rf, aI E mh 9 hi, aI E md 9 de, aI E ya 1000 af]) (st' := [.int (asV ((nI u) + (nI j)))]) (n' := 0) (z' := 0) (pc' := 19) rfl rfl rfl rfl (by decide +kernel) rfl ?_
      refine g_istore (lv' := [some (.ref mo), some (.int (nI a)), some (.int (nI u)), some (.int (nI b.1)), some (.int (nI j)), some (.int (asV ((nI u) + (nI j)))), none]) C dX9_leastFrom_19 (hnl 5 (by decide)) rfl rfl ?_
      refine g_iload C dX9_leastFrom_21 rfl ?_
      refine g_aload_n C dX9_leastFrom_23 rfl ?_
      refine g_get C kwX9 0 rfl rfl 3 (by decide) kfX9_17 rfl dX9_leastFrom_24 ?_
      refine g_icmp_lt (tgt := 126) C dX9_leastFrom_27 (by decide) (fun c27 => ?_) (fun c27 => ?_)
      · skip
        have hcn : cand n hi de mm lg sf dg a (nI u) j = none := by unfold cand candF; exact if_neg (Int32.not_le.mpr c27)
        refine g_iinc (v := kI j) (lv' := [some (.ref mo), some (.int (nI a)), some (.int (nI u)), some (.int (nI b.1)), some (.int (kI j)), some (.int (asV ((nI u) + (nI j)))), none]) C dX9_leastFrom_126 rfl (kI_dec j) (hnl 4 (by decide)) rfl rfl ?_
        refine g_goto (tgt := 7) C dX9_leastFrom_129 (by decide) ?_
        refine g_kill 5 (lv' := [some (.ref mo), some (.int (nI a)), some (.int (nI u)), some (.int (nI b.1)), some (.int (kI j)), none, none]) rfl ?_
        exact ih b _ _ _ rf rfl (by rw [bestD, hcn] at hbd; exact hbd) hF hb9 hmm hrz (by omega)
      · skip
        refine g_aload_n C dX9_leastFrom_30 rfl ?_
        refine g_iconst (v := 0) C dX9_leastFrom_31 (by decide) ?_
        refine g_sipush (v := 156) C dX9_leastFrom_32 (by decide) ?_
        refine g_callV C (c_X9_copyRow k.l E mo rw mh md mk mt z1 z2 z3 y1 y2 y3 y4 ya yw yp (nI n) lg sf dg un le sm tr at_ be rs nu sf dg sl fpu wn rf 0 156 (by decide) (by decide) (Or.inr (by decide))) kmX9_145 kiX9_copyRow ksX9_copyRow knX9 kcX9_copyRow ⟨rfl, rfl⟩ ⟨rfl, kdX9_copyRow⟩ ⟨by decide, by decide⟩ ⟨by decide, by decide⟩ [0, 1] [2, 3, 4] rfl (wr := [aI E mh 9 hi, aI E md 9 de, aI E ya 1000 af]) rfl (by decide +kernel) (by decide +kernel) (by decide +kernel) 0 9 rfl rfl rfl (As := [.int 0, .int 156]) (rest := []) rfl (Nat.le_of_ble_eq_true rfl) dX9_leastFrom_35 (fun rv_ rw_ hp_ => ?_)
        obtain ⟨rfl, rfl⟩ := hp_
        refine g_rep [3, 4, 0, 1, 2] (ws' := [(mo, .inr (9, [.ref rw, .int (nI n), .int lg, .int sf, .int dg, .ref mh, .ref md, .int un, .ref mk, .ref mt, .int le, .int sm, .ref z1, .ref z2, .ref z3, .long tr, .int at_, .int be, .int rs, .ref y1, .ref y2, .ref y3, .ref y4, .int nu, .int sf, .int dg, .int sl, .ref ya, .int fpu, .ref yw, .int wn, .ref yp])), aI E rw 168 (va_cpy rf rf 0 156 12), aI E mh 9 hi, aI E md 9 de, aI E ya 1000 af]) (st' := []) (n' := 0) (z' := 0) (pc' := 38) rfl rfl rfl rfl (by decide +kernel) rfl ?_
        refine g_aload_n C dX9_leastFrom_38 rfl ?_
        refine g_get C kwX9 0 rfl rfl 0 (by decide) kfX9_7 rfl dX9_leastFrom_39 ?_
        refine g_sipush (v := 156) C dX9_leastFrom_42 (by decide) ?_
        refine g_iload_n C dX9_leastFrom_45 rfl ?_
        refine g_iast (ws' := [(mo, .inr (9, [.ref rw, .int (nI n), .int lg, .int sf, .int dg, .ref mh, .ref md, .int un, .ref mk, .ref mt, .int le, .int sm, .ref z1, .ref z2, .ref z3, .long tr, .int at_, .int be, .int rs, .ref y1, .ref y2, .ref y3, .ref y4, .int nu, .int sf, .int dg, .int sl, .ref ya, .int fpu, .ref yw, .int wn, .ref yp])), aI E rw 168 (upd (va_cpy rf rf 0 156 12) 156 (nI a)), aI E mh 9 hi, aI E md 9 de, aI E ya 1000 af]) C 1 156 rfl (rfl) (by decide) (by decide) rfl dX9_leastFrom_46 ?_
        refine g_aload_n C dX9_leastFrom_47 rfl ?_
        refine g_get C kwX9 0 rfl rfl 0 (by decide) kfX9_7 rfl dX9_leastFrom_48 ?_
        refine g_sipush (v := 157) C dX9_leastFrom_51 (by decide) ?_
        refine g_iload C dX9_leastFrom_54 rfl ?_
        refine g_iast (ws' := [(mo, .inr (9, [.ref rw, .int (nI n), .int lg, .int sf, .int dg, .ref mh, .ref md, .int un, .ref mk, .ref mt, .int le, .int sm, .ref z1, .ref z2, .ref z3, .long tr, .int at_, .int be, .int rs, .ref y1, .ref y2, .ref y3, .ref y4, .int nu, .int sf, .int dg, .int sl, .ref ya, .int fpu, .ref yw, .int wn, .ref yp])), aI E rw 168 (upd (upd (va_cpy rf rf 0 156 12) 156 (nI a)) 157 (asV ((nI u) + (nI j)))), aI E mh 9 hi, aI E md 9 de, aI E ya 1000 af]) C 1 157 rfl (rfl) (by decide) (by decide) rfl dX9_leastFrom_56 ?_
        refine g_aload_n C dX9_leastFrom_57 rfl ?_
        refine g_sipush (v := 156) C dX9_leastFrom_58 (by decide) ?_
        refine g_callV C (c_X9_flip k.l E mo rw mh md mk mt z1 z2 z3 y1 y2 y3 y4 ya yw yp lg sf dg un le sm tr at_ be rs nu sf dg sl fpu wn n hi de (upd (upd (va_cpy rf rf 0 156 12) 156 (nI a)) 157 (asV ((nI u) + (nI j)))) mm 156 a (asV (nI u + nI j)) (by first | assumption | omega) (by first | assumption | omega) (by decide) (by rw [pk_un (by decide), pk_us]) (pk_us) (fun s hs => by rw [pk_un (by omega), pk_un (by omega), show 156 + 3 + s = 156 + (3 + s) by omega, cpyR_in (by omega), show 0 + (3 + s) = 3 + s by omega]; exact hmm s hs)) kmX9_142 kiX9_flip ksX9_flip knX9 kcX9_flip ⟨rfl, rfl⟩ ⟨rfl, kdX9_flip⟩ ⟨by decide, by decide⟩ ⟨by decide, by decide⟩ [0, 1, 2, 3] [4] rfl (wr := [aI E ya 1000 af]) rfl (by decide +kernel) (by decide +kernel) (by decide +kernel) 0 9 rfl rfl rfl (As := [.int 156]) (rest := []) rfl (Nat.le_of_ble_eq_true rfl) dX9_leastFrom_61 (fun rv_ rw_ hp_ => ?_)
        obtain ⟨rf2_1, rfl, rfl, g0, g1, g3, g2⟩ := hp_
        refine g_rep [1, 2, 3, 4, 0] (ws' := [(mo, .inr (9, [.ref rw, .int (nI n), .int lg, .int sf, .int dg, .ref mh, .ref md, .int un, .ref mk, .ref mt, .int le, .int sm, .ref z1, .ref z2, .ref z3, .long tr, .int at_, .int be, .int rs, .ref y1, .ref y2, .ref y3, .ref y4, .int nu, .int sf, .int dg, .int ((turnF n hi de mm lg sf dg a (asV (nI u + nI j)) sl).2.2), .ref ya, .int fpu, .ref yw, .int wn, .ref yp])), aI E rw 168 rf2_1, aI E mh 9 hi, aI E md 9 de, aI E ya 1000 af]) (st' := []) (n' := 0) (z' := 0) (pc' := 64) rfl rfl rfl rfl (by decide +kernel) rfl ?_
        obtain ⟨u2, hu2, eu2⟩ := turnF_ok (n := n) (hi := hi) (de := de) (ma := mm) (lg := lg) (st := sf) (dr := dg) (a := a) (v := asV (nI u + nI j)) (sl := sl)
        have hge := Int32.not_lt.mp c27
        have hgt := turnF_gt (n := n) (hi := hi) (de := de) (ma := mm) (lg := lg) (dr := dg) (a := a) (sl := sl) hge
        have hle := (turnF_le (n := n) (hi := hi) (de := de) (ma := mm) (lg := lg) (st := sf) (dr := dg) (a := a) (v := asV (nI u + nI j)) (sl := sl) ha).2
        have hs0 := turnF_sl (n := n) (hi := hi) (de := de) (ma := mm) (lg := lg) (st := sf) (dr := dg) (a := a) (v := asV (nI u + nI j)) (sl := sl) (sl' := 0)
        have hc : cand n hi de mm lg sf dg a (nI u) j = some (j + (LL n hi de mm lg sf dg (turnF n hi de mm lg sf dg a (asV (nI u + nI j)) sl).1 (nI u2)).1) := by unfold cand candF; rw [if_pos hge, ← hs0.1, ← hs0.2, eu2]
        have hcb := cand_bd hst hc
        refine g_iload C dX9_leastFrom_64 rfl ?_
        refine g_aload_n C dX9_leastFrom_66 rfl ?_
        refine g_get C kwX9 0 rfl rfl 27 (by decide) kfX9_57 rfl dX9_leastFrom_67 ?_
        refine g_bipush (v := 100) C dX9_leastFrom_70 (by decide) ?_
        refine g_aload_n C dX9_leastFrom_72 rfl ?_
        refine g_get C kwX9 0 rfl rfl 0 (by decide) kfX9_7 rfl dX9_leastFrom_73 ?_
        refine g_sipush (v := 156) C dX9_leastFrom_76 (by decide) ?_
        refine g_iald C 1 156 rfl (rfl) (by decide) (by decide) dX9_leastFrom_79 ?_
        refine g_topi (v := nI (turnF n hi de mm lg sf dg a (asV (nI u + nI j)) sl).1) (g0) ?_
        refine g_imul C dX9_leastFrom_80 ?_
        refine g_topi (v := nI (100 * (turnF n hi de mm lg sf dg a (asV (nI u + nI j)) sl).1)) (pk_mul 100 _) ?_
        refine g_aload_n C dX9_leastFrom_81 rfl ?_
        refine g_get C kwX9 0 rfl rfl 0 (by decide) kfX9_7 rfl dX9_leastFrom_82 ?_
        refine g_sipush (v := 157) C dX9_leastFrom_85 (by decide) ?_
        refine g_iald C 1 157 rfl (rfl) (by decide) (by decide) dX9_leastFrom_88 ?_
        refine g_topi (v := nI u2) (by rw [show (157 : Nat) = 156 + 1 from rfl, g1]; exact eu2) ?_
        refine g_iadd C dX9_leastFrom_89 ?_
        refine g_topi (v := nI (100 * (turnF n hi de mm lg sf dg a (asV (nI u + nI j)) sl).1 + u2)) (nI_add _ _) ?_
        refine g_iald C 4 (100 * (turnF n hi de mm lg sf dg a (asV (nI u + nI j)) sl).1 + u2) rfl (rfl) (by omega) (by decide) dX9_leastFrom_90 ?_
        refine g_topi (v := nI (LL n hi de mm lg sf dg (turnF n hi de mm lg sf dg a (asV (nI u + nI j)) sl).1 (nI u2)).1) (haf _ _ (by omega) hle hu2) ?_
        refine g_iadd C dX9_leastFrom_91 ?_
        refine g_topi (v := nI (j + (LL n hi de mm lg sf dg (turnF n hi de mm lg sf dg a (asV (nI u + nI j)) sl).1 (nI u2)).1)) (nI_add _ _) ?_
        refine g_istore (lv' := [some (.ref mo), some (.int (nI a)), some (.int (nI u)), some (.int (nI b.1)), some (.int (nI j)), some (.int (asV ((nI u) + (nI j)))), some (.int (nI (j + (LL n hi de mm lg sf dg (turnF n hi de mm lg sf dg a (asV (nI u + nI j)) sl).1 (nI u2)).1)))]) C dX9_leastFrom_92 (hnl 6 (by decide)) rfl rfl ?_
        refine g_aload_n C dX9_leastFrom_94 rfl ?_
        refine g_iload C dX9_leastFrom_95 rfl ?_
        refine g_iload_n C dX9_leastFrom_97 rfl ?_
        refine g_icmp_gt (tgt := 106) C dX9_leastFrom_98 (by decide) (fun c98 => ?_) (fun c98 => ?_)
        · skip
          have hle2 : ¬ j + (LL n hi de mm lg sf dg (turnF n hi de mm lg sf dg a (asV (nI u + nI j)) sl).1 (nI u2)).1 ≤ b.1 := by have := (nI_ltI (by omega) (by omega)).mp c98; omega
          refine g_aload_n C dX9_leastFrom_106 rfl ?_
          refine g_get C kwX9 0 rfl rfl 28 (by decide) kfX9_153 rfl dX9_leastFrom_107 ?_
          refine g_put (ws' := [(mo, .inr (9, [.ref rw, .int (nI n), .int lg, .int sf, .int dg, .ref mh, .ref md, .int un, .ref mk, .ref mt, .int le, .int sm, .ref z1, .ref z2, .ref z3, .long tr, .int at_, .int be, .int rs, .ref y1, .ref y2, .ref y3, .ref y4, .int nu, .int sf, .int dg, .int ((turnF n hi de mm lg sf dg a (asV (nI u + nI j)) sl).2.2), .ref ya, .int fpu, .ref yw, .int wn, .ref yp])), aI E rw 168 rf2_1, aI E mh 9 hi, aI E md 9 de, aI E ya 1000 af]) C kwX9 tyX9 tyX9_ok nmX9 0 rfl rfl 28 (by decide) kfX9_153 rfl rfl rfl (Nat.le_of_ble_eq_true rfl) rfl dX9_leastFrom_110 ?_
          refine g_iload C dX9_leastFrom_113 rfl ?_
          refine g_iload_n C dX9_leastFrom_115 rfl ?_
          refine g_icmp_gt (tgt := 124) C dX9_leastFrom_116 (by decide) (fun c116 => ?_) (fun c116 => ?_)
          · skip
            refine g_iload_n C dX9_leastFrom_124 rfl ?_
            refine g_istore_n (lv' := [some (.ref mo), some (.int (nI a)), some (.int (nI u)), some (.int (nI b.1)), some (.int (nI j)), some (.int (asV ((nI u) + (nI j)))), some (.int (nI (j + (LL n hi de mm lg sf dg (turnF n hi de mm lg sf dg a (asV (nI u + nI j)) sl).1 (nI u2)).1)))]) C dX9_leastFrom_125 (hnl 3 (by decide)) rfl rfl ?_
            refine g_iinc (v := kI j) (lv' := [some (.ref mo), some (.int (nI a)), some (.int (nI u)), some (.int (nI b.1)), some (.int (kI j)), some (.int (asV ((nI u) + (nI j)))), some (.int (nI (j + (LL n hi de mm lg sf dg (turnF n hi de mm lg sf dg a (asV (nI u + nI j)) sl).1 (nI u2)).1)))]) C dX9_leastFrom_126 rfl (kI_dec j) (hnl 4 (by decide)) rfl rfl ?_
            refine g_goto (tgt := 7) C dX9_leastFrom_129 (by decide) ?_
            refine g_kill 6 (lv' := [some (.ref mo), some (.int (nI a)), some (.int (nI u)), some (.int (nI b.1)), some (.int (kI j)), some (.int (asV ((nI u) + (nI j)))), none]) rfl ?_
            refine g_kill 5 (lv' := [some (.ref mo), some (.int (nI a)), some (.int (nI u)), some (.int (nI b.1)), some (.int (kI j)), none, none]) rfl ?_
            exact ih b _ _ _ _ rfl (by rw [bestD, hc] at hbd; simp only [if_neg hle2] at hbd; exact hbd) hF hb9 (fun s hs => by rw [g2 _ (by omega) (by omega) (by omega), pk_un (by omega), pk_un (by omega), cpyR_out (by omega)]; exact hmm s hs) (fun i q => by rw [g2 _ (by omega) (by omega) (by omega), pk_un (by omega), pk_un (by omega), cpyR_out (by omega)]; exact hrz i q) (by omega)
          · skip
            exact absurd c98 c116
        · skip
          have hle2 : j + (LL n hi de mm lg sf dg (turnF n hi de mm lg sf dg a (asV (nI u + nI j)) sl).1 (nI u2)).1 ≤ b.1 := nx_nlt (by omega) (by omega) c98
          refine g_iload C dX9_leastFrom_101 rfl ?_
          refine g_goto (tgt := 110) C dX9_leastFrom_103 (by decide) ?_
          refine g_put (ws' := [(mo, .inr (9, [.ref rw, .int (nI n), .int lg, .int sf, .int dg, .ref mh, .ref md, .int un, .ref mk, .ref mt, .int le, .int sm, .ref z1, .ref z2, .ref z3, .long tr, .int at_, .int be, .int rs, .ref y1, .ref y2, .ref y3, .ref y4, .int nu, .int sf, .int dg, .int ((turnF n hi de mm lg sf dg a (asV (nI u + nI j)) sl).2.2), .ref ya, .int (nI j), .ref yw, .int wn, .ref yp])), aI E rw 168 rf2_1, aI E mh 9 hi, aI E md 9 de, aI E ya 1000 af]) C kwX9 tyX9 tyX9_ok nmX9 0 rfl rfl 28 (by decide) kfX9_153 rfl rfl rfl (Nat.le_of_ble_eq_true rfl) rfl dX9_leastFrom_110 ?_
          refine g_iload C dX9_leastFrom_113 rfl ?_
          refine g_iload_n C dX9_leastFrom_115 rfl ?_
          refine g_icmp_gt (tgt := 124) C dX9_leastFrom_116 (by decide) (fun c116 => ?_) (fun c116 => ?_)
          · skip
            exact absurd c116 c98
          · skip
            refine g_iload C dX9_leastFrom_119 rfl ?_
            refine g_goto (tgt := 125) C dX9_leastFrom_121 (by decide) ?_
            refine g_istore_n (lv' := [some (.ref mo), some (.int (nI a)), some (.int (nI u)), some (.int (nI (j + (LL n hi de mm lg sf dg (turnF n hi de mm lg sf dg a (asV (nI u + nI j)) sl).1 (nI u2)).1))), some (.int (nI j)), some (.int (asV ((nI u) + (nI j)))), some (.int (nI (j + (LL n hi de mm lg sf dg (turnF n hi de mm lg sf dg a (asV (nI u + nI j)) sl).1 (nI u2)).1)))]) C dX9_leastFrom_125 (hnl 3 (by decide)) rfl rfl ?_
            refine g_iinc (v := kI j) (lv' := [some (.ref mo), some (.int (nI a)), some (.int (nI u)), some (.int (nI (j + (LL n hi de mm lg sf dg (turnF n hi de mm lg sf dg a (asV (nI u + nI j)) sl).1 (nI u2)).1))), some (.int (kI j)), some (.int (asV ((nI u) + (nI j)))), some (.int (nI (j + (LL n hi de mm lg sf dg (turnF n hi de mm lg sf dg a (asV (nI u + nI j)) sl).1 (nI u2)).1)))]) C dX9_leastFrom_126 rfl (kI_dec j) (hnl 4 (by decide)) rfl rfl ?_
            refine g_goto (tgt := 7) C dX9_leastFrom_129 (by decide) ?_
            refine g_kill 6 (lv' := [some (.ref mo), some (.int (nI a)), some (.int (nI u)), some (.int (nI (j + (LL n hi de mm lg sf dg (turnF n hi de mm lg sf dg a (asV (nI u + nI j)) sl).1 (nI u2)).1))), some (.int (kI j)), some (.int (asV ((nI u) + (nI j)))), none]) rfl ?_
            refine g_kill 5 (lv' := [some (.ref mo), some (.int (nI a)), some (.int (nI u)), some (.int (nI (j + (LL n hi de mm lg sf dg (turnF n hi de mm lg sf dg a (asV (nI u + nI j)) sl).1 (nI u2)).1))), some (.int (kI j)), none, none]) rfl ?_
            exact ih (j + (LL n hi de mm lg sf dg (turnF n hi de mm lg sf dg a (asV (nI u + nI j)) sl).1 (nI u2)).1, j) _ _ _ _ rfl (by rw [bestD, hc] at hbd; simp only [if_pos hle2] at hbd; exact hbd) (Or.inl rfl) (by show j + _ ≤ 99999; omega) (fun s hs => by rw [g2 _ (by omega) (by omega) (by omega), pk_un (by omega), pk_un (by omega), cpyR_out (by omega)]; exact hmm s hs) (fun i q => by rw [g2 _ (by omega) (by omega) (by omega), pk_un (by omega), pk_un (by omega), cpyR_out (by omega)]; exact hrz i q) (by omega)

set_option maxHeartbeats 4000000 in
set_option maxRecDepth 100000 in
theorem c_X9_leastFrom (l : Launch) (E : EX) (mo : Nat) (rw : Nat) (mh : Nat) (md : Nat) (mk : Nat) (mt : Nat) (z1 : Nat) (z2 : Nat) (z3 : Nat) (y1 : Nat) (y2 : Nat) (y3 : Nat) (y4 : Nat) (ya : Nat) (yw : Nat) (yp : Nat) (lg : Int32) (sf : Int32) (dg : Int32) (un : Int32) (le : Int32) (sm : Int32) (tr : Int64) (at_ : Int32) (be : Int32) (rs : Int32) (nu : Int32) (sl : Int32) (fpu : Int32) (wn : Int32) (n : Nat) (hi : Nat → Int32) (de : Nat → Int32) (rf : Nat → Int32) (mm : Nat → Int32) (af : Nat → Int32) (a : Nat) (u : Nat) (hn : n ≤ 9) (ha : a < n) (hu : u < 100) (hst : sf ≤ 9) (hmm : ∀ s, s < 9 → rf (3 + s) = mm s) (haf : ∀ b w, a < b → b ≤ n → w < 100 → af (100 * b + w) = nI (LL n hi de mm lg sf dg b (nI w)).1) : Ct l E yX9_leastFrom cX9_leastFrom 7 (some .int) (rmL 5 0 0) [.ref mo, .int (nI a), .int (nI u)] [(mo, .inr (9, [.ref rw, .int (nI n), .int lg, .int sf, .int dg, .ref mh, .ref md, .int un, .ref mk, .ref mt, .int le, .int sm, .ref z1, .ref z2, .ref z3, .long tr, .int at_, .int be, .int rs, .ref y1, .ref y2, .ref y3, .ref y4, .int nu, .int sf, .int dg, .int sl, .ref ya, .int fpu, .ref yw, .int wn, .ref yp])), aI E rw 168 rf, aI E mh 9 hi, aI E md 9 de, aI E ya 1000 af] (fun (rv_ : Option Value) (rw_ : va_W) => ∃ (rf2 : Nat → Int32) (sl2 : Int32), rv_ = some (.int (nI (LL n hi de mm lg sf dg a (nI u)).1)) ∧ rw_ = [(mo, .inr (9, [.ref rw, .int (nI n), .int lg, .int sf, .int dg, .ref mh, .ref md, .int un, .ref mk, .ref mt, .int le, .int sm, .ref z1, .ref z2, .ref z3, .long tr, .int at_, .int be, .int rs, .ref y1, .ref y2, .ref y3, .ref y4, .int nu, .int sf, .int dg, .int sl2, .ref ya, .int (nI (LL n hi de mm lg sf dg a (nI u)).2), .ref yw, .int wn, .ref yp])), aI E rw 168 rf2, aI E mh 9 hi, aI E md 9 de, aI E ya 1000 af] ∧ (∀ i, i < 156 → rf2 i = rf i)) 0 0 := by
  refine Ct_of (by decide) (Nat.le_of_ble_eq_true rfl) ?_
  intro k hkl hnl C hR hin_
  subst hkl
  show G k E 0 0 0 [some (.ref mo), some (.int (nI a)), some (.int (nI u)), none, none, none, none] [] [(mo, .inr (9, [.ref rw, .int (nI n), .int lg, .int sf, .int dg, .ref mh, .ref md, .int un, .ref mk, .ref mt, .int le, .int sm, .ref z1, .ref z2, .ref z3, .long tr, .int at_, .int be, .int rs, .ref y1, .ref y2, .ref y3, .ref y4, .int nu, .int sf, .int dg, .int sl, .ref ya, .int fpu, .ref yw, .int wn, .ref yp])), aI E rw 168 rf, aI E mh 9 hi, aI E md 9 de, aI E ya 1000 af]
  refine g_ldc C dX9_leastFrom_0 kkX9_152 ?_
  refine g_istore_n (lv' := [some (.ref mo), some (.int (nI a)), some (.int (nI u)), some (.int 99999), none, none, none]) C dX9_leastFrom_2 (hnl 3 (by decide)) rfl rfl ?_
  refine g_bipush (v := 9) C dX9_leastFrom_3 (by decide) ?_
  refine g_istore (lv' := [some (.ref mo), some (.int (nI a)), some (.int (nI u)), some (.int 99999), some (.int 9), none, none]) C dX9_leastFrom_5 (hnl 4 (by decide)) rfl rfl ?_
  exact lp_X9_lf C hnl hn ha hu hst haf hR 10 (99999, 0) _ _ _ rf rfl (LL_eq hn ha).symm (Or.inr rfl) (Nat.le_refl _) hmm (fun _ _ => rfl) (Nat.le_refl _)

set_option maxHeartbeats 4000000 in
set_option maxRecDepth 100000 in
theorem tl_X9_fw {k : KX} {E : EX} (C : Cx k E cX9_fewest RX9 (rmL 6 0 0)) (hnl : ∀ j : Nat, j < 3 → j < k.nL) {mo : Nat} {rw : Nat} {mh : Nat} {md : Nat} {mk : Nat} {mt : Nat} {z1 : Nat} {z2 : Nat} {z3 : Nat} {y1 : Nat} {y2 : Nat} {y3 : Nat} {y4 : Nat} {ya : Nat} {yw : Nat} {yp : Nat} {lg : Int32} {sf : Int32} {dg : Int32} {un : Int32} {le : Int32} {sm : Int32} {tr : Int64} {at_ : Int32} {be : Int32} {rs : Int32} {nu : Int32} {wn : Int32} {n : Nat} {hi : Nat → Int32} {de : Nat → Int32} {mm : Nat → Int32} {a : Nat} {u : Nat} (hn : n ≤ 9) (ha : a ≤ n) (hu : u < 100) (hst : sf ≤ 9) {rz : Nat → Int32} (hR : Rt k E (fun (rv_ : Option Value) (rw_ : va_W) => ∃ (rf2 : Nat → Int32) (af2 : Nat → Int32) (sl2 : Int32) (fp2 : Int32), rv_ = some (.int (nI (LL n hi de mm lg sf dg a (nI u)).1)) ∧ rw_ = [(mo, .inr (9, [.ref rw, .int (nI n), .int lg, .int sf, .int dg, .ref mh, .ref md, .int un, .ref mk, .ref mt, .int le, .int sm, .ref z1, .ref z2, .ref z3, .long tr, .int at_, .int be, .int rs, .ref y1, .ref y2, .ref y3, .ref y4, .int nu, .int sf, .int dg, .int sl2, .ref ya, .int fp2, .ref yw, .int wn, .ref yp])), aI E rw 168 rf2, aI E mh 9 hi, aI E md 9 de, aI E ya 1000 af2] ∧ (∀ i, i < 156 → rf2 i = rz i) ∧ (a < n → fp2 = nI (LL n hi de mm lg sf dg a (nI u)).2)) 0 0 (some .int)) : ∀ (rf af : Nat → Int32) (sl fpu : Int32), rf 0 = nI a → rf 1 = nI u → (∀ s, s < 9 → rf (3 + s) = mm s) → (∀ i, i < 156 → rf i = rz i) → (∀ b w, a + 1 ≤ b → b ≤ n → w < 100 → af (100 * b + w) = nI (LL n hi de mm lg sf dg b (nI w)).1) → G k E 0 0 92 [some (.ref mo), none, none] [] [(mo, .inr (9, [.ref rw, .int (nI n), .int lg, .int sf, .int dg, .ref mh, .ref md, .int un, .ref mk, .ref mt, .int le, .int sm, .ref z1, .ref z2, .ref z3, .long tr, .int at_, .int be, .int rs, .ref y1, .ref y2, .ref y3, .ref y4, .int nu, .int sf, .int dg, .int sl, .ref ya, .int fpu, .ref yw, .int wn, .ref yp])), aI E rw 168 rf, aI E mh 9 hi, aI E md 9 de, aI E ya 1000 af] := by
  intro rf af sl fpu h0 h1 hmm hrz haf
  refine g_aload_n C dX9_fewest_92 rfl ?_
  refine g_get C kwX9 0 rfl rfl 0 (by decide) kfX9_7 rfl dX9_fewest_93 ?_
  refine g_iconst (v := 0) C dX9_fewest_96 (by decide) ?_
  refine g_iald C 1 0 rfl (rfl) (by decide) (by decide) dX9_fewest_97 ?_
  refine g_topi (v := nI a) (h0) ?_
  refine g_aload_n C dX9_fewest_98 rfl ?_
  refine g_get C kwX9 0 rfl rfl 1 (by decide) kfX9_66 rfl dX9_fewest_99 ?_
  refine g_icmp_ne (tgt := 109) C dX9_fewest_102 (by decide) (fun c102 => ?_) (fun c102 => ?_)
  · skip
    have ha2 := nI_ne_lt ha hn c102
    refine g_aload_n C dX9_fewest_109 rfl ?_
    refine g_aload_n C dX9_fewest_110 rfl ?_
    refine g_get C kwX9 0 rfl rfl 0 (by decide) kfX9_7 rfl dX9_fewest_111 ?_
    refine g_iconst (v := 0) C dX9_fewest_114 (by decide) ?_
    refine g_iald C 1 0 rfl (rfl) (by decide) (by decide) dX9_fewest_115 ?_
    refine g_topi (v := nI a) (h0) ?_
    refine g_aload_n C dX9_fewest_116 rfl ?_
    refine g_get C kwX9 0 rfl rfl 0 (by decide) kfX9_7 rfl dX9_fewest_117 ?_
    refine g_iconst (v := 1) C dX9_fewest_120 (by decide) ?_
    refine g_iald C 1 1 rfl (rfl) (by decide) (by decide) dX9_fewest_121 ?_
    refine g_topi (v := nI u) (h1) ?_
    refine g_callV C (c_X9_leastFrom k.l E mo rw mh md mk mt z1 z2 z3 y1 y2 y3 y4 ya yw yp lg sf dg un le sm tr at_ be rs nu sl fpu wn n hi de rf mm af a u (by first | assumption | omega) (ha2) (by first | assumption | omega) (by first | assumption | omega) (by first | assumption | omega) (fun b w q1 q2 q3 => haf b w q1 q2 q3)) kmX9_156 kiX9_leastFrom ksX9_leastFrom knX9 kcX9_leastFrom ⟨rfl, rfl⟩ ⟨rfl, kdX9_leastFrom⟩ ⟨by decide, by decide⟩ ⟨by decide, by decide⟩ [0, 1, 2, 3, 4] [] rfl (wr := []) rfl (by decide +kernel) (by decide +kernel) (by decide +kernel) 0 9 rfl rfl rfl (As := [.int (nI a), .int (nI u)]) (rest := []) rfl (Nat.le_of_ble_eq_true rfl) dX9_fewest_122 (fun rv_ rw_ hp_ => ?_)
    obtain ⟨rf2_1, sl2_2, rfl, rfl, g2⟩ := hp_
    refine g_rep [0, 1, 2, 3, 4] (ws' := [(mo, .inr (9, [.ref rw, .int (nI n), .int lg, .int sf, .int dg, .ref mh, .ref md, .int un, .ref mk, .ref mt, .int le, .int sm, .ref z1, .ref z2, .ref z3, .long tr, .int at_, .int be, .int rs, .ref y1, .ref y2, .ref y3, .ref y4, .int nu, .int sf, .int dg, .int sl2_2, .ref ya, .int (nI (LL n hi de mm lg sf dg a (nI u)).2), .ref yw, .int wn, .ref yp])), aI E rw 168 rf2_1, aI E mh 9 hi, aI E md 9 de, aI E ya 1000 af]) (st' := [.int (nI (LL n hi de mm lg sf dg a (nI u)).1)]) (n' := 0) (z' := 0) (pc' := 125) rfl rfl rfl rfl (by decide +kernel) rfl ?_
    exact g_iret C hR (⟨_, _, _, _, rfl, rfl, fun i q => by rw [g2 i q]; exact hrz i q, fun _ => rfl⟩) dX9_fewest_125
  · skip
    have ean : a = n := (nI_eq (by omega) (by omega)).mp c102
    refine g_iconst (v := 0) C dX9_fewest_105 (by decide) ?_
    refine g_goto (tgt := 125) C dX9_fewest_106 (by decide) ?_
    exact g_iret C hR (⟨rf, af, _, _, by rw [LL_floor (by omega)]; rfl, rfl, hrz, fun q => absurd q (by omega)⟩) dX9_fewest_125

set_option maxHeartbeats 4000000 in
set_option maxRecDepth 100000 in
theorem lpi_X9_fw {k : KX} {E : EX} (C : Cx k E cX9_fewest RX9 (rmL 6 0 0)) (hnl : ∀ j : Nat, j < 3 → j < k.nL) {mo : Nat} {rw : Nat} {mh : Nat} {md : Nat} {mk : Nat} {mt : Nat} {z1 : Nat} {z2 : Nat} {z3 : Nat} {y1 : Nat} {y2 : Nat} {y3 : Nat} {y4 : Nat} {ya : Nat} {yw : Nat} {yp : Nat} {lg : Int32} {sf : Int32} {dg : Int32} {un : Int32} {le : Int32} {sm : Int32} {tr : Int64} {at_ : Int32} {be : Int32} {rs : Int32} {nu : Int32} {wn : Int32} {n : Nat} {hi : Nat → Int32} {de : Nat → Int32} {mm : Nat → Int32} {a : Nat} {u : Nat} (hn : n ≤ 9) (ha : a ≤ n) (hu : u < 100) (hst : sf ≤ 9) {rz : Nat → Int32} {j : Nat} (hj : j < n) (haj : a < j) (kout : ∀ (rf af : Nat → Int32) (sl fpu : Int32), rf 0 = nI a → rf 1 = nI u → (∀ s, s < 9 → rf (3 + s) = mm s) → (∀ i, i < 156 → rf i = rz i) → (∀ b w, j ≤ b → b ≤ n → w < 100 → af (100 * b + w) = nI (LL n hi de mm lg sf dg b (nI w)).1) → G k E 0 0 86 [some (.ref mo), some (.int (nI j)), some (.int (nI 100))] [] [(mo, .inr (9, [.ref rw, .int (nI n), .int lg, .int sf, .int dg, .ref mh, .ref md, .int un, .ref mk, .ref mt, .int le, .int sm, .ref z1, .ref z2, .ref z3, .long tr, .int at_, .int be, .int rs, .ref y1, .ref y2, .ref y3, .ref y4, .int nu, .int sf, .int dg, .int sl, .ref ya, .int fpu, .ref yw, .int wn, .ref yp])), aI E rw 168 rf, aI E mh 9 hi, aI E md 9 de, aI E ya 1000 af]) : ∀ (g x0 : Nat) (rf af : Nat → Int32) (sl fpu : Int32), x0 + g = 100 → rf 0 = nI a → rf 1 = nI u → (∀ s, s < 9 → rf (3 + s) = mm s) → (∀ i, i < 156 → rf i = rz i) → (∀ b w, j + 1 ≤ b → b ≤ n → w < 100 → af (100 * b + w) = nI (LL n hi de mm lg sf dg b (nI w)).1) → (∀ w, w < x0 → af (100 * j + w) = nI (LL n hi de mm lg sf dg j (nI w)).1) → G k E 0 0 57 [some (.ref mo), some (.int (nI j)), some (.int (nI x0))] [] [(mo, .inr (9, [.ref rw, .int (nI n), .int lg, .int sf, .int dg, .ref mh, .ref md, .int un, .ref mk, .ref mt, .int le, .int sm, .ref z1, .ref z2, .ref z3, .long tr, .int at_, .int be, .int rs, .ref y1, .ref y2, .ref y3, .ref y4, .int nu, .int sf, .int dg, .int sl, .ref ya, .int fpu, .ref yw, .int wn, .ref yp])), aI E rw 168 rf, aI E mh 9 hi, aI E md 9 de, aI E ya 1000 af] := by
  intro g
  induction g with
  | zero =>
    intro x0 rf af sl fpu hx h0 h1 hmm hrz haf hw
    have e : x0 = 100 := by omega
    subst e
    refine g_iload_n C dX9_fewest_57 rfl ?_
    refine g_bipush (v := 100) C dX9_fewest_58 (by decide) ?_
    refine g_icmp_ge (tgt := 86) C dX9_fewest_60 (by decide) (fun c60 => ?_) (fun c60 => ?_)
    · skip
      exact kout rf af sl fpu h0 h1 hmm hrz (fun b w q1 q2 q3 => by by_cases e : b = j; subst e; exact hw w q3; exact haf b w (by omega) q2 q3)
    · skip
      exact absurd (by decide) c60
  | succ g ih =>
    intro x0 rf af sl fpu hx h0 h1 hmm hrz haf hw
    refine g_iload_n C dX9_fewest_57 rfl ?_
    refine g_bipush (v := 100) C dX9_fewest_58 (by decide) ?_
    refine g_icmp_ge (tgt := 86) C dX9_fewest_60 (by decide) (fun c60 => ?_) (fun c60 => ?_)
    · skip
      exact absurd ((nI_leI (a := 100) (by decide) (by omega)).mp c60) (by omega)
    · skip
      refine g_aload_n C dX9_fewest_63 rfl ?_
      refine g_get C kwX9 0 rfl rfl 27 (by decide) kfX9_57 rfl dX9_fewest_64 ?_
      refine g_bipush (v := 100) C dX9_fewest_67 (by decide) ?_
      refine g_iload_n C dX9_fewest_69 rfl ?_
      refine g_imul C dX9_fewest_70 ?_
      refine g_topi (v := nI (100 * j)) (pk_mul 100 j) ?_
      refine g_iload_n C dX9_fewest_71 rfl ?_
      refine g_iadd C dX9_fewest_72 ?_
      refine g_topi (v := nI (100 * j + x0)) (nI_add _ _) ?_
      refine g_aload_n C dX9_fewest_73 rfl ?_
      refine g_iload_n C dX9_fewest_74 rfl ?_
      refine g_iload_n C dX9_fewest_75 rfl ?_
      refine g_callV C (c_X9_leastFrom k.l E mo rw mh md mk mt z1 z2 z3 y1 y2 y3 y4 ya yw yp lg sf dg un le sm tr at_ be rs nu sl fpu wn n hi de rf mm af j x0 (by first | assumption | omega) (hj) (by omega) (by first | assumption | omega) (by first | assumption | omega) (fun b w q1 q2 q3 => haf b w q1 q2 q3)) kmX9_156 kiX9_leastFrom ksX9_leastFrom knX9 kcX9_leastFrom ⟨rfl, rfl⟩ ⟨rfl, kdX9_leastFrom⟩ ⟨by decide, by decide⟩ ⟨by decide, by decide⟩ [0, 1, 2, 3, 4] [] rfl (wr := []) rfl (by decide +kernel) (by decide +kernel) (by decide +kernel) 0 9 rfl rfl rfl (As := [.int (nI j), .int (nI x0)]) (rest := [.int (nI (100 * j + x0)), .ref ya]) rfl (Nat.le_of_ble_eq_true rfl) dX9_fewest_76 (fun rv_ rw_ hp_ => ?_)
      obtain ⟨rf2_1, sl2_2, rfl, rfl, g2⟩ := hp_
      refine g_rep [0, 1, 2, 3, 4] (ws' := [(mo, .inr (9, [.ref rw, .int (nI n), .int lg, .int sf, .int dg, .ref mh, .ref md, .int un, .ref mk, .ref mt, .int le, .int sm, .ref z1, .ref z2, .ref z3, .long tr, .int at_, .int be, .int rs, .ref y1, .ref y2, .ref y3, .ref y4, .int nu, .int sf, .int dg, .int sl2_2, .ref ya, .int (nI (LL n hi de mm lg sf dg j (nI x0)).2), .ref yw, .int wn, .ref yp])), aI E rw 168 rf2_1, aI E mh 9 hi, aI E md 9 de, aI E ya 1000 af]) (st' := [.int (nI (LL n hi de mm lg sf dg j (nI x0)).1), .int (nI (100 * j + x0)), .ref ya]) (n' := 0) (z' := 0) (pc' := 79) rfl rfl rfl rfl (by decide +kernel) rfl ?_
      refine g_iast (ws' := [(mo, .inr (9, [.ref rw, .int (nI n), .int lg, .int sf, .int dg, .ref mh, .ref md, .int un, .ref mk, .ref mt, .int le, .int sm, .ref z1, .ref z2, .ref z3, .long tr, .int at_, .int be, .int rs, .ref y1, .ref y2, .ref y3, .ref y4, .int nu, .int sf, .int dg, .int sl2_2, .ref ya, .int (nI (LL n hi de mm lg sf dg j (nI x0)).2), .ref yw, .int wn, .ref yp])), aI E rw 168 rf2_1, aI E mh 9 hi, aI E md 9 de, aI E ya 1000 (upd af (100 * j + x0) (nI (LL n hi de mm lg sf dg j (nI x0)).1))]) C 4 (100 * j + x0) rfl (rfl) (by omega) (by decide) rfl dX9_fewest_79 ?_
      refine g_iinc (v := nI (x0 + 1)) (lv' := [some (.ref mo), some (.int (nI j)), some (.int (nI (x0 + 1)))]) C dX9_fewest_80 rfl (nI_add _ 1) (hnl 2 (by decide)) rfl rfl ?_
      refine g_goto (tgt := 57) C dX9_fewest_83 (by decide) ?_
      exact ih (x0 + 1) _ _ _ _ (by omega) (by rw [g2 _ (by decide)]; exact h0) (by rw [g2 _ (by decide)]; exact h1) (fun s hs => by rw [g2 _ (by omega)]; exact hmm s hs) (fun i q => by rw [g2 i q]; exact hrz i q) (fun b w q1 q2 q3 => by rw [pk_un (by omega)]; exact haf b w q1 q2 q3) (fun w q => by by_cases e : w = x0; subst e; rw [pk_us]; rw [pk_un (by omega)]; exact hw w (by omega))

set_option maxHeartbeats 4000000 in
set_option maxRecDepth 100000 in
theorem lpo_X9_fw {k : KX} {E : EX} (C : Cx k E cX9_fewest RX9 (rmL 6 0 0)) (hnl : ∀ j : Nat, j < 3 → j < k.nL) {mo : Nat} {rw : Nat} {mh : Nat} {md : Nat} {mk : Nat} {mt : Nat} {z1 : Nat} {z2 : Nat} {z3 : Nat} {y1 : Nat} {y2 : Nat} {y3 : Nat} {y4 : Nat} {ya : Nat} {yw : Nat} {yp : Nat} {lg : Int32} {sf : Int32} {dg : Int32} {un : Int32} {le : Int32} {sm : Int32} {tr : Int64} {at_ : Int32} {be : Int32} {rs : Int32} {nu : Int32} {wn : Int32} {n : Nat} {hi : Nat → Int32} {de : Nat → Int32} {mm : Nat → Int32} {a : Nat} {u : Nat} (hn : n ≤ 9) (ha : a ≤ n) (hu : u < 100) (hst : sf ≤ 9) {rz : Nat → Int32} (hR : Rt k E (fun (rv_ : Option Value) (rw_ : va_W) => ∃ (rf2 : Nat → Int32) (af2 : Nat → Int32) (sl2 : Int32) (fp2 : Int32), rv_ = some (.int (nI (LL n hi de mm lg sf dg a (nI u)).1)) ∧ rw_ = [(mo, .inr (9, [.ref rw, .int (nI n), .int lg, .int sf, .int dg, .ref mh, .ref md, .int un, .ref mk, .ref mt, .int le, .int sm, .ref z1, .ref z2, .ref z3, .long tr, .int at_, .int be, .int rs, .ref y1, .ref y2, .ref y3, .ref y4, .int nu, .int sf, .int dg, .int sl2, .ref ya, .int fp2, .ref yw, .int wn, .ref yp])), aI E rw 168 rf2, aI E mh 9 hi, aI E md 9 de, aI E ya 1000 af2] ∧ (∀ i, i < 156 → rf2 i = rz i) ∧ (a < n → fp2 = nI (LL n hi de mm lg sf dg a (nI u)).2)) 0 0 (some .int)) : ∀ (m : Nat) (Kx : Int32) (rf af : Nat → Int32) (sl fpu : Int32), Kx = kI m → m ≤ n → a ≤ m → rf 0 = nI a → rf 1 = nI u → (∀ s, s < 9 → rf (3 + s) = mm s) → (∀ i, i < 156 → rf i = rz i) → (∀ b w, m ≤ b → b ≤ n → w < 100 → af (100 * b + w) = nI (LL n hi de mm lg sf dg b (nI w)).1) → G k E 0 0 45 [some (.ref mo), some (.int Kx), none] [] [(mo, .inr (9, [.ref rw, .int (nI n), .int lg, .int sf, .int dg, .ref mh, .ref md, .int un, .ref mk, .ref mt, .int le, .int sm, .ref z1, .ref z2, .ref z3, .long tr, .int at_, .int be, .int rs, .ref y1, .ref y2, .ref y3, .ref y4, .int nu, .int sf, .int dg, .int sl, .ref ya, .int fpu, .ref yw, .int wn, .ref yp])), aI E rw 168 rf, aI E mh 9 hi, aI E md 9 de, aI E ya 1000 af] := by
  intro m
  induction m with
  | zero =>
    intro Kx rf af sl fpu hK hm_ ham h0 h1 hmm hrz haf
    subst hK
    refine g_iload_n C dX9_fewest_45 rfl ?_
    refine g_aload_n C dX9_fewest_46 rfl ?_
    refine g_get C kwX9 0 rfl rfl 0 (by decide) kfX9_7 rfl dX9_fewest_47 ?_
    refine g_iconst (v := 0) C dX9_fewest_50 (by decide) ?_
    refine g_iald C 1 0 rfl (rfl) (by decide) (by decide) dX9_fewest_51 ?_
    refine g_topi (v := nI a) (h0) ?_
    refine g_icmp_le (tgt := 92) C dX9_fewest_52 (by decide) (fun c52 => ?_) (fun c52 => ?_)
    · skip
      refine g_kill 1 (lv' := [some (.ref mo), none, none]) rfl ?_
      exact tl_X9_fw C hnl hn ha hu hst hR rf af sl fpu h0 h1 hmm hrz (fun b w q1 q2 q3 => haf b w (by omega) q2 q3)
    · skip
      exact absurd (Int32.le_trans (by decide : kI 0 ≤ 0) (nI_nonneg a (by omega))) c52
  | succ j ih =>
    intro Kx rf af sl fpu hK hm_ ham h0 h1 hmm hrz haf
    subst hK
    show G k E 0 0 45 [some (.ref mo), some (.int (nI j)), none] [] [(mo, .inr (9, [.ref rw, .int (nI n), .int lg, .int sf, .int dg, .ref mh, .ref md, .int un, .ref mk, .ref mt, .int le, .int sm, .ref z1, .ref z2, .ref z3, .long tr, .int at_, .int be, .int rs, .ref y1, .ref y2, .ref y3, .ref y4, .int nu, .int sf, .int dg, .int sl, .ref ya, .int fpu, .ref yw, .int wn, .ref yp])), aI E rw 168 rf, aI E mh 9 hi, aI E md 9 de, aI E ya 1000 af]
    refine g_iload_n C dX9_fewest_45 rfl ?_
    refine g_aload_n C dX9_fewest_46 rfl ?_
    refine g_get C kwX9 0 rfl rfl 0 (by decide) kfX9_7 rfl dX9_fewest_47 ?_
    refine g_iconst (v := 0) C dX9_fewest_50 (by decide) ?_
    refine g_iald C 1 0 rfl (rfl) (by decide) (by decide) dX9_fewest_51 ?_
    refine g_topi (v := nI a) (h0) ?_
    refine g_icmp_le (tgt := 92) C dX9_fewest_52 (by decide) (fun c52 => ?_) (fun c52 => ?_)
    · skip
      have hja := (nI_leI (by omega) (by omega)).mp c52
      refine g_kill 1 (lv' := [some (.ref mo), none, none]) rfl ?_
      exact tl_X9_fw C hnl hn ha hu hst hR rf af sl fpu h0 h1 hmm hrz (fun b w q1 q2 q3 => haf b w (by omega) q2 q3)
    · skip
      have haj := nx_nge (by omega) (by omega) c52
      refine g_iconst (v := 0) C dX9_fewest_55 (by decide) ?_
      refine g_istore_n (lv' := [some (.ref mo), some (.int (nI j)), some (.int 0)]) C dX9_fewest_56 (hnl 2 (by decide)) rfl rfl ?_
      refine lpi_X9_fw C hnl hn ha hu hst (by omega) haj (fun rf af sl fpu h0 h1 hmm hrz haf => ?_) 100 0 rf af _ _ (by omega) h0 h1 hmm hrz haf (fun w q => absurd q (Nat.not_lt_zero _))
      refine g_iinc (v := kI j) (lv' := [some (.ref mo), some (.int (kI j)), some (.int (nI 100))]) C dX9_fewest_86 rfl (kI_dec j) (hnl 1 (by decide)) rfl rfl ?_
      refine g_goto (tgt := 45) C dX9_fewest_89 (by decide) ?_
      refine g_kill 2 (lv' := [some (.ref mo), some (.int (kI j)), none]) rfl ?_
      exact ih _ rf af sl fpu rfl (by omega) (by omega) h0 h1 hmm hrz (fun b w q1 q2 q3 => haf b w q1 q2 q3)

set_option maxHeartbeats 4000000 in
set_option maxRecDepth 100000 in
theorem lp1_X9_fw {k : KX} {E : EX} (C : Cx k E cX9_fewest RX9 (rmL 6 0 0)) (hnl : ∀ j : Nat, j < 3 → j < k.nL) {mo : Nat} {rw : Nat} {mh : Nat} {md : Nat} {mk : Nat} {mt : Nat} {z1 : Nat} {z2 : Nat} {z3 : Nat} {y1 : Nat} {y2 : Nat} {y3 : Nat} {y4 : Nat} {ya : Nat} {yw : Nat} {yp : Nat} {lg : Int32} {sf : Int32} {dg : Int32} {un : Int32} {le : Int32} {sm : Int32} {tr : Int64} {at_ : Int32} {be : Int32} {rs : Int32} {nu : Int32} {wn : Int32} {n : Nat} {hi : Nat → Int32} {de : Nat → Int32} {mm : Nat → Int32} {a : Nat} {u : Nat} (hn : n ≤ 9) (ha : a ≤ n) (hu : u < 100) (hst : sf ≤ 9) {rz : Nat → Int32} (hR : Rt k E (fun (rv_ : Option Value) (rw_ : va_W) => ∃ (rf2 : Nat → Int32) (af2 : Nat → Int32) (sl2 : Int32) (fp2 : Int32), rv_ = some (.int (nI (LL n hi de mm lg sf dg a (nI u)).1)) ∧ rw_ = [(mo, .inr (9, [.ref rw, .int (nI n), .int lg, .int sf, .int dg, .ref mh, .ref md, .int un, .ref mk, .ref mt, .int le, .int sm, .ref z1, .ref z2, .ref z3, .long tr, .int at_, .int be, .int rs, .ref y1, .ref y2, .ref y3, .ref y4, .int nu, .int sf, .int dg, .int sl2, .ref ya, .int fp2, .ref yw, .int wn, .ref yp])), aI E rw 168 rf2, aI E mh 9 hi, aI E md 9 de, aI E ya 1000 af2] ∧ (∀ i, i < 156 → rf2 i = rz i) ∧ (a < n → fp2 = nI (LL n hi de mm lg sf dg a (nI u)).2)) 0 0 (some .int)) : ∀ (g x0 : Nat) (rf af : Nat → Int32) (sl fpu : Int32), x0 + g = 100 → rf 0 = nI a → rf 1 = nI u → (∀ s, s < 9 → rf (3 + s) = mm s) → (∀ i, i < 156 → rf i = rz i) → (∀ w, w < x0 → af (100 * n + w) = 0) → G k E 0 0 11 [some (.ref mo), some (.int (nI x0)), none] [] [(mo, .inr (9, [.ref rw, .int (nI n), .int lg, .int sf, .int dg, .ref mh, .ref md, .int un, .ref mk, .ref mt, .int le, .int sm, .ref z1, .ref z2, .ref z3, .long tr, .int at_, .int be, .int rs, .ref y1, .ref y2, .ref y3, .ref y4, .int nu, .int sf, .int dg, .int sl, .ref ya, .int fpu, .ref yw, .int wn, .ref yp])), aI E rw 168 rf, aI E mh 9 hi, aI E md 9 de, aI E ya 1000 af] := by
  intro g
  induction g with
  | zero =>
    intro x0 rf af sl fpu hx h0 h1 hmm hrz hw
    have e : x0 = 100 := by omega
    subst e
    refine g_iload_n C dX9_fewest_11 rfl ?_
    refine g_bipush (v := 100) C dX9_fewest_12 (by decide) ?_
    refine g_icmp_ge (tgt := 38) C dX9_fewest_14 (by decide) (fun c14 => ?_) (fun c14 => ?_)
    · skip
      refine g_aload_n C dX9_fewest_38 rfl ?_
      refine g_get C kwX9 0 rfl rfl 1 (by decide) kfX9_66 rfl dX9_fewest_39 ?_
      refine g_iconst (v := 1) C dX9_fewest_42 (by decide) ?_
      refine g_isub C dX9_fewest_43 ?_
      refine g_topi (v := kI n) (kI_pred n) ?_
      refine g_istore_n (lv' := [some (.ref mo), some (.int (kI n)), none]) C dX9_fewest_44 (hnl 1 (by decide)) rfl rfl ?_
      exact lpo_X9_fw C hnl hn ha hu hst hR n _ rf af sl fpu rfl (Nat.le_refl _) ha h0 h1 hmm hrz (fun b w q1 q2 q3 => by rw [show b = n by omega, hw w q3, LL_floor (by omega)]; rfl)
    · skip
      exact absurd (by decide) c14
  | succ g ih =>
    intro x0 rf af sl fpu hx h0 h1 hmm hrz hw
    refine g_iload_n C dX9_fewest_11 rfl ?_
    refine g_bipush (v := 100) C dX9_fewest_12 (by decide) ?_
    refine g_icmp_ge (tgt := 38) C dX9_fewest_14 (by decide) (fun c14 => ?_) (fun c14 => ?_)
    · skip
      exact absurd ((nI_leI (a := 100) (by decide) (by omega)).mp c14) (by omega)
    · skip
      refine g_aload_n C dX9_fewest_17 rfl ?_
      refine g_get C kwX9 0 rfl rfl 27 (by decide) kfX9_57 rfl dX9_fewest_18 ?_
      refine g_bipush (v := 100) C dX9_fewest_21 (by decide) ?_
      refine g_aload_n C dX9_fewest_23 rfl ?_
      refine g_get C kwX9 0 rfl rfl 1 (by decide) kfX9_66 rfl dX9_fewest_24 ?_
      refine g_imul C dX9_fewest_27 ?_
      refine g_topi (v := nI (100 * n)) (pk_mul 100 n) ?_
      refine g_iload_n C dX9_fewest_28 rfl ?_
      refine g_iadd C dX9_fewest_29 ?_
      refine g_topi (v := nI (100 * n + x0)) (nI_add _ _) ?_
      refine g_iconst (v := 0) C dX9_fewest_30 (by decide) ?_
      refine g_iast (ws' := [(mo, .inr (9, [.ref rw, .int (nI n), .int lg, .int sf, .int dg, .ref mh, .ref md, .int un, .ref mk, .ref mt, .int le, .int sm, .ref z1, .ref z2, .ref z3, .long tr, .int at_, .int be, .int rs, .ref y1, .ref y2, .ref y3, .ref y4, .int nu, .int sf, .int dg, .int sl, .ref ya, .int fpu, .ref yw, .int wn, .ref yp])), aI E rw 168 rf, aI E mh 9 hi, aI E md 9 de, aI E ya 1000 (upd af (100 * n + x0) 0)]) C 4 (100 * n + x0) rfl (rfl) (by omega) (by decide) rfl dX9_fewest_31 ?_
      refine g_iinc (v := nI (x0 + 1)) (lv' := [some (.ref mo), some (.int (nI (x0 + 1))), none]) C dX9_fewest_32 rfl (nI_add _ 1) (hnl 1 (by decide)) rfl rfl ?_
      refine g_goto (tgt := 11) C dX9_fewest_35 (by decide) ?_
      exact ih (x0 + 1) _ _ _ _ (by omega) h0 h1 hmm hrz (fun w q => by by_cases e : w = x0; subst e; exact pk_us; rw [pk_un (by omega)]; exact hw w (by omega))

set_option maxHeartbeats 4000000 in
set_option maxRecDepth 100000 in
theorem c_X9_fewest (l : Launch) (E : EX) (mo : Nat) (rw : Nat) (mh : Nat) (md : Nat) (mk : Nat) (mt : Nat) (z1 : Nat) (z2 : Nat) (z3 : Nat) (y1 : Nat) (y2 : Nat) (y3 : Nat) (y4 : Nat) (ya : Nat) (yw : Nat) (yp : Nat) (lg : Int32) (sf : Int32) (dg : Int32) (un : Int32) (le : Int32) (sm : Int32) (tr : Int64) (at_ : Int32) (be : Int32) (rs : Int32) (nu : Int32) (os : Int32) (od : Int32) (sl : Int32) (fpu : Int32) (wn : Int32) (n : Nat) (hi : Nat → Int32) (de : Nat → Int32) (rf : Nat → Int32) (mm : Nat → Int32) (af : Nat → Int32) (a : Nat) (u : Nat) (hn : n ≤ 9) (ha : a ≤ n) (hu : u < 100) (hst : sf ≤ 9) (h0 : rf 0 = nI a) (h1 : rf 1 = nI u) (hmm : ∀ s, s < 9 → rf (3 + s) = mm s) : Ct l E yX9_fewest cX9_fewest 3 (some .int) (rmL 6 0 0) [.ref mo] [(mo, .inr (9, [.ref rw, .int (nI n), .int lg, .int sf, .int dg, .ref mh, .ref md, .int un, .ref mk, .ref mt, .int le, .int sm, .ref z1, .ref z2, .ref z3, .long tr, .int at_, .int be, .int rs, .ref y1, .ref y2, .ref y3, .ref y4, .int nu, .int os, .int od, .int sl, .ref ya, .int fpu, .ref yw, .int wn, .ref yp])), aI E rw 168 rf, aI E mh 9 hi, aI E md 9 de, aI E ya 1000 af] (fun (rv_ : Option Value) (rw_ : va_W) => ∃ (rf2 : Nat → Int32) (af2 : Nat → Int32) (sl2 : Int32) (fp2 : Int32), rv_ = some (.int (nI (LL n hi de mm lg sf dg a (nI u)).1)) ∧ rw_ = [(mo, .inr (9, [.ref rw, .int (nI n), .int lg, .int sf, .int dg, .ref mh, .ref md, .int un, .ref mk, .ref mt, .int le, .int sm, .ref z1, .ref z2, .ref z3, .long tr, .int at_, .int be, .int rs, .ref y1, .ref y2, .ref y3, .ref y4, .int nu, .int sf, .int dg, .int sl2, .ref ya, .int fp2, .ref yw, .int wn, .ref yp])), aI E rw 168 rf2, aI E mh 9 hi, aI E md 9 de, aI E ya 1000 af2] ∧ (∀ i, i < 156 → rf2 i = rf i) ∧ (a < n → fp2 = nI (LL n hi de mm lg sf dg a (nI u)).2)) 0 0 := by
  refine Ct_of (by decide) (Nat.le_of_ble_eq_true rfl) ?_
  intro k hkl hnl C hR hin_
  subst hkl
  show G k E 0 0 0 [some (.ref mo), none, none] [] [(mo, .inr (9, [.ref rw, .int (nI n), .int lg, .int sf, .int dg, .ref mh, .ref md, .int un, .ref mk, .ref mt, .int le, .int sm, .ref z1, .ref z2, .ref z3, .long tr, .int at_, .int be, .int rs, .ref y1, .ref y2, .ref y3, .ref y4, .int nu, .int os, .int od, .int sl, .ref ya, .int fpu, .ref yw, .int wn, .ref yp])), aI E rw 168 rf, aI E mh 9 hi, aI E md 9 de, aI E ya 1000 af]
  refine g_aload_n C dX9_fewest_0 rfl ?_
  refine g_callV C (c_X9_asItIs k.l E mo rw mh md mk mt z1 z2 z3 y1 y2 y3 y4 ya yw yp (nI n) lg sf dg un le sm tr at_ be rs nu os od sl fpu wn) kmX9_149 kiX9_asItIs ksX9_asItIs knX9 kcX9_asItIs ⟨rfl, rfl⟩ ⟨rfl, kdX9_asItIs⟩ ⟨by decide, by decide⟩ ⟨by decide, by decide⟩ [0] [1, 2, 3, 4] rfl (wr := [aI E rw 168 rf, aI E mh 9 hi, aI E md 9 de, aI E ya 1000 af]) rfl (by decide +kernel) (by decide +kernel) (by decide +kernel) 0 9 rfl rfl rfl (As := []) (rest := []) rfl (Nat.le_of_ble_eq_true rfl) dX9_fewest_1 (fun rv_ rw_ hp_ => ?_)
  obtain ⟨rfl, rfl⟩ := hp_
  refine g_rep [4, 0, 1, 2, 3] (ws' := [(mo, .inr (9, [.ref rw, .int (nI n), .int lg, .int sf, .int dg, .ref mh, .ref md, .int un, .ref mk, .ref mt, .int le, .int sm, .ref z1, .ref z2, .ref z3, .long tr, .int at_, .int be, .int rs, .ref y1, .ref y2, .ref y3, .ref y4, .int nu, .int sf, .int dg, .int 0, .ref ya, .int fpu, .ref yw, .int wn, .ref yp])), aI E rw 168 rf, aI E mh 9 hi, aI E md 9 de, aI E ya 1000 af]) (st' := []) (n' := 0) (z' := 0) (pc' := 4) rfl rfl rfl rfl (by decide +kernel) rfl ?_
  refine g_aload_n C dX9_fewest_4 rfl ?_
  refine g_iconst (v := 0) C dX9_fewest_5 (by decide) ?_
  refine g_put (ws' := [(mo, .inr (9, [.ref rw, .int (nI n), .int lg, .int sf, .int dg, .ref mh, .ref md, .int un, .ref mk, .ref mt, .int le, .int sm, .ref z1, .ref z2, .ref z3, .long tr, .int at_, .int be, .int rs, .ref y1, .ref y2, .ref y3, .ref y4, .int nu, .int sf, .int dg, .int 0, .ref ya, .int 0, .ref yw, .int wn, .ref yp])), aI E rw 168 rf, aI E mh 9 hi, aI E md 9 de, aI E ya 1000 af]) C kwX9 tyX9 tyX9_ok nmX9 0 rfl rfl 28 (by decide) kfX9_153 rfl rfl rfl (Nat.le_of_ble_eq_true rfl) rfl dX9_fewest_6 ?_
  refine g_iconst (v := 0) C dX9_fewest_9 (by decide) ?_
  refine g_istore_n (lv' := [some (.ref mo), some (.int 0), none]) C dX9_fewest_10 (hnl 1 (by decide)) rfl rfl ?_
  exact lp1_X9_fw C hnl hn ha hu hst hR 100 0 rf af _ _ (by omega) h0 h1 hmm (fun _ _ => rfl) (fun w q => absurd q (Nat.not_lt_zero _))

set_option maxHeartbeats 4000000 in
set_option maxRecDepth 100000 in
theorem c_X9_leastOf (l : Launch) (E : EX) (mo : Nat) (rw : Nat) (mh : Nat) (md : Nat) (mk : Nat) (mt : Nat) (z1 : Nat) (z2 : Nat) (z3 : Nat) (y1 : Nat) (y2 : Nat) (y3 : Nat) (y4 : Nat) (ya : Nat) (yw : Nat) (yp : Nat) (lg : Int32) (sf : Int32) (dg : Int32) (un : Int32) (le : Int32) (sm : Int32) (tr : Int64) (at_ : Int32) (be : Int32) (rs : Int32) (nu : Int32) (os : Int32) (od : Int32) (sl : Int32) (fpu : Int32) (wn : Int32) (n : Nat) (hi : Nat → Int32) (de : Nat → Int32) (rf : Nat → Int32) (mm : Nat → Int32) (af : Nat → Int32) (a : Nat) (u : Nat) (y : Int32) (hn : n ≤ 9) (ha : a ≤ n) (hu : u < 100) (hst : sf ≤ 9) (h0 : rf 0 = nI a) (h1 : rf 1 = nI u) (hmm : ∀ s, s < 9 → rf (3 + s) = mm s) : Ct l E yX9_leastOf cX9_leastOf 3 (some .int) (rmL 7 0 0) [.ref mo, .int y] [(mo, .inr (9, [.ref rw, .int (nI n), .int lg, .int sf, .int dg, .ref mh, .ref md, .int un, .ref mk, .ref mt, .int le, .int sm, .ref z1, .ref z2, .ref z3, .long tr, .int at_, .int be, .int rs, .ref y1, .ref y2, .ref y3, .ref y4, .int nu, .int os, .int od, .int sl, .ref ya, .int fpu, .ref yw, .int wn, .ref yp])), aI E rw 168 rf, aI E mh 9 hi, aI E md 9 de, aI E ya 1000 af] (fun (rv_ : Option Value) (rw_ : va_W) => ∃ (rf2 : Nat → Int32) (af2 : Nat → Int32) (sl2 : Int32) (fp2 : Int32), rv_ = some (.int (if y = 6 then nI (LL n hi de mm lg sf dg a (nI u)).1 else nI (LL n hi de mm lg sf dg a (nI u)).2)) ∧ rw_ = [(mo, .inr (9, [.ref rw, .int (nI n), .int lg, .int sf, .int dg, .ref mh, .ref md, .int un, .ref mk, .ref mt, .int le, .int sm, .ref z1, .ref z2, .ref z3, .long tr, .int at_, .int be, .int rs, .ref y1, .ref y2, .ref y3, .ref y4, .int nu, .int sf, .int dg, .int sl2, .ref ya, .int fp2, .ref yw, .int wn, .ref yp])), aI E rw 168 rf2, aI E mh 9 hi, aI E md 9 de, aI E ya 1000 af2] ∧ (∀ i, i < 156 → rf2 i = rf i)) 0 0 := by
  refine Ct_of (by decide) (Nat.le_of_ble_eq_true rfl) ?_
  intro k hkl hnl C hR hin_
  subst hkl
  show G k E 0 0 0 [some (.ref mo), some (.int y), none] [] [(mo, .inr (9, [.ref rw, .int (nI n), .int lg, .int sf, .int dg, .ref mh, .ref md, .int un, .ref mk, .ref mt, .int le, .int sm, .ref z1, .ref z2, .ref z3, .long tr, .int at_, .int be, .int rs, .ref y1, .ref y2, .ref y3, .ref y4, .int nu, .int os, .int od, .int sl, .ref ya, .int fpu, .ref yw, .int wn, .ref yp])), aI E rw 168 rf, aI E mh 9 hi, aI E md 9 de, aI E ya 1000 af]
  refine g_aload_n C dX9_leastOf_0 rfl ?_
  refine g_callV C (c_X9_fewest k.l E mo rw mh md mk mt z1 z2 z3 y1 y2 y3 y4 ya yw yp lg sf dg un le sm tr at_ be rs nu os od sl fpu wn n hi de rf mm af a u (by first | assumption | omega) (by first | assumption | omega) (by first | assumption | omega) (by first | assumption | omega) (by first | assumption | omega) (by first | assumption | omega) (by first | assumption | omega)) kmX9_160 kiX9_fewest ksX9_fewest knX9 kcX9_fewest ⟨rfl, rfl⟩ ⟨rfl, kdX9_fewest⟩ ⟨by decide, by decide⟩ ⟨by decide, by decide⟩ [0, 1, 2, 3, 4] [] rfl (wr := []) rfl (by decide +kernel) (by decide +kernel) (by decide +kernel) 0 9 rfl rfl rfl (As := []) (rest := []) rfl (Nat.le_of_ble_eq_true rfl) dX9_leastOf_1 (fun rv_ rw_ hp_ => ?_)
  obtain ⟨rf2_1, af2_2, sl2_3, fp2_4, rfl, rfl, g2, g3⟩ := hp_
  refine g_rep [0, 1, 2, 3, 4] (ws' := [(mo, .inr (9, [.ref rw, .int (nI n), .int lg, .int sf, .int dg, .ref mh, .ref md, .int un, .ref mk, .ref mt, .int le, .int sm, .ref z1, .ref z2, .ref z3, .long tr, .int at_, .int be, .int rs, .ref y1, .ref y2, .ref y3, .ref y4, .int nu, .int sf, .int dg, .int sl2_3, .ref ya, .int fp2_4, .ref yw, .int wn, .ref yp])), aI E rw 168 rf2_1, aI E mh 9 hi, aI E md 9 de, aI E ya 1000 af2_2]) (st' := [.int (nI (LL n hi de mm lg sf dg a (nI u)).1)]) (n' := 0) (z' := 0) (pc' := 4) rfl rfl rfl rfl (by decide +kernel) rfl ?_
  refine g_istore_n (lv' := [some (.ref mo), some (.int y), some (.int (nI (LL n hi de mm lg sf dg a (nI u)).1))]) C dX9_leastOf_4 (hnl 2 (by decide)) rfl rfl ?_
  refine g_iload_n C dX9_leastOf_5 rfl ?_
  refine g_bipush (v := 6) C dX9_leastOf_6 (by decide) ?_
  refine g_icmp_ne (tgt := 15) C dX9_leastOf_8 (by decide) (fun c8 => ?_) (fun c8 => ?_)
  · skip
    refine g_aload_n C dX9_leastOf_15 rfl ?_
    refine g_get C kwX9 0 rfl rfl 0 (by decide) kfX9_7 rfl dX9_leastOf_16 ?_
    refine g_iconst (v := 0) C dX9_leastOf_19 (by decide) ?_
    refine g_iald C 1 0 rfl (rfl) (by decide) (by decide) dX9_leastOf_20 ?_
    refine g_topi (v := nI a) (by rw [g2 _ (by decide)]; exact h0) ?_
    refine g_aload_n C dX9_leastOf_21 rfl ?_
    refine g_get C kwX9 0 rfl rfl 1 (by decide) kfX9_66 rfl dX9_leastOf_22 ?_
    refine g_icmp_ne (tgt := 32) C dX9_leastOf_25 (by decide) (fun c25 => ?_) (fun c25 => ?_)
    · skip
      have ha2 := nI_ne_lt ha hn c25
      refine g_aload_n C dX9_leastOf_32 rfl ?_
      refine g_get C kwX9 0 rfl rfl 28 (by decide) kfX9_153 rfl dX9_leastOf_33 ?_
      exact g_iret C hR (⟨_, _, _, _, by rw [if_neg c8, g3 ha2], rfl, g2⟩) dX9_leastOf_36
    · skip
      have ean : a = n := (nI_eq (by omega) (by omega)).mp c25
      refine g_iconst (v := 0) C dX9_leastOf_28 (by decide) ?_
      refine g_goto (tgt := 36) C dX9_leastOf_29 (by decide) ?_
      exact g_iret C hR (⟨_, _, _, _, by rw [if_neg c8, LL_floor (by omega)]; rfl, rfl, g2⟩) dX9_leastOf_36
  · skip
    refine g_iload_n C dX9_leastOf_11 rfl ?_
    refine g_goto (tgt := 36) C dX9_leastOf_12 (by decide) ?_
    exact g_iret C hR (⟨_, _, _, _, by rw [if_pos c8], rfl, g2⟩) dX9_leastOf_36

set_option maxHeartbeats 4000000 in
set_option maxRecDepth 100000 in
theorem c_X9_now (l : Launch) (E : EX) (mo : Nat) (rw : Nat) (mh : Nat) (md : Nat) (mk : Nat) (mt : Nat) (z1 : Nat) (z2 : Nat) (z3 : Nat) (y1 : Nat) (y2 : Nat) (y3 : Nat) (y4 : Nat) (ya : Nat) (yw : Nat) (yp : Nat) (lg : Int32) (sf : Int32) (dg : Int32) (un : Int32) (le : Int32) (sm : Int32) (tr : Int64) (at_ : Int32) (be : Int32) (rs : Int32) (nu : Int32) (os : Int32) (od : Int32) (sl : Int32) (fpu : Int32) (wn : Int32) (n : Nat) (hi : Nat → Int32) (de : Nat → Int32) (rf : Nat → Int32) (mm : Nat → Int32) (af : Nat → Int32) (a : Nat) (u : Nat) (y : Int32) (hn : n ≤ 9) (ha : a ≤ n) (hu : u < 100) (hst : sf ≤ 9) (h0 : rf 0 = nI a) (h1 : rf 1 = nI u) (hmm : ∀ s, s < 9 → rf (3 + s) = mm s) (hfl : a = n → u = 0) : Ct l E yX9_now cX9_now 2 (some .int) (rmL 8 0 0) [.ref mo, .int y] [(mo, .inr (9, [.ref rw, .int (nI n), .int lg, .int sf, .int dg, .ref mh, .ref md, .int un, .ref mk, .ref mt, .int le, .int sm, .ref z1, .ref z2, .ref z3, .long tr, .int at_, .int be, .int rs, .ref y1, .ref y2, .ref y3, .ref y4, .int nu, .int os, .int od, .int sl, .ref ya, .int fpu, .ref yw, .int wn, .ref yp])), aI E rw 168 rf, aI E mh 9 hi, aI E md 9 de, aI E ya 1000 af] (fun (rv_ : Option Value) (rw_ : va_W) => ∃ (rf2 : Nat → Int32) (af2 : Nat → Int32) (sl2 : Int32) (fp2 : Int32) (os2 : Int32) (od2 : Int32), rv_ = some (.int (if y = 0 then nI a else if y = 1 then nI u else if y = 2 then rf 2 else if y = 3 then nI (runF n hi de mm lg sf dg 9 a (nI u) 0 0).1 else if y = 4 then (runF n hi de mm lg sf dg 9 a (nI u) 0 0).2.2.2 else if y = 5 then (runF n hi de mm lg sf dg 9 a (nI u) 0 0).2.2.1 else if y = 6 then nI (LL n hi de mm lg sf dg a (nI u)).1 else if y = 7 then nI (LL n hi de mm lg sf dg a (nI u)).2 else if y = 8 then un else -1)) ∧ rw_ = [(mo, .inr (9, [.ref rw, .int (nI n), .int lg, .int sf, .int dg, .ref mh, .ref md, .int un, .ref mk, .ref mt, .int le, .int sm, .ref z1, .ref z2, .ref z3, .long tr, .int at_, .int be, .int rs, .ref y1, .ref y2, .ref y3, .ref y4, .int nu, .int os2, .int od2, .int sl2, .ref ya, .int fp2, .ref yw, .int wn, .ref yp])), aI E rw 168 rf2, aI E mh 9 hi, aI E md 9 de, aI E ya 1000 af2] ∧ (∀ i, i < 156 → rf2 i = rf i)) 0 0 := by
  refine Ct_of (by decide) (Nat.le_of_ble_eq_true rfl) ?_
  intro k hkl hnl C hR hin_
  subst hkl
  have h0_ := h0
  have h1_ := h1
  show G k E 0 0 0 [some (.ref mo), some (.int y)] [] [(mo, .inr (9, [.ref rw, .int (nI n), .int lg, .int sf, .int dg, .ref mh, .ref md, .int un, .ref mk, .ref mt, .int le, .int sm, .ref z1, .ref z2, .ref z3, .long tr, .int at_, .int be, .int rs, .ref y1, .ref y2, .ref y3, .ref y4, .int nu, .int os, .int od, .int sl, .ref ya, .int fpu, .ref yw, .int wn, .ref yp])), aI E rw 168 rf, aI E mh 9 hi, aI E md 9 de, aI E ya 1000 af]
  refine g_iload_n C dX9_now_0 rfl ?_
  by_cases h0 : y = 0
  · skip
    refine g_tin (off := 51) (tgt := 52) C dX9_now_1 (by rw [h0]; decide) (by rw [h0]; decide) (by rw [h0]; decide) (by decide) ?_
    refine g_aload_n C dX9_now_52 rfl ?_
    refine g_get C kwX9 0 rfl rfl 0 (by decide) kfX9_7 rfl dX9_now_53 ?_
    refine g_iload_n C dX9_now_56 rfl ?_
    refine g_iald C 1 0 rfl (h0) (by decide) (by decide) dX9_now_57 ?_
    exact g_iret C hR (⟨_, _, _, _, _, _, by subst h0; exact congrArg (fun z => some (Value.int z)) h0_, rfl, fun _ _ => rfl⟩) dX9_now_58
  · skip
    by_cases h1 : y = 1
    · skip
      refine g_tin (off := 51) (tgt := 52) C dX9_now_1 (by rw [h1]; decide) (by rw [h1]; decide) (by rw [h1]; decide) (by decide) ?_
      refine g_aload_n C dX9_now_52 rfl ?_
      refine g_get C kwX9 0 rfl rfl 0 (by decide) kfX9_7 rfl dX9_now_53 ?_
      refine g_iload_n C dX9_now_56 rfl ?_
      refine g_iald C 1 1 rfl (h1) (by decide) (by decide) dX9_now_57 ?_
      exact g_iret C hR (⟨_, _, _, _, _, _, by subst h1; exact congrArg (fun z => some (Value.int z)) h1_, rfl, fun _ _ => rfl⟩) dX9_now_58
    · skip
      by_cases h2 : y = 2
      · skip
        refine g_tin (off := 51) (tgt := 52) C dX9_now_1 (by rw [h2]; decide) (by rw [h2]; decide) (by rw [h2]; decide) (by decide) ?_
        refine g_aload_n C dX9_now_52 rfl ?_
        refine g_get C kwX9 0 rfl rfl 0 (by decide) kfX9_7 rfl dX9_now_53 ?_
        refine g_iload_n C dX9_now_56 rfl ?_
        refine g_iald C 1 2 rfl (h2) (by decide) (by decide) dX9_now_57 ?_
        exact g_iret C hR (⟨_, _, _, _, _, _, by subst h2; rfl, rfl, fun _ _ => rfl⟩) dX9_now_58
      · skip
        by_cases h3 : y = 3
        · skip
          refine g_tin (off := 58) (tgt := 59) C dX9_now_1 (by rw [h3]; decide) (by rw [h3]; decide) (by rw [h3]; decide) (by decide) ?_
          refine g_aload_n C dX9_now_59 rfl ?_
          refine g_iload_n C dX9_now_60 rfl ?_
          refine g_callV C (c_X9_tellRun k.l E mo rw mh md mk mt z1 z2 z3 y1 y2 y3 y4 ya yw yp lg sf dg un le sm tr at_ be rs nu os od sl fpu wn n hi de rf mm a (nI u) y (by first | assumption | omega) (by first | assumption | omega) (by first | assumption | omega) (by first | assumption | omega) (by first | assumption | omega) (fun q => by rw [hfl q]; rfl)) kmX9_169 kiX9_tellRun ksX9_tellRun knX9 kcX9_tellRun ⟨rfl, rfl⟩ ⟨rfl, kdX9_tellRun⟩ ⟨by decide, by decide⟩ ⟨by decide, by decide⟩ [0, 1, 2, 3] [4] rfl (wr := [aI E ya 1000 af]) rfl (by decide +kernel) (by decide +kernel) (by decide +kernel) 0 9 rfl rfl rfl (As := [.int y]) (rest := []) rfl (Nat.le_of_ble_eq_true rfl) dX9_now_61 (fun rv_ rw_ hp_ => ?_)
          obtain ⟨rf2_1, os2_2, od2_3, sl2_4, rfl, rfl, g2⟩ := hp_
          refine g_rep [1, 2, 3, 4, 0] (ws' := [(mo, .inr (9, [.ref rw, .int (nI n), .int lg, .int sf, .int dg, .ref mh, .ref md, .int un, .ref mk, .ref mt, .int le, .int sm, .ref z1, .ref z2, .ref z3, .long tr, .int at_, .int be, .int rs, .ref y1, .ref y2, .ref y3, .ref y4, .int nu, .int os2_2, .int od2_3, .int sl2_4, .ref ya, .int fpu, .ref yw, .int wn, .ref yp])), aI E rw 168 rf2_1, aI E mh 9 hi, aI E md 9 de, aI E ya 1000 af]) (st' := [.int (if y = 3 then nI (runF n hi de mm lg sf dg 9 a (nI u) 0 0).1 else if y = 4 then (runF n hi de mm lg sf dg 9 a (nI u) 0 0).2.2.2 else (runF n hi de mm lg sf dg 9 a (nI u) 0 0).2.2.1)]) (n' := 0) (z' := 0) (pc' := 64) rfl rfl rfl rfl (by decide +kernel) rfl ?_
          exact g_iret C hR (⟨_, _, _, _, _, _, by subst h3; rfl, rfl, g2⟩) dX9_now_64
        · skip
          by_cases h4 : y = 4
          · skip
            refine g_tin (off := 58) (tgt := 59) C dX9_now_1 (by rw [h4]; decide) (by rw [h4]; decide) (by rw [h4]; decide) (by decide) ?_
            refine g_aload_n C dX9_now_59 rfl ?_
            refine g_iload_n C dX9_now_60 rfl ?_
            refine g_callV C (c_X9_tellRun k.l E mo rw mh md mk mt z1 z2 z3 y1 y2 y3 y4 ya yw yp lg sf dg un le sm tr at_ be rs nu os od sl fpu wn n hi de rf mm a (nI u) y (by first | assumption | omega) (by first | assumption | omega) (by first | assumption | omega) (by first | assumption | omega) (by first | assumption | omega) (fun q => by rw [hfl q]; rfl)) kmX9_169 kiX9_tellRun ksX9_tellRun knX9 kcX9_tellRun ⟨rfl, rfl⟩ ⟨rfl, kdX9_tellRun⟩ ⟨by decide, by decide⟩ ⟨by decide, by decide⟩ [0, 1, 2, 3] [4] rfl (wr := [aI E ya 1000 af]) rfl (by decide +kernel) (by decide +kernel) (by decide +kernel) 0 9 rfl rfl rfl (As := [.int y]) (rest := []) rfl (Nat.le_of_ble_eq_true rfl) dX9_now_61 (fun rv_ rw_ hp_ => ?_)
            obtain ⟨rf2_6, os2_7, od2_8, sl2_9, rfl, rfl, g2⟩ := hp_
            refine g_rep [1, 2, 3, 4, 0] (ws' := [(mo, .inr (9, [.ref rw, .int (nI n), .int lg, .int sf, .int dg, .ref mh, .ref md, .int un, .ref mk, .ref mt, .int le, .int sm, .ref z1, .ref z2, .ref z3, .long tr, .int at_, .int be, .int rs, .ref y1, .ref y2, .ref y3, .ref y4, .int nu, .int os2_7, .int od2_8, .int sl2_9, .ref ya, .int fpu, .ref yw, .int wn, .ref yp])), aI E rw 168 rf2_6, aI E mh 9 hi, aI E md 9 de, aI E ya 1000 af]) (st' := [.int (if y = 3 then nI (runF n hi de mm lg sf dg 9 a (nI u) 0 0).1 else if y = 4 then (runF n hi de mm lg sf dg 9 a (nI u) 0 0).2.2.2 else (runF n hi de mm lg sf dg 9 a (nI u) 0 0).2.2.1)]) (n' := 0) (z' := 0) (pc' := 64) rfl rfl rfl rfl (by decide +kernel) rfl ?_
            exact g_iret C hR (⟨_, _, _, _, _, _, by subst h4; rfl, rfl, g2⟩) dX9_now_64
          · skip
            by_cases h5 : y = 5
            · skip
              refine g_tin (off := 58) (tgt := 59) C dX9_now_1 (by rw [h5]; decide) (by rw [h5]; decide) (by rw [h5]; decide) (by decide) ?_
              refine g_aload_n C dX9_now_59 rfl ?_
              refine g_iload_n C dX9_now_60 rfl ?_
              refine g_callV C (c_X9_tellRun k.l E mo rw mh md mk mt z1 z2 z3 y1 y2 y3 y4 ya yw yp lg sf dg un le sm tr at_ be rs nu os od sl fpu wn n hi de rf mm a (nI u) y (by first | assumption | omega) (by first | assumption | omega) (by first | assumption | omega) (by first | assumption | omega) (by first | assumption | omega) (fun q => by rw [hfl q]; rfl)) kmX9_169 kiX9_tellRun ksX9_tellRun knX9 kcX9_tellRun ⟨rfl, rfl⟩ ⟨rfl, kdX9_tellRun⟩ ⟨by decide, by decide⟩ ⟨by decide, by decide⟩ [0, 1, 2, 3] [4] rfl (wr := [aI E ya 1000 af]) rfl (by decide +kernel) (by decide +kernel) (by decide +kernel) 0 9 rfl rfl rfl (As := [.int y]) (rest := []) rfl (Nat.le_of_ble_eq_true rfl) dX9_now_61 (fun rv_ rw_ hp_ => ?_)
              obtain ⟨rf2_11, os2_12, od2_13, sl2_14, rfl, rfl, g2⟩ := hp_
              refine g_rep [1, 2, 3, 4, 0] (ws' := [(mo, .inr (9, [.ref rw, .int (nI n), .int lg, .int sf, .int dg, .ref mh, .ref md, .int un, .ref mk, .ref mt, .int le, .int sm, .ref z1, .ref z2, .ref z3, .long tr, .int at_, .int be, .int rs, .ref y1, .ref y2, .ref y3, .ref y4, .int nu, .int os2_12, .int od2_13, .int sl2_14, .ref ya, .int fpu, .ref yw, .int wn, .ref yp])), aI E rw 168 rf2_11, aI E mh 9 hi, aI E md 9 de, aI E ya 1000 af]) (st' := [.int (if y = 3 then nI (runF n hi de mm lg sf dg 9 a (nI u) 0 0).1 else if y = 4 then (runF n hi de mm lg sf dg 9 a (nI u) 0 0).2.2.2 else (runF n hi de mm lg sf dg 9 a (nI u) 0 0).2.2.1)]) (n' := 0) (z' := 0) (pc' := 64) rfl rfl rfl rfl (by decide +kernel) rfl ?_
              exact g_iret C hR (⟨_, _, _, _, _, _, by subst h5; rfl, rfl, g2⟩) dX9_now_64
            · skip
              by_cases h6 : y = 6
              · skip
                refine g_tin (off := 64) (tgt := 65) C dX9_now_1 (by rw [h6]; decide) (by rw [h6]; decide) (by rw [h6]; decide) (by decide) ?_
                refine g_aload_n C dX9_now_65 rfl ?_
                refine g_iload_n C dX9_now_66 rfl ?_
                refine g_callV C (c_X9_leastOf k.l E mo rw mh md mk mt z1 z2 z3 y1 y2 y3 y4 ya yw yp lg sf dg un le sm tr at_ be rs nu os od sl fpu wn n hi de rf mm af a u y (by first | assumption | omega) (by first | assumption | omega) (by first | assumption | omega) (by first | assumption | omega) (by first | assumption | omega) (by first | assumption | omega) (by first | assumption | omega)) kmX9_172 kiX9_leastOf ksX9_leastOf knX9 kcX9_leastOf ⟨rfl, rfl⟩ ⟨rfl, kdX9_leastOf⟩ ⟨by decide, by decide⟩ ⟨by decide, by decide⟩ [0, 1, 2, 3, 4] [] rfl (wr := []) rfl (by decide +kernel) (by decide +kernel) (by decide +kernel) 0 9 rfl rfl rfl (As := [.int y]) (rest := []) rfl (Nat.le_of_ble_eq_true rfl) dX9_now_67 (fun rv_ rw_ hp_ => ?_)
                obtain ⟨rf2_16, af2_17, sl2_18, fp2_19, rfl, rfl, g2⟩ := hp_
                refine g_rep [0, 1, 2, 3, 4] (ws' := [(mo, .inr (9, [.ref rw, .int (nI n), .int lg, .int sf, .int dg, .ref mh, .ref md, .int un, .ref mk, .ref mt, .int le, .int sm, .ref z1, .ref z2, .ref z3, .long tr, .int at_, .int be, .int rs, .ref y1, .ref y2, .ref y3, .ref y4, .int nu, .int sf, .int dg, .int sl2_18, .ref ya, .int fp2_19, .ref yw, .int wn, .ref yp])), aI E rw 168 rf2_16, aI E mh 9 hi, aI E md 9 de, aI E ya 1000 af2_17]) (st' := [.int (if y = 6 then nI (LL n hi de mm lg sf dg a (nI u)).1 else nI (LL n hi de mm lg sf dg a (nI u)).2)]) (n' := 0) (z' := 0) (pc' := 70) rfl rfl rfl rfl (by decide +kernel) rfl ?_
                exact g_iret C hR (⟨_, _, _, _, _, _, by subst h6; rfl, rfl, g2⟩) dX9_now_70
              · skip
                by_cases h7 : y = 7
                · skip
                  refine g_tin (off := 64) (tgt := 65) C dX9_now_1 (by rw [h7]; decide) (by rw [h7]; decide) (by rw [h7]; decide) (by decide) ?_
                  refine g_aload_n C dX9_now_65 rfl ?_
                  refine g_iload_n C dX9_now_66 rfl ?_
                  refine g_callV C (c_X9_leastOf k.l E mo rw mh md mk mt z1 z2 z3 y1 y2 y3 y4 ya yw yp lg sf dg un le sm tr at_ be rs nu os od sl fpu wn n hi de rf mm af a u y (by first | assumption | omega) (by first | assumption | omega) (by first | assumption | omega) (by first | assumption | omega) (by first | assumption | omega) (by first | assumption | omega) (by first | assumption | omega)) kmX9_172 kiX9_leastOf ksX9_leastOf knX9 kcX9_leastOf ⟨rfl, rfl⟩ ⟨rfl, kdX9_leastOf⟩ ⟨by decide, by decide⟩ ⟨by decide, by decide⟩ [0, 1, 2, 3, 4] [] rfl (wr := []) rfl (by decide +kernel) (by decide +kernel) (by decide +kernel) 0 9 rfl rfl rfl (As := [.int y]) (rest := []) rfl (Nat.le_of_ble_eq_true rfl) dX9_now_67 (fun rv_ rw_ hp_ => ?_)
                  obtain ⟨rf2_21, af2_22, sl2_23, fp2_24, rfl, rfl, g2⟩ := hp_
                  refine g_rep [0, 1, 2, 3, 4] (ws' := [(mo, .inr (9, [.ref rw, .int (nI n), .int lg, .int sf, .int dg, .ref mh, .ref md, .int un, .ref mk, .ref mt, .int le, .int sm, .ref z1, .ref z2, .ref z3, .long tr, .int at_, .int be, .int rs, .ref y1, .ref y2, .ref y3, .ref y4, .int nu, .int sf, .int dg, .int sl2_23, .ref ya, .int fp2_24, .ref yw, .int wn, .ref yp])), aI E rw 168 rf2_21, aI E mh 9 hi, aI E md 9 de, aI E ya 1000 af2_22]) (st' := [.int (if y = 6 then nI (LL n hi de mm lg sf dg a (nI u)).1 else nI (LL n hi de mm lg sf dg a (nI u)).2)]) (n' := 0) (z' := 0) (pc' := 70) rfl rfl rfl rfl (by decide +kernel) rfl ?_
                  exact g_iret C hR (⟨_, _, _, _, _, _, by subst h7; rfl, rfl, g2⟩) dX9_now_70
                · skip
                  by_cases h8 : y = 8
                  · skip
                    refine g_tin (off := 70) (tgt := 71) C dX9_now_1 (by rw [h8]; decide) (by rw [h8]; decide) (by rw [h8]; decide) (by decide) ?_
                    refine g_aload_n C dX9_now_71 rfl ?_
                    refine g_get C kwX9 0 rfl rfl 7 (by decide) kfX9_116 rfl dX9_now_72 ?_
                    exact g_iret C hR (⟨_, _, _, _, _, _, by subst h8; rfl, rfl, fun _ _ => rfl⟩) dX9_now_75
                  · skip
                    refine g_tout (tgt := 76) C dX9_now_1 (by have q0 := lv_neT h0 (by decide : (0 : Int32).toInt = 0); have q1 := lv_neT h1 (by decide : (1 : Int32).toInt = 1); have q2 := lv_neT h2 (by decide : (2 : Int32).toInt = 2); have q3 := lv_neT h3 (by decide : (3 : Int32).toInt = 3); have q4 := lv_neT h4 (by decide : (4 : Int32).toInt = 4); have q5 := lv_neT h5 (by decide : (5 : Int32).toInt = 5); have q6 := lv_neT h6 (by decide : (6 : Int32).toInt = 6); have q7 := lv_neT h7 (by decide : (7 : Int32).toInt = 7); have q8 := lv_neT h8 (by decide : (8 : Int32).toInt = 8); omega) (by decide) ?_
                    refine g_iconst (v := (-1)) C dX9_now_76 (by decide) ?_
                    exact g_iret C hR (⟨_, _, _, _, _, _, by rw [if_neg h0, if_neg h1, if_neg h2, if_neg h3, if_neg h4, if_neg h5, if_neg h6, if_neg h7, if_neg h8], rfl, fun _ _ => rfl⟩) dX9_now_77
