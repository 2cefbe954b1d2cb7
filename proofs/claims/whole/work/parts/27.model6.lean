theorem ten_div {x y : Nat} (h : y < 10) : (10 * x + y) / 10 = x ∧ (10 * x + y) % 10 = y := by omega

set_option maxHeartbeats 4000000 in
set_option maxRecDepth 100000 in
theorem lpc_X9_next {k : KX} {E : EX} (C : Cx k E cX9_next RX9 (rmL 8 0 0)) (hnl : ∀ j : Nat, j < 8 → j < k.nL) {mo : Nat} {rw : Nat} {mh : Nat} {md : Nat} {mk : Nat} {mt : Nat} {z1 : Nat} {z2 : Nat} {z3 : Nat} {y1 : Nat} {y2 : Nat} {y3 : Nat} {y4 : Nat} {ya : Nat} {yw : Nat} {yp : Nat} {lg : Int32} {sf : Int32} {dg : Int32} {un : Int32} {le : Int32} {tr : Int64} {at_ : Int32} {be : Int32} {rs : Int32} {nu : Int32} {fpu : Int32} {n : Nat} {hi : Nat → Int32} {de : Nat → Int32} {mm : Nat → Int32} {m : Nat} {bs : Nat → Nat} {e1 : Nat → Int32} {e2 : Nat → Int32} {e3 : Nat → Int32} {fw : Nat → Int32} {j : Nat} (hn : n ≤ 9) (hj : j < n) {W : Nat → Bool} {c0 : Nat} (hw : wayInvM W 36 c0 fw) {t : Int32} {rz : Nat → Int32} {v : Nat} {bt le0 : Int32} (kout : ∀ (rf f6 : Nat → Int32) (os od sl : Int32), (∀ s, s < 9 → rf (3 + s) = mm s) → (∀ i, i < 156 → rf i = rz i) → G k E 0 0 151 [some (.ref mo), some (.int (nI j)), some (.int bt), some (.int le0), some (.int (nI (v + 1))), some (.int (nI (mostG (plF n hi de mm lg W j (nI (v + 1))) c0).2)), some (.int (nI c0)), none] [] [(mo, .inr (9, [.ref rw, .int (nI n), .int lg, .int sf, .int dg, .ref mh, .ref md, .int un, .ref mk, .ref mt, .int le, .int (nI m), .ref z1, .ref z2, .ref z3, .long tr, .int at_, .int be, .int rs, .ref y1, .ref y2, .ref y3, .ref y4, .int nu, .int os, .int od, .int sl, .ref ya, .int fpu, .ref yw, .int (nI c0), .ref yp])), aI E rw 168 rf, aI E mh 9 hi, aI E md 9 de, aI E z1 6 e1, aI E z2 6 e2, aI E z3 6 e3, aI E yw 36 fw, aI E yp 10 f6]) : ∀ (g i : Nat) (rf f6 : Nat → Int32) (os od sl : Int32), i + g = c0 → (∀ p, p ≤ n → f6 p = nI ((mostG (plF n hi de mm lg W j (nI (v + 1))) i).1 p)) → (∀ s, s < 9 → rf (3 + s) = mm s) → (∀ i, i < 156 → rf i = rz i) → G k E 0 0 70 [some (.ref mo), some (.int (nI j)), some (.int bt), some (.int le0), some (.int (nI (v + 1))), some (.int (nI (mostG (plF n hi de mm lg W j (nI (v + 1))) i).2)), some (.int (nI i)), none] [] [(mo, .inr (9, [.ref rw, .int (nI n), .int lg, .int sf, .int dg, .ref mh, .ref md, .int un, .ref mk, .ref mt, .int le, .int (nI m), .ref z1, .ref z2, .ref z3, .long tr, .int at_, .int be, .int rs, .ref y1, .ref y2, .ref y3, .ref y4, .int nu, .int os, .int od, .int sl, .ref ya, .int fpu, .ref yw, .int (nI c0), .ref yp])), aI E rw 168 rf, aI E mh 9 hi, aI E md 9 de, aI E z1 6 e1, aI E z2 6 e2, aI E z3 6 e3, aI E yw 36 fw, aI E yp 10 f6] := by
  have hc36 : c0 ≤ 36 := by rw [hw.1]; exact wayL_len W 36
  intro g
  induction g with
  | zero =>
    intro i rf f6 os od sl hi_ h6 hmm hrz
    have e : i = c0 := by omega
    subst e
    refine g_iload C dX9_next_70 rfl ?_
    refine g_aload_n C dX9_next_72 rfl ?_
    refine g_get C kwX9 0 rfl rfl 30 (by decide) kfX9_182 rfl dX9_next_73 ?_
    refine g_icmp_ge (tgt := 151) C dX9_next_76 (by decide) (fun c76 => ?_) (fun c76 => ?_)
    · skip
      exact kout rf f6 os od sl hmm hrz
    · skip
      exact absurd (Int32.le_refl _) c76
  | succ g ih =>
    intro i rf f6 os od sl hi_ h6 hmm hrz
    have hwi := hw.2 i (by omega)
    have hLt : (wayL W 36).getD i 0 < 36 := wayL_lt W 36 i (by rw [← hw.1]; omega)
    have hdm := ten_div (x := 1 + (wayL W 36).getD i 0 / 4) (y := (wayL W 36).getD i 0 % 4) (by omega)
    have hr := runF_le (n := n) (hi := hi) (de := de) (ma := mm) (lg := lg) (st := nI (1 + (wayL W 36).getD i 0 / 4)) (dr := nI ((wayL W 36).getD i 0 % 4)) 9 j (nI (v + 1)) 0 0 (by omega)
    have hml := mostG_le (plF n hi de mm lg W j (nI (v + 1))) i
    refine g_iload C dX9_next_70 rfl ?_
    refine g_aload_n C dX9_next_72 rfl ?_
    refine g_get C kwX9 0 rfl rfl 30 (by decide) kfX9_182 rfl dX9_next_73 ?_
    refine g_icmp_ge (tgt := 151) C dX9_next_76 (by decide) (fun c76 => ?_) (fun c76 => ?_)
    · skip
      exact absurd ((nI_leI (by omega) (by omega)).mp c76) (by omega)
    · skip
      refine g_aload_n C dX9_next_79 rfl ?_
      refine g_aload_n C dX9_next_80 rfl ?_
      refine g_get C kwX9 0 rfl rfl 29 (by decide) kfX9_60 rfl dX9_next_81 ?_
      refine g_iload C dX9_next_84 rfl ?_
      refine g_iald C 7 i rfl (rfl) (by omega) (by decide) dX9_next_86 ?_
      refine g_topi (v := nI (10 * (1 + (wayL W 36).getD i 0 / 4) + (wayL W 36).getD i 0 % 4)) (hwi) ?_
      refine g_bipush (v := 10) C dX9_next_87 (by decide) ?_
      refine g_idiv C dX9_next_89 (by decide) ?_
      refine g_topi (v := nI (1 + (wayL W 36).getD i 0 / 4)) (by rw [show (10 : Int32) = nI 10 from rfl, pk_div (by omega) (by decide) (by decide), hdm.1]) ?_
      refine g_aload_n C dX9_next_90 rfl ?_
      refine g_get C kwX9 0 rfl rfl 29 (by decide) kfX9_60 rfl dX9_next_91 ?_
      refine g_iload C dX9_next_94 rfl ?_
      refine g_iald C 7 i rfl (rfl) (by omega) (by decide) dX9_next_96 ?_
      refine g_topi (v := nI (10 * (1 + (wayL W 36).getD i 0 / 4) + (wayL W 36).getD i 0 % 4)) (hwi) ?_
      refine g_bipush (v := 10) C dX9_next_97 (by decide) ?_
      refine g_irem C dX9_next_99 (by decide) ?_
      refine g_topi (v := nI ((wayL W 36).getD i 0 % 4)) (by rw [show (10 : Int32) = nI 10 from rfl, pk_rem (by omega) (by decide) (by decide), hdm.2]) ?_
      refine g_iload_n C dX9_next_100 rfl ?_
      refine g_iload C dX9_next_101 rfl ?_
      refine g_callV C (c_X9_restsAt k.l E mo rw mh md mk mt z1 z2 z3 y1 y2 y3 y4 ya yw yp lg sf dg un le (nI m) tr at_ be rs nu os od sl fpu (nI c0) n hi de rf mm (nI (1 + (wayL W 36).getD i 0 / 4)) (nI ((wayL W 36).getD i 0 % 4)) j (nI (v + 1)) (by first | assumption | omega) (hj) (by first | assumption | omega)) kmX9_178 kiX9_restsAt ksX9_restsAt knX9 kcX9_restsAt ⟨rfl, rfl⟩ ⟨rfl, kdX9_restsAt⟩ ⟨by decide, by decide⟩ ⟨by decide, by decide⟩ [0, 1, 2, 3] [4, 5, 6, 7, 8] rfl (wr := [aI E z1 6 e1, aI E z2 6 e2, aI E z3 6 e3, aI E yw 36 fw, aI E yp 10 f6]) rfl (by decide +kernel) (by decide +kernel) (by decide +kernel) 0 9 rfl rfl rfl (As := [.int (nI (1 + (wayL W 36).getD i 0 / 4)), .int (nI ((wayL W 36).getD i 0 % 4)), .int (nI j), .int (nI (v + 1))]) (rest := []) rfl (Nat.le_of_ble_eq_true rfl) dX9_next_103 (fun rv_ rw_ hp_ => ?_)
      obtain ⟨rf2_1, os2_2, od2_3, sl2_4, rfl, rfl, g2⟩ := hp_
      refine g_rep [5, 6, 7, 8, 0, 1, 2, 3, 4] (ws' := [(mo, .inr (9, [.ref rw, .int (nI n), .int lg, .int sf, .int dg, .ref mh, .ref md, .int un, .ref mk, .ref mt, .int le, .int (nI m), .ref z1, .ref z2, .ref z3, .long tr, .int at_, .int be, .int rs, .ref y1, .ref y2, .ref y3, .ref y4, .int nu, .int os2_2, .int od2_3, .int sl2_4, .ref ya, .int fpu, .ref yw, .int (nI c0), .ref yp])), aI E rw 168 rf2_1, aI E mh 9 hi, aI E md 9 de, aI E z1 6 e1, aI E z2 6 e2, aI E z3 6 e3, aI E yw 36 fw, aI E yp 10 f6]) (st' := [.int (nI (runF n hi de mm lg (nI (1 + (wayL W 36).getD i 0 / 4)) (nI ((wayL W 36).getD i 0 % 4)) 9 j (nI (v + 1)) 0 0).1)]) (n' := 0) (z' := 0) (pc' := 106) rfl rfl rfl rfl (by decide +kernel) rfl ?_
      refine g_istore (lv' := [some (.ref mo), some (.int (nI j)), some (.int bt), some (.int le0), some (.int (nI (v + 1))), some (.int (nI (mostG (plF n hi de mm lg W j (nI (v + 1))) i).2)), some (.int (nI i)), some (.int (nI (runF n hi de mm lg (nI (1 + (wayL W 36).getD i 0 / 4)) (nI ((wayL W 36).getD i 0 % 4)) 9 j (nI (v + 1)) 0 0).1))]) C dX9_next_106 (hnl 7 (by decide)) rfl rfl ?_
      refine g_aload_n C dX9_next_108 rfl ?_
      refine g_get C kwX9 0 rfl rfl 31 (by decide) kfX9_63 rfl dX9_next_109 ?_
      refine g_iload C dX9_next_112 rfl ?_
      refine g_dup2 C dX9_next_114 rfl rfl ?_
      refine g_iald C 8 ((runF n hi de mm lg (nI (1 + (wayL W 36).getD i 0 / 4)) (nI ((wayL W 36).getD i 0 % 4)) 9 j (nI (v + 1)) 0 0).1) rfl (rfl) (by omega) (by decide) dX9_next_115 ?_
      refine g_topi (v := nI ((mostG (plF n hi de mm lg W j (nI (v + 1))) i).1 (runF n hi de mm lg (nI (1 + (wayL W 36).getD i 0 / 4)) (nI ((wayL W 36).getD i 0 % 4)) 9 j (nI (v + 1)) 0 0).1)) (h6 _ hr) ?_
      refine g_iconst (v := 1) C dX9_next_116 (by decide) ?_
      refine g_iadd C dX9_next_117 ?_
      refine g_topi (v := nI ((mostG (plF n hi de mm lg W j (nI (v + 1))) i).1 (runF n hi de mm lg (nI (1 + (wayL W 36).getD i 0 / 4)) (nI ((wayL W 36).getD i 0 % 4)) 9 j (nI (v + 1)) 0 0).1 + 1)) (nI_1 _) ?_
      refine g_iast (ws' := [(mo, .inr (9, [.ref rw, .int (nI n), .int lg, .int sf, .int dg, .ref mh, .ref md, .int un, .ref mk, .ref mt, .int le, .int (nI m), .ref z1, .ref z2, .ref z3, .long tr, .int at_, .int be, .int rs, .ref y1, .ref y2, .ref y3, .ref y4, .int nu, .int os2_2, .int od2_3, .int sl2_4, .ref ya, .int fpu, .ref yw, .int (nI c0), .ref yp])), aI E rw 168 rf2_1, aI E mh 9 hi, aI E md 9 de, aI E z1 6 e1, aI E z2 6 e2, aI E z3 6 e3, aI E yw 36 fw, aI E yp 10 (upd f6 ((runF n hi de mm lg (nI (1 + (wayL W 36).getD i 0 / 4)) (nI ((wayL W 36).getD i 0 % 4)) 9 j (nI (v + 1)) 0 0).1) (nI ((mostG (plF n hi de mm lg W j (nI (v + 1))) i).1 (runF n hi de mm lg (nI (1 + (wayL W 36).getD i 0 / 4)) (nI ((wayL W 36).getD i 0 % 4)) 9 j (nI (v + 1)) 0 0).1 + 1)))]) C 8 ((runF n hi de mm lg (nI (1 + (wayL W 36).getD i 0 / 4)) (nI ((wayL W 36).getD i 0 % 4)) 9 j (nI (v + 1)) 0 0).1) rfl (rfl) (by omega) (by decide) rfl dX9_next_118 ?_
      refine g_aload_n C dX9_next_119 rfl ?_
      refine g_get C kwX9 0 rfl rfl 31 (by decide) kfX9_63 rfl dX9_next_120 ?_
      refine g_iload C dX9_next_123 rfl ?_
      refine g_iald C 8 ((runF n hi de mm lg (nI (1 + (wayL W 36).getD i 0 / 4)) (nI ((wayL W 36).getD i 0 % 4)) 9 j (nI (v + 1)) 0 0).1) rfl (rfl) (by omega) (by decide) dX9_next_125 ?_
      refine g_topi (v := nI ((mostG (plF n hi de mm lg W j (nI (v + 1))) i).1 (runF n hi de mm lg (nI (1 + (wayL W 36).getD i 0 / 4)) (nI ((wayL W 36).getD i 0 % 4)) 9 j (nI (v + 1)) 0 0).1 + 1)) (pk_us) ?_
      refine g_iload C dX9_next_126 rfl ?_
      refine g_icmp_le (tgt := 141) C dX9_next_128 (by decide) (fun c128 => ?_) (fun c128 => ?_)
      · skip
        have em : (mostG (plF n hi de mm lg W j (nI (v + 1))) (i + 1)).2 = (mostG (plF n hi de mm lg W j (nI (v + 1))) i).2 := by rw [mostG_2 (r := (runF n hi de mm lg (nI (1 + (wayL W 36).getD i 0 / 4)) (nI ((wayL W 36).getD i 0 % 4)) 9 j (nI (v + 1)) 0 0).1) rfl, if_neg (by have := (nI_leI (by have := hml.1 (runF n hi de mm lg (nI (1 + (wayL W 36).getD i 0 / 4)) (nI ((wayL W 36).getD i 0 % 4)) 9 j (nI (v + 1)) 0 0).1; omega) (by omega)).mp c128; omega)]
        refine g_iload C dX9_next_141 rfl ?_
        refine g_istore (lv' := [some (.ref mo), some (.int (nI j)), some (.int bt), some (.int le0), some (.int (nI (v + 1))), some (.int (nI (mostG (plF n hi de mm lg W j (nI (v + 1))) i).2)), some (.int (nI i)), some (.int (nI (runF n hi de mm lg (nI (1 + (wayL W 36).getD i 0 / 4)) (nI ((wayL W 36).getD i 0 % 4)) 9 j (nI (v + 1)) 0 0).1))]) C dX9_next_143 (hnl 5 (by decide)) rfl rfl ?_
        refine g_iinc (v := nI (i + 1)) (lv' := [some (.ref mo), some (.int (nI j)), some (.int bt), some (.int le0), some (.int (nI (v + 1))), some (.int (nI (mostG (plF n hi de mm lg W j (nI (v + 1))) i).2)), some (.int (nI (i + 1))), some (.int (nI (runF n hi de mm lg (nI (1 + (wayL W 36).getD i 0 / 4)) (nI ((wayL W 36).getD i 0 % 4)) 9 j (nI (v + 1)) 0 0).1))]) C dX9_next_145 rfl (nI_add _ 1) (hnl 6 (by decide)) rfl rfl ?_
        refine g_goto (tgt := 70) C dX9_next_148 (by decide) ?_
        refine g_kill 7 (lv' := [some (.ref mo), some (.int (nI j)), some (.int bt), some (.int le0), some (.int (nI (v + 1))), some (.int (nI (mostG (plF n hi de mm lg W j (nI (v + 1))) i).2)), some (.int (nI (i + 1))), none]) rfl ?_
        have hi2 := fun a b c d e => ih (i + 1) a b c d e (by omega)
        simp only [em] at hi2
        exact hi2 _ _ _ _ _ (mostG_step rfl h6) (fun s hs => by rw [g2 _ (by omega)]; exact hmm s hs) (fun i q => by rw [g2 _ q]; exact hrz i q)
      · skip
        have em : (mostG (plF n hi de mm lg W j (nI (v + 1))) (i + 1)).2 = (mostG (plF n hi de mm lg W j (nI (v + 1))) i).1 (runF n hi de mm lg (nI (1 + (wayL W 36).getD i 0 / 4)) (nI ((wayL W 36).getD i 0 % 4)) 9 j (nI (v + 1)) 0 0).1 + 1 := by rw [mostG_2 (r := (runF n hi de mm lg (nI (1 + (wayL W 36).getD i 0 / 4)) (nI ((wayL W 36).getD i 0 % 4)) 9 j (nI (v + 1)) 0 0).1) rfl, if_pos (nx_nge (by have := hml.1 (runF n hi de mm lg (nI (1 + (wayL W 36).getD i 0 / 4)) (nI ((wayL W 36).getD i 0 % 4)) 9 j (nI (v + 1)) 0 0).1; omega) (by omega) c128)]
        refine g_aload_n C dX9_next_131 rfl ?_
        refine g_get C kwX9 0 rfl rfl 31 (by decide) kfX9_63 rfl dX9_next_132 ?_
        refine g_iload C dX9_next_135 rfl ?_
        refine g_iald C 8 ((runF n hi de mm lg (nI (1 + (wayL W 36).getD i 0 / 4)) (nI ((wayL W 36).getD i 0 % 4)) 9 j (nI (v + 1)) 0 0).1) rfl (rfl) (by omega) (by decide) dX9_next_137 ?_
        refine g_topi (v := nI ((mostG (plF n hi de mm lg W j (nI (v + 1))) i).1 (runF n hi de mm lg (nI (1 + (wayL W 36).getD i 0 / 4)) (nI ((wayL W 36).getD i 0 % 4)) 9 j (nI (v + 1)) 0 0).1 + 1)) (pk_us) ?_
        refine g_goto (tgt := 143) C dX9_next_138 (by decide) ?_
        refine g_istore (lv' := [some (.ref mo), some (.int (nI j)), some (.int bt), some (.int le0), some (.int (nI (v + 1))), some (.int (nI ((mostG (plF n hi de mm lg W j (nI (v + 1))) i).1 (runF n hi de mm lg (nI (1 + (wayL W 36).getD i 0 / 4)) (nI ((wayL W 36).getD i 0 % 4)) 9 j (nI (v + 1)) 0 0).1 + 1))), some (.int (nI i)), some (.int (nI (runF n hi de mm lg (nI (1 + (wayL W 36).getD i 0 / 4)) (nI ((wayL W 36).getD i 0 % 4)) 9 j (nI (v + 1)) 0 0).1))]) C dX9_next_143 (hnl 5 (by decide)) rfl rfl ?_
        refine g_iinc (v := nI (i + 1)) (lv' := [some (.ref mo), some (.int (nI j)), some (.int bt), some (.int le0), some (.int (nI (v + 1))), some (.int (nI ((mostG (plF n hi de mm lg W j (nI (v + 1))) i).1 (runF n hi de mm lg (nI (1 + (wayL W 36).getD i 0 / 4)) (nI ((wayL W 36).getD i 0 % 4)) 9 j (nI (v + 1)) 0 0).1 + 1))), some (.int (nI (i + 1))), some (.int (nI (runF n hi de mm lg (nI (1 + (wayL W 36).getD i 0 / 4)) (nI ((wayL W 36).getD i 0 % 4)) 9 j (nI (v + 1)) 0 0).1))]) C dX9_next_145 rfl (nI_add _ 1) (hnl 6 (by decide)) rfl rfl ?_
        refine g_goto (tgt := 70) C dX9_next_148 (by decide) ?_
        refine g_kill 7 (lv' := [some (.ref mo), some (.int (nI j)), some (.int bt), some (.int le0), some (.int (nI (v + 1))), some (.int (nI ((mostG (plF n hi de mm lg W j (nI (v + 1))) i).1 (runF n hi de mm lg (nI (1 + (wayL W 36).getD i 0 / 4)) (nI ((wayL W 36).getD i 0 % 4)) 9 j (nI (v + 1)) 0 0).1 + 1))), some (.int (nI (i + 1))), none]) rfl ?_
        have hi2 := fun a b c d e => ih (i + 1) a b c d e (by omega)
        simp only [em] at hi2
        exact hi2 _ _ _ _ _ (mostG_step rfl h6) (fun s hs => by rw [g2 _ (by omega)]; exact hmm s hs) (fun i q => by rw [g2 _ q]; exact hrz i q)

set_option maxHeartbeats 4000000 in
set_option maxRecDepth 100000 in
theorem lpk_X9_next {k : KX} {E : EX} (C : Cx k E cX9_next RX9 (rmL 8 0 0)) (hnl : ∀ j : Nat, j < 8 → j < k.nL) {mo : Nat} {rw : Nat} {mh : Nat} {md : Nat} {mk : Nat} {mt : Nat} {z1 : Nat} {z2 : Nat} {z3 : Nat} {y1 : Nat} {y2 : Nat} {y3 : Nat} {y4 : Nat} {ya : Nat} {yw : Nat} {yp : Nat} {lg : Int32} {sf : Int32} {dg : Int32} {un : Int32} {le : Int32} {tr : Int64} {at_ : Int32} {be : Int32} {rs : Int32} {nu : Int32} {fpu : Int32} {n : Nat} {hi : Nat → Int32} {de : Nat → Int32} {mm : Nat → Int32} {m : Nat} {bs : Nat → Nat} {e1 : Nat → Int32} {e2 : Nat → Int32} {e3 : Nat → Int32} {fw : Nat → Int32} {j : Nat} (hn : n ≤ 9) (hj : j < n) {W : Nat → Bool} {c0 : Nat} (hw : wayInvM W 36 c0 fw) {t : Int32} {rz : Nat → Int32} {v : Nat} {bt le0 : Int32} (kout : ∀ (rf f6 : Nat → Int32) (os od sl : Int32), (∀ s, s < 9 → rf (3 + s) = mm s) → (∀ i, i < 156 → rf i = rz i) → G k E 0 0 151 [some (.ref mo), some (.int (nI j)), some (.int bt), some (.int le0), some (.int (nI (v + 1))), some (.int (nI (mostG (plF n hi de mm lg W j (nI (v + 1))) c0).2)), some (.int (nI c0)), none] [] [(mo, .inr (9, [.ref rw, .int (nI n), .int lg, .int sf, .int dg, .ref mh, .ref md, .int un, .ref mk, .ref mt, .int le, .int (nI m), .ref z1, .ref z2, .ref z3, .long tr, .int at_, .int be, .int rs, .ref y1, .ref y2, .ref y3, .ref y4, .int nu, .int os, .int od, .int sl, .ref ya, .int fpu, .ref yw, .int (nI c0), .ref yp])), aI E rw 168 rf, aI E mh 9 hi, aI E md 9 de, aI E z1 6 e1, aI E z2 6 e2, aI E z3 6 e3, aI E yw 36 fw, aI E yp 10 f6]) : ∀ (g i : Nat) (rf f6 : Nat → Int32) (os od sl : Int32), i + g = n + 1 → (∀ p, p < i → f6 p = 0) → (∀ s, s < 9 → rf (3 + s) = mm s) → (∀ i, i < 156 → rf i = rz i) → G k E 0 0 44 [some (.ref mo), some (.int (nI j)), some (.int bt), some (.int le0), some (.int (nI (v + 1))), some (.int 0), some (.int (nI i)), none] [] [(mo, .inr (9, [.ref rw, .int (nI n), .int lg, .int sf, .int dg, .ref mh, .ref md, .int un, .ref mk, .ref mt, .int le, .int (nI m), .ref z1, .ref z2, .ref z3, .long tr, .int at_, .int be, .int rs, .ref y1, .ref y2, .ref y3, .ref y4, .int nu, .int os, .int od, .int sl, .ref ya, .int fpu, .ref yw, .int (nI c0), .ref yp])), aI E rw 168 rf, aI E mh 9 hi, aI E md 9 de, aI E z1 6 e1, aI E z2 6 e2, aI E z3 6 e3, aI E yw 36 fw, aI E yp 10 f6] := by
  intro g
  induction g with
  | zero =>
    intro i rf f6 os od sl hi_ h6 hmm hrz
    refine g_iload C dX9_next_44 rfl ?_
    refine g_aload_n C dX9_next_46 rfl ?_
    refine g_get C kwX9 0 rfl rfl 1 (by decide) kfX9_66 rfl dX9_next_47 ?_
    refine g_icmp_gt (tgt := 67) C dX9_next_50 (by decide) (fun c50 => ?_) (fun c50 => ?_)
    · skip
      refine g_iconst (v := 0) C dX9_next_67 (by decide) ?_
      refine g_istore (lv' := [some (.ref mo), some (.int (nI j)), some (.int bt), some (.int le0), some (.int (nI (v + 1))), some (.int 0), some (.int 0), none]) C dX9_next_68 (hnl 6 (by decide)) rfl rfl ?_
      exact lpc_X9_next (t := t) (bs := bs) C hnl hn hj hw kout c0 0 rf f6 os od sl (by omega) (fun p hp => h6 p (by omega)) hmm hrz
    · skip
      exact absurd ((nI_ltI (by omega) (by omega)).mpr (by omega)) c50
  | succ g ih =>
    intro i rf f6 os od sl hi_ h6 hmm hrz
    refine g_iload C dX9_next_44 rfl ?_
    refine g_aload_n C dX9_next_46 rfl ?_
    refine g_get C kwX9 0 rfl rfl 1 (by decide) kfX9_66 rfl dX9_next_47 ?_
    refine g_icmp_gt (tgt := 67) C dX9_next_50 (by decide) (fun c50 => ?_) (fun c50 => ?_)
    · skip
      exact absurd ((nI_ltI (by omega) (by omega)).mp c50) (by omega)
    · skip
      refine g_aload_n C dX9_next_53 rfl ?_
      refine g_get C kwX9 0 rfl rfl 31 (by decide) kfX9_63 rfl dX9_next_54 ?_
      refine g_iload C dX9_next_57 rfl ?_
      refine g_iconst (v := 0) C dX9_next_59 (by decide) ?_
      refine g_iast (ws' := [(mo, .inr (9, [.ref rw, .int (nI n), .int lg, .int sf, .int dg, .ref mh, .ref md, .int un, .ref mk, .ref mt, .int le, .int (nI m), .ref z1, .ref z2, .ref z3, .long tr, .int at_, .int be, .int rs, .ref y1, .ref y2, .ref y3, .ref y4, .int nu, .int os, .int od, .int sl, .ref ya, .int fpu, .ref yw, .int (nI c0), .ref yp])), aI E rw 168 rf, aI E mh 9 hi, aI E md 9 de, aI E z1 6 e1, aI E z2 6 e2, aI E z3 6 e3, aI E yw 36 fw, aI E yp 10 (upd f6 i 0)]) C 8 i rfl (rfl) (by omega) (by decide) rfl dX9_next_60 ?_
      refine g_iinc (v := nI (i + 1)) (lv' := [some (.ref mo), some (.int (nI j)), some (.int bt), some (.int le0), some (.int (nI (v + 1))), some (.int 0), some (.int (nI (i + 1))), none]) C dX9_next_61 rfl (nI_add _ 1) (hnl 6 (by decide)) rfl rfl ?_
      refine g_goto (tgt := 44) C dX9_next_64 (by decide) ?_
      exact ih (i + 1) _ _ _ _ _ (by omega) (fun p hp => by by_cases e : p = i; rw [e]; exact pk_us; rw [pk_un e]; exact h6 p (by omega)) hmm hrz

set_option maxHeartbeats 4000000 in
set_option maxRecDepth 100000 in
theorem lpo_X9_next {k : KX} {E : EX} (C : Cx k E cX9_next RX9 (rmL 8 0 0)) (hnl : ∀ j : Nat, j < 8 → j < k.nL) {mo : Nat} {rw : Nat} {mh : Nat} {md : Nat} {mk : Nat} {mt : Nat} {z1 : Nat} {z2 : Nat} {z3 : Nat} {y1 : Nat} {y2 : Nat} {y3 : Nat} {y4 : Nat} {ya : Nat} {yw : Nat} {yp : Nat} {lg : Int32} {sf : Int32} {dg : Int32} {un : Int32} {le : Int32} {tr : Int64} {at_ : Int32} {be : Int32} {rs : Int32} {nu : Int32} {fpu : Int32} {n : Nat} {hi : Nat → Int32} {de : Nat → Int32} {mm : Nat → Int32} {m : Nat} {bs : Nat → Nat} {e1 : Nat → Int32} {e2 : Nat → Int32} {e3 : Nat → Int32} {fw : Nat → Int32} {j : Nat} (hn : n ≤ 9) (hj : j < n) {W : Nat → Bool} {c0 : Nat} (hw : wayInvM W 36 c0 fw) {t : Int32} {rz : Nat → Int32} (h1 : ¬ c0 ≤ 1) (hR : Rt k E (fun (rv_ : Option Value) (rw_ : va_W) => ∃ (c2 : Nat) (fw2 : Nat → Int32) (rf2 : Nat → Int32) (os2 : Int32) (od2 : Int32) (sl2 : Int32) (f62 : Nat → Int32), rv_ = some (.int t) ∧ rw_ = [(mo, .inr (9, [.ref rw, .int (nI n), .int lg, .int sf, .int dg, .ref mh, .ref md, .int un, .ref mk, .ref mt, .int le, .int (nI m), .ref z1, .ref z2, .ref z3, .long tr, .int at_, .int be, .int rs, .ref y1, .ref y2, .ref y3, .ref y4, .int nu, .int os2, .int od2, .int sl2, .ref ya, .int fpu, .ref yw, .int (nI c2), .ref yp])), aI E rw 168 rf2, aI E mh 9 hi, aI E md 9 de, aI E z1 6 e1, aI E z2 6 e2, aI E z3 6 e3, aI E yw 36 fw2, aI E yp 10 f62] ∧ (∀ i, i < 156 → rf2 i = rz i)) 0 0 (some .int)) : ∀ (g v : Nat) (rf f6 : Nat → Int32) (os od sl : Int32), v + g = 60 → (∀ s, s < 9 → rf (3 + s) = mm s) → (∀ i, i < 156 → rf i = rz i) → (tryG (fun vq => (mostG (plF n hi de mm lg W j (nI vq)) c0).2) 99999 60).2 = t → G k E 0 0 23 [some (.ref mo), some (.int (nI j)), some (.int ((tryG (fun vq => (mostG (plF n hi de mm lg W j (nI vq)) c0).2) 99999 v).2)), some (.int (nI (tryG (fun vq => (mostG (plF n hi de mm lg W j (nI vq)) c0).2) 99999 v).1)), some (.int (nI (v + 1))), none, none, none] [] [(mo, .inr (9, [.ref rw, .int (nI n), .int lg, .int sf, .int dg, .ref mh, .ref md, .int un, .ref mk, .ref mt, .int le, .int (nI m), .ref z1, .ref z2, .ref z3, .long tr, .int at_, .int be, .int rs, .ref y1, .ref y2, .ref y3, .ref y4, .int nu, .int os, .int od, .int sl, .ref ya, .int fpu, .ref yw, .int (nI c0), .ref yp])), aI E rw 168 rf, aI E mh 9 hi, aI E md 9 de, aI E z1 6 e1, aI E z2 6 e2, aI E z3 6 e3, aI E yw 36 fw, aI E yp 10 f6] := by
  have hc36 : c0 ≤ 36 := by rw [hw.1]; exact wayL_len W 36
  intro g
  induction g with
  | zero =>
    intro v rf f6 os od sl hv hmm hrz ht
    have e : v = 60 := by omega
    subst e
    refine g_iload C dX9_next_23 rfl ?_
    refine g_bipush (v := 61) C dX9_next_25 (by decide) ?_
    refine g_icmp_ge (tgt := 183) C dX9_next_27 (by decide) (fun c27 => ?_) (fun c27 => ?_)
    · skip
      refine g_iload_n C dX9_next_183 rfl ?_
      exact g_iret C hR (⟨_, _, _, _, _, _, _, by rw [← ht], rfl, hrz⟩) dX9_next_184
    · skip
      exact absurd (by decide) c27
  | succ g ih =>
    intro v rf f6 os od sl hv hmm hrz ht
    have hle := tryG_le (M := (fun vq => (mostG (plF n hi de mm lg W j (nI vq)) c0).2)) (f0 := 99999) (B := 99999) (fun q => by have := (mostG_le (plF n hi de mm lg W j (nI q)) c0).2; omega) (Nat.le_refl _) v
    have hmb := (mostG_le (plF n hi de mm lg W j (nI (v + 1))) c0).2
    refine g_iload C dX9_next_23 rfl ?_
    refine g_bipush (v := 61) C dX9_next_25 (by decide) ?_
    refine g_icmp_ge (tgt := 183) C dX9_next_27 (by decide) (fun c27 => ?_) (fun c27 => ?_)
    · skip
      exact absurd ((nI_leI (a := 61) (by decide) (by omega)).mp c27) (by omega)
    · skip
      refine g_aload_n C dX9_next_30 rfl ?_
      refine g_get C kwX9 0 rfl rfl 30 (by decide) kfX9_182 rfl dX9_next_31 ?_
      refine g_iconst (v := 1) C dX9_next_34 (by decide) ?_
      refine g_icmp_le (tgt := 183) C dX9_next_35 (by decide) (fun c35 => ?_) (fun c35 => ?_)
      · skip
        exact absurd ((nI_leI (b := 1) (by omega) (by decide)).mp c35) h1
      · skip
        refine g_iconst (v := 0) C dX9_next_38 (by decide) ?_
        refine g_istore (lv' := [some (.ref mo), some (.int (nI j)), some (.int ((tryG (fun vq => (mostG (plF n hi de mm lg W j (nI vq)) c0).2) 99999 v).2)), some (.int (nI (tryG (fun vq => (mostG (plF n hi de mm lg W j (nI vq)) c0).2) 99999 v).1)), some (.int (nI (v + 1))), some (.int 0), none, none]) C dX9_next_39 (hnl 5 (by decide)) rfl rfl ?_
        refine g_iconst (v := 0) C dX9_next_41 (by decide) ?_
        refine g_istore (lv' := [some (.ref mo), some (.int (nI j)), some (.int ((tryG (fun vq => (mostG (plF n hi de mm lg W j (nI vq)) c0).2) 99999 v).2)), some (.int (nI (tryG (fun vq => (mostG (plF n hi de mm lg W j (nI vq)) c0).2) 99999 v).1)), some (.int (nI (v + 1))), some (.int 0), some (.int 0), none]) C dX9_next_42 (hnl 6 (by decide)) rfl rfl ?_
        refine lpk_X9_next (t := t) (bs := bs) C hnl hn hj hw (fun rf f6 os od sl hmm hrz => ?_) (n + 1) 0 rf f6 os od sl (by omega) (fun p q => absurd q (Nat.not_lt_zero _)) hmm hrz
        refine g_iload C dX9_next_151 rfl ?_
        refine g_iload_n C dX9_next_153 rfl ?_
        refine g_icmp_ge (tgt := 162) C dX9_next_154 (by decide) (fun c154 => ?_) (fun c154 => ?_)
        · skip
          have hge := (nI_leI (by omega) (by omega)).mp c154
          have et : tryG (fun vq => (mostG (plF n hi de mm lg W j (nI vq)) c0).2) 99999 (v + 1) = tryG (fun vq => (mostG (plF n hi de mm lg W j (nI vq)) c0).2) 99999 v := if_neg (fun q => absurd hge (Nat.not_le.mpr q))
          refine g_iload_n C dX9_next_162 rfl ?_
          refine g_istore_n (lv' := [some (.ref mo), some (.int (nI j)), some (.int ((tryG (fun vq => (mostG (plF n hi de mm lg W j (nI vq)) c0).2) 99999 v).2)), some (.int (nI (tryG (fun vq => (mostG (plF n hi de mm lg W j (nI vq)) c0).2) 99999 v).1)), some (.int (nI (v + 1))), some (.int (nI (mostG (plF n hi de mm lg W j (nI (v + 1))) c0).2)), some (.int (nI c0)), none]) C dX9_next_163 (hnl 2 (by decide)) rfl rfl ?_
          refine g_iload C dX9_next_164 rfl ?_
          refine g_iload_n C dX9_next_166 rfl ?_
          refine g_icmp_ge (tgt := 175) C dX9_next_167 (by decide) (fun c167 => ?_) (fun c167 => ?_)
          · skip
            refine g_iload_n C dX9_next_175 rfl ?_
            refine g_istore_n (lv' := [some (.ref mo), some (.int (nI j)), some (.int ((tryG (fun vq => (mostG (plF n hi de mm lg W j (nI vq)) c0).2) 99999 v).2)), some (.int (nI (tryG (fun vq => (mostG (plF n hi de mm lg W j (nI vq)) c0).2) 99999 v).1)), some (.int (nI (v + 1))), some (.int (nI (mostG (plF n hi de mm lg W j (nI (v + 1))) c0).2)), some (.int (nI c0)), none]) C dX9_next_176 (hnl 3 (by decide)) rfl rfl ?_
            refine g_iinc (v := nI ((v + 1) + 1)) (lv' := [some (.ref mo), some (.int (nI j)), some (.int ((tryG (fun vq => (mostG (plF n hi de mm lg W j (nI vq)) c0).2) 99999 v).2)), some (.int (nI (tryG (fun vq => (mostG (plF n hi de mm lg W j (nI vq)) c0).2) 99999 v).1)), some (.int (nI ((v + 1) + 1))), some (.int (nI (mostG (plF n hi de mm lg W j (nI (v + 1))) c0).2)), some (.int (nI c0)), none]) C dX9_next_177 rfl (nI_add _ 1) (hnl 4 (by decide)) rfl rfl ?_
            refine g_goto (tgt := 23) C dX9_next_180 (by decide) ?_
            refine g_kill 6 (lv' := [some (.ref mo), some (.int (nI j)), some (.int ((tryG (fun vq => (mostG (plF n hi de mm lg W j (nI vq)) c0).2) 99999 v).2)), some (.int (nI (tryG (fun vq => (mostG (plF n hi de mm lg W j (nI vq)) c0).2) 99999 v).1)), some (.int (nI ((v + 1) + 1))), some (.int (nI (mostG (plF n hi de mm lg W j (nI (v + 1))) c0).2)), none, none]) rfl ?_
            refine g_kill 5 (lv' := [some (.ref mo), some (.int (nI j)), some (.int ((tryG (fun vq => (mostG (plF n hi de mm lg W j (nI vq)) c0).2) 99999 v).2)), some (.int (nI (tryG (fun vq => (mostG (plF n hi de mm lg W j (nI vq)) c0).2) 99999 v).1)), some (.int (nI ((v + 1) + 1))), none, none, none]) rfl ?_
            have hi2 := fun a b c d e => ih (v + 1) a b c d e (by omega)
            simp only [et] at hi2
            exact hi2 _ _ _ _ _ hmm hrz ht
          · skip
            exact absurd c154 c167
        · skip
          have hlt := nx_nge (by omega) (by omega) c154
          have et : tryG (fun vq => (mostG (plF n hi de mm lg W j (nI vq)) c0).2) 99999 (v + 1) = ((mostG (plF n hi de mm lg W j (nI (v + 1))) c0).2, nI (v + 1)) := if_pos hlt
          refine g_iload C dX9_next_157 rfl ?_
          refine g_goto (tgt := 163) C dX9_next_159 (by decide) ?_
          refine g_istore_n (lv' := [some (.ref mo), some (.int (nI j)), some (.int (nI (v + 1))), some (.int (nI (tryG (fun vq => (mostG (plF n hi de mm lg W j (nI vq)) c0).2) 99999 v).1)), some (.int (nI (v + 1))), some (.int (nI (mostG (plF n hi de mm lg W j (nI (v + 1))) c0).2)), some (.int (nI c0)), none]) C dX9_next_163 (hnl 2 (by decide)) rfl rfl ?_
          refine g_iload C dX9_next_164 rfl ?_
          refine g_iload_n C dX9_next_166 rfl ?_
          refine g_icmp_ge (tgt := 175) C dX9_next_167 (by decide) (fun c167 => ?_) (fun c167 => ?_)
          · skip
            exact absurd c167 c154
          · skip
            refine g_iload C dX9_next_170 rfl ?_
            refine g_goto (tgt := 176) C dX9_next_172 (by decide) ?_
            refine g_istore_n (lv' := [some (.ref mo), some (.int (nI j)), some (.int (nI (v + 1))), some (.int (nI (mostG (plF n hi de mm lg W j (nI (v + 1))) c0).2)), some (.int (nI (v + 1))), some (.int (nI (mostG (plF n hi de mm lg W j (nI (v + 1))) c0).2)), some (.int (nI c0)), none]) C dX9_next_176 (hnl 3 (by decide)) rfl rfl ?_
            refine g_iinc (v := nI ((v + 1) + 1)) (lv' := [some (.ref mo), some (.int (nI j)), some (.int (nI (v + 1))), some (.int (nI (mostG (plF n hi de mm lg W j (nI (v + 1))) c0).2)), some (.int (nI ((v + 1) + 1))), some (.int (nI (mostG (plF n hi de mm lg W j (nI (v + 1))) c0).2)), some (.int (nI c0)), none]) C dX9_next_177 rfl (nI_add _ 1) (hnl 4 (by decide)) rfl rfl ?_
            refine g_goto (tgt := 23) C dX9_next_180 (by decide) ?_
            refine g_kill 6 (lv' := [some (.ref mo), some (.int (nI j)), some (.int (nI (v + 1))), some (.int (nI (mostG (plF n hi de mm lg W j (nI (v + 1))) c0).2)), some (.int (nI ((v + 1) + 1))), some (.int (nI (mostG (plF n hi de mm lg W j (nI (v + 1))) c0).2)), none, none]) rfl ?_
            refine g_kill 5 (lv' := [some (.ref mo), some (.int (nI j)), some (.int (nI (v + 1))), some (.int (nI (mostG (plF n hi de mm lg W j (nI (v + 1))) c0).2)), some (.int (nI ((v + 1) + 1))), none, none, none]) rfl ?_
            have hi2 := fun a b c d e => ih (v + 1) a b c d e (by omega)
            simp only [et] at hi2
            exact hi2 _ _ _ _ _ hmm hrz ht

set_option maxHeartbeats 4000000 in
set_option maxRecDepth 100000 in
theorem c_X9_next (l : Launch) (E : EX) (mo : Nat) (rw : Nat) (mh : Nat) (md : Nat) (mk : Nat) (mt : Nat) (z1 : Nat) (z2 : Nat) (z3 : Nat) (y1 : Nat) (y2 : Nat) (y3 : Nat) (y4 : Nat) (ya : Nat) (yw : Nat) (yp : Nat) (lg : Int32) (sf : Int32) (dg : Int32) (un : Int32) (le : Int32) (tr : Int64) (at_ : Int32) (be : Int32) (rs : Int32) (nu : Int32) (os : Int32) (od : Int32) (sl : Int32) (fpu : Int32) (wn : Int32) (n : Nat) (hi : Nat → Int32) (de : Nat → Int32) (rf : Nat → Int32) (mm : Nat → Int32) (m : Nat) (bs : Nat → Nat) (e1 : Nat → Int32) (e2 : Nat → Int32) (e3 : Nat → Int32) (fw : Nat → Int32) (f6 : Nat → Int32) (j : Nat) (hn : n ≤ 9) (hm6 : m ≤ 6) (hbs : ∀ j, j < m → e1 j = nI (bs j) ∧ bs j < n) (hmm : ∀ s, s < 9 → rf (3 + s) = mm s) (hj : j < n) : Ct l E yX9_next cX9_next 8 (some .int) (rmL 8 0 0) [.ref mo, .int (nI j)] [(mo, .inr (9, [.ref rw, .int (nI n), .int lg, .int sf, .int dg, .ref mh, .ref md, .int un, .ref mk, .ref mt, .int le, .int (nI m), .ref z1, .ref z2, .ref z3, .long tr, .int at_, .int be, .int rs, .ref y1, .ref y2, .ref y3, .ref y4, .int nu, .int os, .int od, .int sl, .ref ya, .int fpu, .ref yw, .int wn, .ref yp])), aI E rw 168 rf, aI E mh 9 hi, aI E md 9 de, aI E z1 6 e1, aI E z2 6 e2, aI E z3 6 e3, aI E yw 36 fw, aI E yp 10 f6] (fun (rv_ : Option Value) (rw_ : va_W) => ∃ (c2 : Nat) (fw2 : Nat → Int32) (rf2 : Nat → Int32) (os2 : Int32) (od2 : Int32) (sl2 : Int32) (f62 : Nat → Int32), rv_ = some (.int (if (wayL (WW n hi de mm lg bs e2 e3 m) 36).length ≤ 1 then -9 else (tryG (fun vq => (mostG (plF n hi de mm lg (WW n hi de mm lg bs e2 e3 m) j (nI vq)) (wayL (WW n hi de mm lg bs e2 e3 m) 36).length).2) ((wayL (WW n hi de mm lg bs e2 e3 m) 36).length + 1) 60).2)) ∧ rw_ = [(mo, .inr (9, [.ref rw, .int (nI n), .int lg, .int sf, .int dg, .ref mh, .ref md, .int un, .ref mk, .ref mt, .int le, .int (nI m), .ref z1, .ref z2, .ref z3, .long tr, .int at_, .int be, .int rs, .ref y1, .ref y2, .ref y3, .ref y4, .int nu, .int os2, .int od2, .int sl2, .ref ya, .int fpu, .ref yw, .int (nI c2), .ref yp])), aI E rw 168 rf2, aI E mh 9 hi, aI E md 9 de, aI E z1 6 e1, aI E z2 6 e2, aI E z3 6 e3, aI E yw 36 fw2, aI E yp 10 f62] ∧ (∀ i, i < 156 → rf2 i = rf i)) 0 0 := by
  refine Ct_of (by decide) (Nat.le_of_ble_eq_true rfl) ?_
  intro k hkl hnl C hR hin_
  subst hkl
  show G k E 0 0 0 [some (.ref mo), some (.int (nI j)), none, none, none, none, none, none] [] [(mo, .inr (9, [.ref rw, .int (nI n), .int lg, .int sf, .int dg, .ref mh, .ref md, .int un, .ref mk, .ref mt, .int le, .int (nI m), .ref z1, .ref z2, .ref z3, .long tr, .int at_, .int be, .int rs, .ref y1, .ref y2, .ref y3, .ref y4, .int nu, .int os, .int od, .int sl, .ref ya, .int fpu, .ref yw, .int wn, .ref yp])), aI E rw 168 rf, aI E mh 9 hi, aI E md 9 de, aI E z1 6 e1, aI E z2 6 e2, aI E z3 6 e3, aI E yw 36 fw, aI E yp 10 f6]
  refine g_aload_n C dX9_next_0 rfl ?_
  refine g_iload_n C dX9_next_1 rfl ?_
  refine g_callV C (c_X9_isStep k.l E mo rw mh md mk mt z1 z2 z3 y1 y2 y3 y4 ya yw yp (nI n) lg sf dg un le (nI m) tr at_ be rs nu os od sl fpu wn (nI j)) kmX9_122 kiX9_isStep ksX9_isStep knX9 kcX9_isStep ⟨rfl, rfl⟩ ⟨rfl, kdX9_isStep⟩ ⟨by decide, by decide⟩ ⟨by decide, by decide⟩ [0] [1, 2, 3, 4, 5, 6, 7, 8] rfl (wr := [aI E rw 168 rf, aI E mh 9 hi, aI E md 9 de, aI E z1 6 e1, aI E z2 6 e2, aI E z3 6 e3, aI E yw 36 fw, aI E yp 10 f6]) rfl (by decide +kernel) (by decide +kernel) (by decide +kernel) 0 9 rfl rfl rfl (As := [.int (nI j)]) (rest := []) rfl (Nat.le_of_ble_eq_true rfl) dX9_next_2 (fun rv_ rw_ hp_ => ?_)
  obtain ⟨rfl, rfl⟩ := hp_
  refine g_rep [8, 0, 1, 2, 3, 4, 5, 6, 7] (ws' := [(mo, .inr (9, [.ref rw, .int (nI n), .int lg, .int sf, .int dg, .ref mh, .ref md, .int un, .ref mk, .ref mt, .int le, .int (nI m), .ref z1, .ref z2, .ref z3, .long tr, .int at_, .int be, .int rs, .ref y1, .ref y2, .ref y3, .ref y4, .int nu, .int os, .int od, .int sl, .ref ya, .int fpu, .ref yw, .int wn, .ref yp])), aI E rw 168 rf, aI E mh 9 hi, aI E md 9 de, aI E z1 6 e1, aI E z2 6 e2, aI E z3 6 e3, aI E yw 36 fw, aI E yp 10 f6]) (st' := [.int (bI (0 ≤ (nI j) ∧ (nI j) ≤ (nI n) - 1))]) (n' := 0) (z' := 0) (pc' := 5) rfl rfl rfl rfl (by decide +kernel) rfl ?_
  refine g_if_ne (tgt := 10) C dX9_next_5 (by decide) (fun c5 => ?_) (fun c5 => ?_)
  · skip
    refine g_aload_n C dX9_next_10 rfl ?_
    refine g_callV C (c_X9_layWays k.l E mo rw mh md mk mt z1 z2 z3 y1 y2 y3 y4 ya yw yp lg sf dg un le tr at_ be rs nu os od sl fpu wn n hi de rf mm m bs e1 e2 e3 fw (by first | assumption | omega) (by first | assumption | omega) (by first | assumption | omega) (by first | assumption | omega)) kmX9_188 kiX9_layWays ksX9_layWays knX9 kcX9_layWays ⟨rfl, rfl⟩ ⟨rfl, kdX9_layWays⟩ ⟨by decide, by decide⟩ ⟨by decide, by decide⟩ [0, 1, 2, 3, 4, 5, 6, 7] [8] rfl (wr := [aI E yp 10 f6]) rfl (by decide +kernel) (by decide +kernel) (by decide +kernel) 0 9 rfl rfl rfl (As := []) (rest := []) rfl (Nat.le_of_ble_eq_true rfl) dX9_next_11 (fun rv_ rw_ hp_ => ?_)
    obtain ⟨cx, fw2_2, rf2_3, os2_4, od2_5, sl2_6, rfl, rfl, hwx, g2⟩ := hp_
    refine g_rep [1, 2, 3, 4, 5, 6, 7, 8, 0] (ws' := [(mo, .inr (9, [.ref rw, .int (nI n), .int lg, .int sf, .int dg, .ref mh, .ref md, .int un, .ref mk, .ref mt, .int le, .int (nI m), .ref z1, .ref z2, .ref z3, .long tr, .int at_, .int be, .int rs, .ref y1, .ref y2, .ref y3, .ref y4, .int nu, .int os2_4, .int od2_5, .int sl2_6, .ref ya, .int fpu, .ref yw, .int (nI cx), .ref yp])), aI E rw 168 rf2_3, aI E mh 9 hi, aI E md 9 de, aI E z1 6 e1, aI E z2 6 e2, aI E z3 6 e3, aI E yw 36 fw2_2, aI E yp 10 f6]) (st' := []) (n' := 0) (z' := 0) (pc' := 14) rfl rfl rfl rfl (by decide +kernel) rfl ?_
    have hw1 := hwx.1
    have hl36 := wayL_len (WW n hi de mm lg bs e2 e3 m) 36
    by_cases h1 : cx ≤ 1
    · skip
      refine g_bipush (v := (-9)) C dX9_next_14 (by decide) ?_
      refine g_istore_n (lv' := [some (.ref mo), some (.int (nI j)), some (.int (-9)), none, none, none, none, none]) C dX9_next_16 (hnl 2 (by decide)) rfl rfl ?_
      refine g_ldc C dX9_next_17 kkX9_152 ?_
      refine g_istore_n (lv' := [some (.ref mo), some (.int (nI j)), some (.int (-9)), some (.int 99999), none, none, none, none]) C dX9_next_19 (hnl 3 (by decide)) rfl rfl ?_
      refine g_iconst (v := 1) C dX9_next_20 (by decide) ?_
      refine g_istore (lv' := [some (.ref mo), some (.int (nI j)), some (.int (-9)), some (.int 99999), some (.int 1), none, none, none]) C dX9_next_21 (hnl 4 (by decide)) rfl rfl ?_
      refine g_iload C dX9_next_23 rfl ?_
      refine g_bipush (v := 61) C dX9_next_25 (by decide) ?_
      refine g_icmp_ge (tgt := 183) C dX9_next_27 (by decide) (fun c27 => ?_) (fun c27 => ?_)
      · skip
        exact absurd c27 (by decide)
      · skip
        refine g_aload_n C dX9_next_30 rfl ?_
        refine g_get C kwX9 0 rfl rfl 30 (by decide) kfX9_182 rfl dX9_next_31 ?_
        refine g_iconst (v := 1) C dX9_next_34 (by decide) ?_
        refine g_icmp_le (tgt := 183) C dX9_next_35 (by decide) (fun c35 => ?_) (fun c35 => ?_)
        · skip
          refine g_iload_n C dX9_next_183 rfl ?_
          exact g_iret C hR (⟨_, _, _, _, _, _, _, by rw [if_pos (by omega)], rfl, g2⟩) dX9_next_184
        · skip
          exact absurd ((nI_leI (b := 1) (by omega) (by decide)).mpr h1) c35
    · skip
      refine g_bipush (v := (-9)) C dX9_next_14 (by decide) ?_
      refine g_istore_n (lv' := [some (.ref mo), some (.int (nI j)), some (.int (-9)), none, none, none, none, none]) C dX9_next_16 (hnl 2 (by decide)) rfl rfl ?_
      refine g_ldc C dX9_next_17 kkX9_152 ?_
      refine g_istore_n (lv' := [some (.ref mo), some (.int (nI j)), some (.int (-9)), some (.int 99999), none, none, none, none]) C dX9_next_19 (hnl 3 (by decide)) rfl rfl ?_
      refine g_iconst (v := 1) C dX9_next_20 (by decide) ?_
      refine g_istore (lv' := [some (.ref mo), some (.int (nI j)), some (.int (-9)), some (.int 99999), some (.int 1), none, none, none]) C dX9_next_21 (hnl 4 (by decide)) rfl rfl ?_
      exact lpo_X9_next (W := WW n hi de mm lg bs e2 e3 m) (mm := mm) (bs := bs) C hnl hn hj hwx h1 hR 60 0 _ _ _ _ _ (by omega) (fun s hs => by rw [g2 _ (by omega)]; exact hmm s hs) g2 (by rw [if_neg (by omega), ← hw1, tryG_same (v := 59) (f0 := 99999) (f1 := cx + 1) (by have := (mostG_le (plF n hi de mm lg (WW n hi de mm lg bs e2 e3 m) j (nI 1)) cx).2; show _ < _; omega) (by have := (mostG_le (plF n hi de mm lg (WW n hi de mm lg bs e2 e3 m) j (nI 1)) cx).2; show _ < _; omega)])
  · skip
    exact absurd (has_t hj (by omega)) (bI_0 c5)

set_option maxHeartbeats 4000000 in
set_option maxRecDepth 100000 in
theorem c_X9_nextB (l : Launch) (E : EX) (mo : Nat) (rw : Nat) (mh : Nat) (md : Nat) (mk : Nat) (mt : Nat) (z1 : Nat) (z2 : Nat) (z3 : Nat) (y1 : Nat) (y2 : Nat) (y3 : Nat) (y4 : Nat) (ya : Nat) (yw : Nat) (yp : Nat) (st0 : Int32) (lg : Int32) (sf : Int32) (dg : Int32) (un : Int32) (le : Int32) (sm : Int32) (tr : Int64) (at_ : Int32) (be : Int32) (rs : Int32) (nu : Int32) (os : Int32) (od : Int32) (sl : Int32) (fpu : Int32) (wn : Int32) (y : Int32) (hb : ¬ (0 ≤ y ∧ y ≤ st0 - 1)) : Ct l E yX9_next cX9_next 8 (some .int) (rmL 8 0 0) [.ref mo, .int y] [(mo, .inr (9, [.ref rw, .int st0, .int lg, .int sf, .int dg, .ref mh, .ref md, .int un, .ref mk, .ref mt, .int le, .int sm, .ref z1, .ref z2, .ref z3, .long tr, .int at_, .int be, .int rs, .ref y1, .ref y2, .ref y3, .ref y4, .int nu, .int os, .int od, .int sl, .ref ya, .int fpu, .ref yw, .int wn, .ref yp]))] (fun (rv_ : Option Value) (rw_ : va_W) => rv_ = some (.int (-1)) ∧ rw_ = [(mo, .inr (9, [.ref rw, .int st0, .int lg, .int sf, .int dg, .ref mh, .ref md, .int un, .ref mk, .ref mt, .int le, .int sm, .ref z1, .ref z2, .ref z3, .long tr, .int at_, .int be, .int rs, .ref y1, .ref y2, .ref y3, .ref y4, .int nu, .int os, .int od, .int sl, .ref ya, .int fpu, .ref yw, .int wn, .ref yp]))]) 0 0 := by
  refine Ct_of (by decide) (Nat.le_of_ble_eq_true rfl) ?_
  intro k hkl hnl C hR hin_
  subst hkl
  show G k E 0 0 0 [some (.ref mo), some (.int y), none, none, none, none, none, none] [] [(mo, .inr (9, [.ref rw, .int st0, .int lg, .int sf, .int dg, .ref mh, .ref md, .int un, .ref mk, .ref mt, .int le, .int sm, .ref z1, .ref z2, .ref z3, .long tr, .int at_, .int be, .int rs, .ref y1, .ref y2, .ref y3, .ref y4, .int nu, .int os, .int od, .int sl, .ref ya, .int fpu, .ref yw, .int wn, .ref yp]))]
  refine g_aload_n C dX9_next_0 rfl ?_
  refine g_iload_n C dX9_next_1 rfl ?_
  refine g_callV C (c_X9_isStep k.l E mo rw mh md mk mt z1 z2 z3 y1 y2 y3 y4 ya yw yp st0 lg sf dg un le sm tr at_ be rs nu os od sl fpu wn y) kmX9_122 kiX9_isStep ksX9_isStep knX9 kcX9_isStep ⟨rfl, rfl⟩ ⟨rfl, kdX9_isStep⟩ ⟨by decide, by decide⟩ ⟨by decide, by decide⟩ [0] [] rfl (wr := []) rfl (by decide +kernel) (by decide +kernel) (by decide +kernel) 0 9 rfl rfl rfl (As := [.int y]) (rest := []) rfl (Nat.le_of_ble_eq_true rfl) dX9_next_2 (fun rv_ rw_ hp_ => ?_)
  obtain ⟨rfl, rfl⟩ := hp_
  refine g_rep [0] (ws' := [(mo, .inr (9, [.ref rw, .int st0, .int lg, .int sf, .int dg, .ref mh, .ref md, .int un, .ref mk, .ref mt, .int le, .int sm, .ref z1, .ref z2, .ref z3, .long tr, .int at_, .int be, .int rs, .ref y1, .ref y2, .ref y3, .ref y4, .int nu, .int os, .int od, .int sl, .ref ya, .int fpu, .ref yw, .int wn, .ref yp]))]) (st' := [.int (bI (0 ≤ y ∧ y ≤ st0 - 1))]) (n' := 0) (z' := 0) (pc' := 5) rfl rfl rfl rfl (by decide +kernel) rfl ?_
  refine g_if_ne (tgt := 10) C dX9_next_5 (by decide) (fun c5 => ?_) (fun c5 => ?_)
  · skip
    exact absurd (bI_1 c5) hb
  · skip
    refine g_iconst (v := (-1)) C dX9_next_8 (by decide) ?_
    exact g_iret C hR (⟨rfl, rfl⟩) dX9_next_9
