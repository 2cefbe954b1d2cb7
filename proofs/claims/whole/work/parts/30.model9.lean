set_option maxHeartbeats 4000000 in
set_option maxRecDepth 100000 in
theorem c_X9_readsStep (l : Launch) (E : EX) (mo : Nat) (rw : Nat) (mh : Nat) (md : Nat) (mk : Nat) (mt : Nat) (z1 : Nat) (z2 : Nat) (z3 : Nat) (y1 : Nat) (y2 : Nat) (y3 : Nat) (y4 : Nat) (ya : Nat) (yw : Nat) (yp : Nat) (st0 : Int32) (lg : Int32) (sf : Int32) (dg : Int32) (un : Int32) (sm : Int32) (tr : Int64) (at_ : Int32) (nu : Int32) (os : Int32) (od : Int32) (sl : Int32) (fpu : Int32) (wn : Int32) (l0 : Nat) (tf : Nat → Int32) (p : Nat) (n : Nat) (hi : Nat → Int32) (de : Nat → Int32) (pma : Nat → Int32) (hl : l0 ≤ 100) (hp : p ≤ l0) (hn : n ≤ 9) : Ct l E yX9_readsStep cX9_readsStep 1 (some .boolean) (rmL 5 0 0) [.ref mo] [(mo, .inr (9, [.ref rw, .int st0, .int lg, .int sf, .int dg, .ref mh, .ref md, .int un, .ref mk, .ref mt, .int (nI l0), .int sm, .ref z1, .ref z2, .ref z3, .long tr, .int at_, .int (nI p), .int (nI n), .ref y1, .ref y2, .ref y3, .ref y4, .int nu, .int os, .int od, .int sl, .ref ya, .int fpu, .ref yw, .int wn, .ref yp])), aI E mt 100 tf, aI E y1 9 hi, aI E y2 9 de, aI E y3 9 pma] (fun (rv_ : Option Value) (rw_ : va_W) => ∃ (at2 : Int32) (be2 : Int32) (rs2 : Int32) (nu2 : Int32) (hi2 : Nat → Int32) (de2 : Nat → Int32) (pma2 : Nat → Int32), rv_ = some (.int (bI (n < 9 ∧ numOK tf l0 (tk tf l0 p) 1 9 ∧ numOK tf l0 (tk tf l0 (tk tf l0 p + 1)) 1 9 ∧ numOK tf l0 (tk tf l0 (tk tf l0 (tk tf l0 p + 1) + 1)) 0 5))) ∧ rw_ = [(mo, .inr (9, [.ref rw, .int st0, .int lg, .int sf, .int dg, .ref mh, .ref md, .int un, .ref mk, .ref mt, .int (nI l0), .int sm, .ref z1, .ref z2, .ref z3, .long tr, .int at2, .int be2, .int rs2, .ref y1, .ref y2, .ref y3, .ref y4, .int nu2, .int os, .int od, .int sl, .ref ya, .int fpu, .ref yw, .int wn, .ref yp])), aI E mt 100 tf, aI E y1 9 hi2, aI E y2 9 de2, aI E y3 9 pma2] ∧ (¬ n < 9 → at2 = at_) ∧ (n < 9 → ¬ numOK tf l0 (tk tf l0 p) 1 9 → at2 = nI (tk tf l0 p)) ∧ (n < 9 → numOK tf l0 (tk tf l0 p) 1 9 → ¬ numOK tf l0 (tk tf l0 (tk tf l0 p + 1)) 1 9 → at2 = nI (tk tf l0 (tk tf l0 p + 1))) ∧ (n < 9 → numOK tf l0 (tk tf l0 p) 1 9 → numOK tf l0 (tk tf l0 (tk tf l0 p + 1)) 1 9 → ¬ numOK tf l0 (tk tf l0 (tk tf l0 (tk tf l0 p + 1) + 1)) 0 5 → at2 = nI (tk tf l0 (tk tf l0 (tk tf l0 p + 1) + 1))) ∧ (n < 9 → numOK tf l0 (tk tf l0 p) 1 9 → numOK tf l0 (tk tf l0 (tk tf l0 p + 1)) 1 9 → numOK tf l0 (tk tf l0 (tk tf l0 (tk tf l0 p + 1) + 1)) 0 5 → be2 = nI (tk tf l0 (tk tf l0 (tk tf l0 p + 1) + 1) + 1) ∧ rs2 = nI (n + 1) ∧ hi2 = upd hi n (tf (tk tf l0 p) - 48) ∧ de2 = upd de n (tf (tk tf l0 (tk tf l0 p + 1)) - 48) ∧ pma2 = upd pma n (tf (tk tf l0 (tk tf l0 (tk tf l0 p + 1) + 1)) - 48))) 0 0 := by
  refine Ct_of (by decide) (Nat.le_of_ble_eq_true rfl) ?_
  intro k hkl hnl C hR hin_
  subst hkl
  have r0 := tk_le (tf := tf) hp
  show G k E 0 0 0 [some (.ref mo)] [] [(mo, .inr (9, [.ref rw, .int st0, .int lg, .int sf, .int dg, .ref mh, .ref md, .int un, .ref mk, .ref mt, .int (nI l0), .int sm, .ref z1, .ref z2, .ref z3, .long tr, .int at_, .int (nI p), .int (nI n), .ref y1, .ref y2, .ref y3, .ref y4, .int nu, .int os, .int od, .int sl, .ref ya, .int fpu, .ref yw, .int wn, .ref yp])), aI E mt 100 tf, aI E y1 9 hi, aI E y2 9 de, aI E y3 9 pma]
  refine g_aload_n C dX9_readsStep_0 rfl ?_
  refine g_get C kwX9 0 rfl rfl 18 (by decide) kfX9_92 rfl dX9_readsStep_1 ?_
  refine g_bipush (v := 9) C dX9_readsStep_4 (by decide) ?_
  refine g_icmp_eq (tgt := 19) C dX9_readsStep_6 (by decide) (fun c6 => ?_) (fun c6 => ?_)
  · skip
    have h9 : ¬ n < 9 := by have := (nI_eq (b := 9) (by omega) (by decide)).mp c6; omega
    refine g_iconst (v := 0) C dX9_readsStep_19 (by decide) ?_
    exact g_zret C hR (by first | exact Or.inl rfl | exact Or.inr rfl | exact bI01 _) (⟨_, _, _, _, _, _, _, by rw [bI_f (fun z => h9 z.1)], rfl, fun _ => rfl, fun z => absurd z h9, fun z => absurd z h9, fun z => absurd z h9, fun z => absurd z h9⟩) dX9_readsStep_20
  · skip
    have h9 : n < 9 := by
      rcases Nat.lt_or_ge n 9 with z | z
      · exact z
      · exact absurd (by rw [show n = 9 by omega]; rfl) c6
    refine g_aload_n C dX9_readsStep_9 rfl ?_
    refine g_iconst (v := 1) C dX9_readsStep_10 (by decide) ?_
    refine g_bipush (v := 9) C dX9_readsStep_11 (by decide) ?_
    refine g_callV C (c_X9_readsNumber k.l E mo rw mh md mk mt z1 z2 z3 y1 y2 y3 y4 ya yw yp st0 lg sf dg un sm tr at_ (nI n) nu os od sl fpu wn l0 tf p 1 9 (by first | assumption | omega) (hp) (by decide)) kmX9_95 kiX9_readsNumber ksX9_readsNumber knX9 kcX9_readsNumber ⟨rfl, rfl⟩ ⟨rfl, kdX9_readsNumber⟩ ⟨by decide, by decide⟩ ⟨by decide, by decide⟩ [0, 1] [2, 3, 4] rfl (wr := [aI E y1 9 hi, aI E y2 9 de, aI E y3 9 pma]) rfl (by decide +kernel) (by decide +kernel) (by decide +kernel) 0 9 rfl rfl rfl (As := [.int 1, .int 9]) (rest := []) rfl (Nat.le_of_ble_eq_true rfl) dX9_readsStep_13 (fun rv_ rw_ hp_ => ?_)
    obtain ⟨nu1, rfl, rfl, fk1⟩ := hp_
    refine g_rep [3, 4, 0, 1, 2] (ws' := [(mo, .inr (9, [.ref rw, .int st0, .int lg, .int sf, .int dg, .ref mh, .ref md, .int un, .ref mk, .ref mt, .int (nI l0), .int sm, .ref z1, .ref z2, .ref z3, .long tr, .int (nI (tk tf l0 p)), .int (nI (nb tf l0 (tk tf l0 p))), .int (nI n), .ref y1, .ref y2, .ref y3, .ref y4, .int nu1, .int os, .int od, .int sl, .ref ya, .int fpu, .ref yw, .int wn, .ref yp])), aI E mt 100 tf, aI E y1 9 hi, aI E y2 9 de, aI E y3 9 pma]) (st' := [.int (bI (numOK tf l0 (tk tf l0 p) 1 9))]) (n' := 0) (z' := 0) (pc' := 16) rfl rfl rfl rfl (by decide +kernel) rfl ?_
    refine g_if_ne (tgt := 21) C dX9_readsStep_16 (by decide) (fun c16 => ?_) (fun c16 => ?_)
    · skip
      have k1 := bI_1 c16
      obtain ⟨rfl, en1⟩ := fk1 k1
      rw [en1]
      have q1 : tk tf l0 p + 1 ≤ l0 := k1.1
      have r1 := tk_le (tf := tf) q1
      refine g_aload_n C dX9_readsStep_21 rfl ?_
      refine g_get C kwX9 0 rfl rfl 19 (by decide) kfX9_45 rfl dX9_readsStep_22 ?_
      refine g_aload_n C dX9_readsStep_25 rfl ?_
      refine g_get C kwX9 0 rfl rfl 18 (by decide) kfX9_92 rfl dX9_readsStep_26 ?_
      refine g_aload_n C dX9_readsStep_29 rfl ?_
      refine g_get C kwX9 0 rfl rfl 23 (by decide) kfX9_89 rfl dX9_readsStep_30 ?_
      refine g_iast (ws' := [(mo, .inr (9, [.ref rw, .int st0, .int lg, .int sf, .int dg, .ref mh, .ref md, .int un, .ref mk, .ref mt, .int (nI l0), .int sm, .ref z1, .ref z2, .ref z3, .long tr, .int (nI (tk tf l0 p)), .int (nI (tk tf l0 p + 1)), .int (nI n), .ref y1, .ref y2, .ref y3, .ref y4, .int (tf (tk tf l0 p) - 48), .int os, .int od, .int sl, .ref ya, .int fpu, .ref yw, .int wn, .ref yp])), aI E mt 100 tf, aI E y1 9 (upd hi n (tf (tk tf l0 p) - 48)), aI E y2 9 de, aI E y3 9 pma]) C 2 n rfl (rfl) (by omega) (by decide) rfl dX9_readsStep_33 ?_
      refine g_aload_n C dX9_readsStep_34 rfl ?_
      refine g_iconst (v := 1) C dX9_readsStep_35 (by decide) ?_
      refine g_bipush (v := 9) C dX9_readsStep_36 (by decide) ?_
      refine g_callV C (c_X9_readsNumber k.l E mo rw mh md mk mt z1 z2 z3 y1 y2 y3 y4 ya yw yp st0 lg sf dg un sm tr (nI (tk tf l0 p)) (nI n) (tf (tk tf l0 p) - 48) os od sl fpu wn l0 tf (tk tf l0 p + 1) 1 9 (by first | assumption | omega) (q1) (by decide)) kmX9_95 kiX9_readsNumber ksX9_readsNumber knX9 kcX9_readsNumber ⟨rfl, rfl⟩ ⟨rfl, kdX9_readsNumber⟩ ⟨by decide, by decide⟩ ⟨by decide, by decide⟩ [0, 1] [2, 3, 4] rfl (wr := [aI E y1 9 (upd hi n (tf (tk tf l0 p) - 48)), aI E y2 9 de, aI E y3 9 pma]) rfl (by decide +kernel) (by decide +kernel) (by decide +kernel) 0 9 rfl rfl rfl (As := [.int 1, .int 9]) (rest := []) rfl (Nat.le_of_ble_eq_true rfl) dX9_readsStep_38 (fun rv_ rw_ hp_ => ?_)
      obtain ⟨nu2, rfl, rfl, fk2⟩ := hp_
      refine g_rep [3, 4, 0, 1, 2] (ws' := [(mo, .inr (9, [.ref rw, .int st0, .int lg, .int sf, .int dg, .ref mh, .ref md, .int un, .ref mk, .ref mt, .int (nI l0), .int sm, .ref z1, .ref z2, .ref z3, .long tr, .int (nI (tk tf l0 (tk tf l0 p + 1))), .int (nI (nb tf l0 (tk tf l0 (tk tf l0 p + 1)))), .int (nI n), .ref y1, .ref y2, .ref y3, .ref y4, .int nu2, .int os, .int od, .int sl, .ref ya, .int fpu, .ref yw, .int wn, .ref yp])), aI E mt 100 tf, aI E y1 9 (upd hi n (tf (tk tf l0 p) - 48)), aI E y2 9 de, aI E y3 9 pma]) (st' := [.int (bI (numOK tf l0 (tk tf l0 (tk tf l0 p + 1)) 1 9))]) (n' := 0) (z' := 0) (pc' := 41) rfl rfl rfl rfl (by decide +kernel) rfl ?_
      refine g_if_ne (tgt := 46) C dX9_readsStep_41 (by decide) (fun c41 => ?_) (fun c41 => ?_)
      · skip
        have k2 := bI_1 c41
        obtain ⟨rfl, en2⟩ := fk2 k2
        rw [en2]
        have q2 : tk tf l0 (tk tf l0 p + 1) + 1 ≤ l0 := k2.1
        have r2 := tk_le (tf := tf) q2
        refine g_aload_n C dX9_readsStep_46 rfl ?_
        refine g_get C kwX9 0 rfl rfl 20 (by decide) kfX9_48 rfl dX9_readsStep_47 ?_
        refine g_aload_n C dX9_readsStep_50 rfl ?_
        refine g_get C kwX9 0 rfl rfl 18 (by decide) kfX9_92 rfl dX9_readsStep_51 ?_
        refine g_aload_n C dX9_readsStep_54 rfl ?_
        refine g_get C kwX9 0 rfl rfl 23 (by decide) kfX9_89 rfl dX9_readsStep_55 ?_
        refine g_iast (ws' := [(mo, .inr (9, [.ref rw, .int st0, .int lg, .int sf, .int dg, .ref mh, .ref md, .int un, .ref mk, .ref mt, .int (nI l0), .int sm, .ref z1, .ref z2, .ref z3, .long tr, .int (nI (tk tf l0 (tk tf l0 p + 1))), .int (nI (tk tf l0 (tk tf l0 p + 1) + 1)), .int (nI n), .ref y1, .ref y2, .ref y3, .ref y4, .int (tf (tk tf l0 (tk tf l0 p + 1)) - 48), .int os, .int od, .int sl, .ref ya, .int fpu, .ref yw, .int wn, .ref yp])), aI E mt 100 tf, aI E y1 9 (upd hi n (tf (tk tf l0 p) - 48)), aI E y2 9 (upd de n (tf (tk tf l0 (tk tf l0 p + 1)) - 48)), aI E y3 9 pma]) C 3 n rfl (rfl) (by omega) (by decide) rfl dX9_readsStep_58 ?_
        refine g_aload_n C dX9_readsStep_59 rfl ?_
        refine g_iconst (v := 0) C dX9_readsStep_60 (by decide) ?_
        refine g_iconst (v := 5) C dX9_readsStep_61 (by decide) ?_
        refine g_callV C (c_X9_readsNumber k.l E mo rw mh md mk mt z1 z2 z3 y1 y2 y3 y4 ya yw yp st0 lg sf dg un sm tr (nI (tk tf l0 (tk tf l0 p + 1))) (nI n) (tf (tk tf l0 (tk tf l0 p + 1)) - 48) os od sl fpu wn l0 tf (tk tf l0 (tk tf l0 p + 1) + 1) 0 5 (by first | assumption | omega) (q2) (by decide)) kmX9_95 kiX9_readsNumber ksX9_readsNumber knX9 kcX9_readsNumber ⟨rfl, rfl⟩ ⟨rfl, kdX9_readsNumber⟩ ⟨by decide, by decide⟩ ⟨by decide, by decide⟩ [0, 1] [2, 3, 4] rfl (wr := [aI E y1 9 (upd hi n (tf (tk tf l0 p) - 48)), aI E y2 9 (upd de n (tf (tk tf l0 (tk tf l0 p + 1)) - 48)), aI E y3 9 pma]) rfl (by decide +kernel) (by decide +kernel) (by decide +kernel) 0 9 rfl rfl rfl (As := [.int 0, .int 5]) (rest := []) rfl (Nat.le_of_ble_eq_true rfl) dX9_readsStep_62 (fun rv_ rw_ hp_ => ?_)
        obtain ⟨nu3, rfl, rfl, fk3⟩ := hp_
        refine g_rep [3, 4, 0, 1, 2] (ws' := [(mo, .inr (9, [.ref rw, .int st0, .int lg, .int sf, .int dg, .ref mh, .ref md, .int un, .ref mk, .ref mt, .int (nI l0), .int sm, .ref z1, .ref z2, .ref z3, .long tr, .int (nI (tk tf l0 (tk tf l0 (tk tf l0 p + 1) + 1))), .int (nI (nb tf l0 (tk tf l0 (tk tf l0 (tk tf l0 p + 1) + 1)))), .int (nI n), .ref y1, .ref y2, .ref y3, .ref y4, .int nu3, .int os, .int od, .int sl, .ref ya, .int fpu, .ref yw, .int wn, .ref yp])), aI E mt 100 tf, aI E y1 9 (upd hi n (tf (tk tf l0 p) - 48)), aI E y2 9 (upd de n (tf (tk tf l0 (tk tf l0 p + 1)) - 48)), aI E y3 9 pma]) (st' := [.int (bI (numOK tf l0 (tk tf l0 (tk tf l0 (tk tf l0 p + 1) + 1)) 0 5))]) (n' := 0) (z' := 0) (pc' := 65) rfl rfl rfl rfl (by decide +kernel) rfl ?_
        refine g_if_ne (tgt := 70) C dX9_readsStep_65 (by decide) (fun c65 => ?_) (fun c65 => ?_)
        · skip
          have k3 := bI_1 c65
          obtain ⟨rfl, en3⟩ := fk3 k3
          rw [en3]
          have q3 : tk tf l0 (tk tf l0 (tk tf l0 p + 1) + 1) + 1 ≤ l0 := k3.1
          have r3 := tk_le (tf := tf) q3
          refine g_aload_n C dX9_readsStep_70 rfl ?_
          refine g_get C kwX9 0 rfl rfl 21 (by decide) kfX9_51 rfl dX9_readsStep_71 ?_
          refine g_aload_n C dX9_readsStep_74 rfl ?_
          refine g_get C kwX9 0 rfl rfl 18 (by decide) kfX9_92 rfl dX9_readsStep_75 ?_
          refine g_aload_n C dX9_readsStep_78 rfl ?_
          refine g_get C kwX9 0 rfl rfl 23 (by decide) kfX9_89 rfl dX9_readsStep_79 ?_
          refine g_iast (ws' := [(mo, .inr (9, [.ref rw, .int st0, .int lg, .int sf, .int dg, .ref mh, .ref md, .int un, .ref mk, .ref mt, .int (nI l0), .int sm, .ref z1, .ref z2, .ref z3, .long tr, .int (nI (tk tf l0 (tk tf l0 (tk tf l0 p + 1) + 1))), .int (nI (tk tf l0 (tk tf l0 (tk tf l0 p + 1) + 1) + 1)), .int (nI n), .ref y1, .ref y2, .ref y3, .ref y4, .int (tf (tk tf l0 (tk tf l0 (tk tf l0 p + 1) + 1)) - 48), .int os, .int od, .int sl, .ref ya, .int fpu, .ref yw, .int wn, .ref yp])), aI E mt 100 tf, aI E y1 9 (upd hi n (tf (tk tf l0 p) - 48)), aI E y2 9 (upd de n (tf (tk tf l0 (tk tf l0 p + 1)) - 48)), aI E y3 9 (upd pma n (tf (tk tf l0 (tk tf l0 (tk tf l0 p + 1) + 1)) - 48))]) C 4 n rfl (rfl) (by omega) (by decide) rfl dX9_readsStep_82 ?_
          refine g_aload_n C dX9_readsStep_83 rfl ?_
          refine g_dup C dX9_readsStep_84 rfl ?_
          refine g_get C kwX9 0 rfl rfl 18 (by decide) kfX9_92 rfl dX9_readsStep_85 ?_
          refine g_iconst (v := 1) C dX9_readsStep_88 (by decide) ?_
          refine g_iadd C dX9_readsStep_89 ?_
          refine g_topi (v := nI (n + 1)) (nI_1 n) ?_
          refine g_put (ws' := [(mo, .inr (9, [.ref rw, .int st0, .int lg, .int sf, .int dg, .ref mh, .ref md, .int un, .ref mk, .ref mt, .int (nI l0), .int sm, .ref z1, .ref z2, .ref z3, .long tr, .int (nI (tk tf l0 (tk tf l0 (tk tf l0 p + 1) + 1))), .int (nI (tk tf l0 (tk tf l0 (tk tf l0 p + 1) + 1) + 1)), .int (nI (n + 1)), .ref y1, .ref y2, .ref y3, .ref y4, .int (tf (tk tf l0 (tk tf l0 (tk tf l0 p + 1) + 1)) - 48), .int os, .int od, .int sl, .ref ya, .int fpu, .ref yw, .int wn, .ref yp])), aI E mt 100 tf, aI E y1 9 (upd hi n (tf (tk tf l0 p) - 48)), aI E y2 9 (upd de n (tf (tk tf l0 (tk tf l0 p + 1)) - 48)), aI E y3 9 (upd pma n (tf (tk tf l0 (tk tf l0 (tk tf l0 p + 1) + 1)) - 48))]) C kwX9 tyX9 tyX9_ok nmX9 0 rfl rfl 18 (by decide) kfX9_92 rfl rfl rfl (Nat.le_of_ble_eq_true rfl) rfl dX9_readsStep_90 ?_
          refine g_iconst (v := 1) C dX9_readsStep_93 (by decide) ?_
          exact g_zret C hR (by first | exact Or.inl rfl | exact Or.inr rfl | exact bI01 _) (⟨_, _, _, _, _, _, _, by rw [bI_t ⟨h9, k1, k2, k3⟩], rfl, fun z => absurd h9 z, fun _ z => absurd k1 z, fun _ _ z => absurd k2 z, fun _ _ _ z => absurd k3 z, fun _ _ _ _ => ⟨rfl, rfl, rfl, rfl, rfl⟩⟩) dX9_readsStep_94
        · skip
          have k3 := bI_0 c65
          refine g_iconst (v := 0) C dX9_readsStep_68 (by decide) ?_
          exact g_zret C hR (by first | exact Or.inl rfl | exact Or.inr rfl | exact bI01 _) (⟨_, _, _, _, _, _, _, by rw [bI_f (fun z => k3 z.2.2.2)], rfl, fun z => absurd h9 z, fun _ z => absurd k1 z, fun _ _ z => absurd k2 z, fun _ _ _ _ => rfl, fun _ _ _ z => absurd z k3⟩) dX9_readsStep_69
      · skip
        have k2 := bI_0 c41
        refine g_iconst (v := 0) C dX9_readsStep_44 (by decide) ?_
        exact g_zret C hR (by first | exact Or.inl rfl | exact Or.inr rfl | exact bI01 _) (⟨_, _, _, _, _, _, _, by rw [bI_f (fun z => k2 z.2.2.1)], rfl, fun z => absurd h9 z, fun _ z => absurd k1 z, fun _ _ _ => rfl, fun _ _ z => absurd z k2, fun _ _ z => absurd z k2⟩) dX9_readsStep_45
    · skip
      have k1 := bI_0 c16
      refine g_iconst (v := 0) C dX9_readsStep_19 (by decide) ?_
      exact g_zret C hR (by first | exact Or.inl rfl | exact Or.inr rfl | exact bI01 _) (⟨_, _, _, _, _, _, _, by rw [bI_f (fun z => k1 z.2.1)], rfl, fun z => absurd h9 z, fun _ _ => rfl, fun _ z => absurd z k1, fun _ z => absurd z k1, fun _ z => absurd z k1⟩) dX9_readsStep_20

set_option maxHeartbeats 4000000 in
set_option maxRecDepth 100000 in
theorem c_X9_readsCoil (l : Launch) (E : EX) (mo : Nat) (rw : Nat) (mh : Nat) (md : Nat) (mk : Nat) (mt : Nat) (z1 : Nat) (z2 : Nat) (z3 : Nat) (y1 : Nat) (y2 : Nat) (y3 : Nat) (y4 : Nat) (ya : Nat) (yw : Nat) (yp : Nat) (st0 : Int32) (lg : Int32) (sf : Int32) (dg : Int32) (un : Int32) (sm : Int32) (tr : Int64) (at_ : Int32) (rs : Int32) (nu : Int32) (os : Int32) (od : Int32) (sl : Int32) (fpu : Int32) (wn : Int32) (l0 : Nat) (tf : Nat → Int32) (p : Nat) (co : Nat → Int32) (w : Nat) (lo : Int32) (hh : Int32) (hl : l0 ≤ 100) (hp : p ≤ l0) (hw : w < 3) (hlo : 0 ≤ lo) : Ct l E yX9_readsCoil cX9_readsCoil 4 (some .boolean) (rmL 5 0 0) [.ref mo, .int (nI w), .int lo, .int hh] [(mo, .inr (9, [.ref rw, .int st0, .int lg, .int sf, .int dg, .ref mh, .ref md, .int un, .ref mk, .ref mt, .int (nI l0), .int sm, .ref z1, .ref z2, .ref z3, .long tr, .int at_, .int (nI p), .int rs, .ref y1, .ref y2, .ref y3, .ref y4, .int nu, .int os, .int od, .int sl, .ref ya, .int fpu, .ref yw, .int wn, .ref yp])), aI E mt 100 tf, aI E y4 3 co] (fun (rv_ : Option Value) (rw_ : va_W) => ∃ (at2 : Int32) (be2 : Int32) (nu2 : Int32) (co2 : Nat → Int32), rv_ = some (.int (bI (co w < 0 ∧ numOK tf l0 (tk tf l0 p) lo hh))) ∧ rw_ = [(mo, .inr (9, [.ref rw, .int st0, .int lg, .int sf, .int dg, .ref mh, .ref md, .int un, .ref mk, .ref mt, .int (nI l0), .int sm, .ref z1, .ref z2, .ref z3, .long tr, .int at2, .int be2, .int rs, .ref y1, .ref y2, .ref y3, .ref y4, .int nu2, .int os, .int od, .int sl, .ref ya, .int fpu, .ref yw, .int wn, .ref yp])), aI E mt 100 tf, aI E y4 3 co2] ∧ (¬ co w < 0 → at2 = at_) ∧ (co w < 0 → ¬ numOK tf l0 (tk tf l0 p) lo hh → at2 = nI (tk tf l0 p)) ∧ (co w < 0 → numOK tf l0 (tk tf l0 p) lo hh → be2 = nI (tk tf l0 p + 1) ∧ co2 = upd co w (tf (tk tf l0 p) - 48))) 0 0 := by
  refine Ct_of (by decide) (Nat.le_of_ble_eq_true rfl) ?_
  intro k hkl hnl C hR hin_
  subst hkl
  have r0 := tk_le (tf := tf) hp
  show G k E 0 0 0 [some (.ref mo), some (.int (nI w)), some (.int lo), some (.int hh)] [] [(mo, .inr (9, [.ref rw, .int st0, .int lg, .int sf, .int dg, .ref mh, .ref md, .int un, .ref mk, .ref mt, .int (nI l0), .int sm, .ref z1, .ref z2, .ref z3, .long tr, .int at_, .int (nI p), .int rs, .ref y1, .ref y2, .ref y3, .ref y4, .int nu, .int os, .int od, .int sl, .ref ya, .int fpu, .ref yw, .int wn, .ref yp])), aI E mt 100 tf, aI E y4 3 co]
  refine g_aload_n C dX9_readsCoil_0 rfl ?_
  refine g_get C kwX9 0 rfl rfl 22 (by decide) kfX9_54 rfl dX9_readsCoil_1 ?_
  refine g_iload_n C dX9_readsCoil_4 rfl ?_
  refine g_iald C 2 w rfl (rfl) (by omega) (by decide) dX9_readsCoil_5 ?_
  refine g_if_ge (tgt := 18) C dX9_readsCoil_6 (by decide) (fun c6 => ?_) (fun c6 => ?_)
  · skip
    have h9 : ¬ co w < 0 := Int32.not_lt.mpr c6
    refine g_iconst (v := 0) C dX9_readsCoil_18 (by decide) ?_
    exact g_zret C hR (by first | exact Or.inl rfl | exact Or.inr rfl | exact bI01 _) (⟨_, _, _, _, by rw [bI_f (fun z => h9 z.1)], rfl, fun _ => rfl, fun z => absurd z h9, fun z => absurd z h9⟩) dX9_readsCoil_19
  · skip
    have h9 : co w < 0 := Int32.not_le.mp c6
    refine g_aload_n C dX9_readsCoil_9 rfl ?_
    refine g_iload_n C dX9_readsCoil_10 rfl ?_
    refine g_iload_n C dX9_readsCoil_11 rfl ?_
    refine g_callV C (c_X9_readsNumber k.l E mo rw mh md mk mt z1 z2 z3 y1 y2 y3 y4 ya yw yp st0 lg sf dg un sm tr at_ rs nu os od sl fpu wn l0 tf p lo hh (by first | assumption | omega) (hp) (hlo)) kmX9_95 kiX9_readsNumber ksX9_readsNumber knX9 kcX9_readsNumber ⟨rfl, rfl⟩ ⟨rfl, kdX9_readsNumber⟩ ⟨by decide, by decide⟩ ⟨by decide, by decide⟩ [0, 1] [2] rfl (wr := [aI E y4 3 co]) rfl (by decide +kernel) (by decide +kernel) (by decide +kernel) 0 9 rfl rfl rfl (As := [.int lo, .int hh]) (rest := []) rfl (Nat.le_of_ble_eq_true rfl) dX9_readsCoil_12 (fun rv_ rw_ hp_ => ?_)
    obtain ⟨nu1, rfl, rfl, fk1⟩ := hp_
    refine g_rep [1, 2, 0] (ws' := [(mo, .inr (9, [.ref rw, .int st0, .int lg, .int sf, .int dg, .ref mh, .ref md, .int un, .ref mk, .ref mt, .int (nI l0), .int sm, .ref z1, .ref z2, .ref z3, .long tr, .int (nI (tk tf l0 p)), .int (nI (nb tf l0 (tk tf l0 p))), .int rs, .ref y1, .ref y2, .ref y3, .ref y4, .int nu1, .int os, .int od, .int sl, .ref ya, .int fpu, .ref yw, .int wn, .ref yp])), aI E mt 100 tf, aI E y4 3 co]) (st' := [.int (bI (numOK tf l0 (tk tf l0 p) lo hh))]) (n' := 0) (z' := 0) (pc' := 15) rfl rfl rfl rfl (by decide +kernel) rfl ?_
    refine g_if_ne (tgt := 20) C dX9_readsCoil_15 (by decide) (fun c15 => ?_) (fun c15 => ?_)
    · skip
      have k1 := bI_1 c15
      obtain ⟨rfl, en1⟩ := fk1 k1
      rw [en1]
      have q1 : tk tf l0 p + 1 ≤ l0 := k1.1
      have r1 := tk_le (tf := tf) q1
      refine g_aload_n C dX9_readsCoil_20 rfl ?_
      refine g_get C kwX9 0 rfl rfl 22 (by decide) kfX9_54 rfl dX9_readsCoil_21 ?_
      refine g_iload_n C dX9_readsCoil_24 rfl ?_
      refine g_aload_n C dX9_readsCoil_25 rfl ?_
      refine g_get C kwX9 0 rfl rfl 23 (by decide) kfX9_89 rfl dX9_readsCoil_26 ?_
      refine g_iast (ws' := [(mo, .inr (9, [.ref rw, .int st0, .int lg, .int sf, .int dg, .ref mh, .ref md, .int un, .ref mk, .ref mt, .int (nI l0), .int sm, .ref z1, .ref z2, .ref z3, .long tr, .int (nI (tk tf l0 p)), .int (nI (tk tf l0 p + 1)), .int rs, .ref y1, .ref y2, .ref y3, .ref y4, .int (tf (tk tf l0 p) - 48), .int os, .int od, .int sl, .ref ya, .int fpu, .ref yw, .int wn, .ref yp])), aI E mt 100 tf, aI E y4 3 (upd co w (tf (tk tf l0 p) - 48))]) C 2 w rfl (rfl) (by omega) (by decide) rfl dX9_readsCoil_29 ?_
      refine g_iconst (v := 1) C dX9_readsCoil_30 (by decide) ?_
      exact g_zret C hR (by first | exact Or.inl rfl | exact Or.inr rfl | exact bI01 _) (⟨_, _, _, _, by rw [bI_t ⟨h9, k1⟩], rfl, fun z => absurd h9 z, fun _ z => absurd k1 z, fun _ _ => ⟨rfl, rfl⟩⟩) dX9_readsCoil_31
    · skip
      have k1 := bI_0 c15
      refine g_iconst (v := 0) C dX9_readsCoil_18 (by decide) ?_
      exact g_zret C hR (by first | exact Or.inl rfl | exact Or.inr rfl | exact bI01 _) (⟨_, _, _, _, by rw [bI_f (fun z => k1 z.2)], rfl, fun z => absurd h9 z, fun _ _ => rfl, fun _ z => absurd z k1⟩) dX9_readsCoil_19

set_option maxHeartbeats 4000000 in
set_option maxRecDepth 100000 in
theorem c_X9_readsItem (l : Launch) (E : EX) (mo : Nat) (rw : Nat) (mh : Nat) (md : Nat) (mk : Nat) (mt : Nat) (z1 : Nat) (z2 : Nat) (z3 : Nat) (y1 : Nat) (y2 : Nat) (y3 : Nat) (y4 : Nat) (ya : Nat) (yw : Nat) (yp : Nat) (st0 : Int32) (lg : Int32) (sf : Int32) (dg : Int32) (un : Int32) (sm : Int32) (tr : Int64) (nu : Int32) (os : Int32) (od : Int32) (sl : Int32) (fpu : Int32) (wn : Int32) (l0 : Nat) (tf : Nat → Int32) (a : Nat) (n : Nat) (hi : Nat → Int32) (de : Nat → Int32) (pma : Nat → Int32) (co : Nat → Int32) (hl : l0 ≤ 100) (ha : a < l0) (hn : n ≤ 9) : Ct l E yX9_readsItem cX9_readsItem 2 (some .boolean) (rmL 6 0 0) [.ref mo] [(mo, .inr (9, [.ref rw, .int st0, .int lg, .int sf, .int dg, .ref mh, .ref md, .int un, .ref mk, .ref mt, .int (nI l0), .int sm, .ref z1, .ref z2, .ref z3, .long tr, .int (nI a), .int (nI (nb tf l0 a)), .int (nI n), .ref y1, .ref y2, .ref y3, .ref y4, .int nu, .int os, .int od, .int sl, .ref ya, .int fpu, .ref yw, .int wn, .ref yp])), aI E mt 100 tf, aI E y1 9 hi, aI E y2 9 de, aI E y3 9 pma, aI E y4 3 co] (fun (rv_ : Option Value) (rw_ : va_W) => ∃ (rv : Int32) (at2 : Int32) (be2 : Int32) (rs2 : Int32) (nu2 : Int32) (hi2 : Nat → Int32) (de2 : Nat → Int32) (pma2 : Nat → Int32) (co2 : Nat → Int32), rv_ = some (.int rv) ∧ rw_ = [(mo, .inr (9, [.ref rw, .int st0, .int lg, .int sf, .int dg, .ref mh, .ref md, .int un, .ref mk, .ref mt, .int (nI l0), .int sm, .ref z1, .ref z2, .ref z3, .long tr, .int at2, .int be2, .int rs2, .ref y1, .ref y2, .ref y3, .ref y4, .int nu2, .int os, .int od, .int sl, .ref ya, .int fpu, .ref yw, .int wn, .ref yp])), aI E mt 100 tf, aI E y1 9 hi2, aI E y2 9 de2, aI E y3 9 pma2, aI E y4 3 co2] ∧ (∀ e, itemF tf l0 a (n, hi, de, pma, co) = .inl e → rv = 0 ∧ at2 = nI e) ∧ (∀ p' s', itemF tf l0 a (n, hi, de, pma, co) = .inr (p', s') → rv = 1 ∧ be2 = nI p' ∧ rs2 = nI s'.1 ∧ hi2 = s'.2.1 ∧ de2 = s'.2.2.1 ∧ pma2 = s'.2.2.2.1 ∧ co2 = s'.2.2.2.2)) 0 0 := by
  refine Ct_of (by decide) (Nat.le_of_ble_eq_true rfl) ?_
  intro k hkl hnl C hR hin_
  subst hkl
  show G k E 0 0 0 [some (.ref mo), none] [] [(mo, .inr (9, [.ref rw, .int st0, .int lg, .int sf, .int dg, .ref mh, .ref md, .int un, .ref mk, .ref mt, .int (nI l0), .int sm, .ref z1, .ref z2, .ref z3, .long tr, .int (nI a), .int (nI (nb tf l0 a)), .int (nI n), .ref y1, .ref y2, .ref y3, .ref y4, .int nu, .int os, .int od, .int sl, .ref ya, .int fpu, .ref yw, .int wn, .ref yp])), aI E mt 100 tf, aI E y1 9 hi, aI E y2 9 de, aI E y3 9 pma, aI E y4 3 co]
  refine g_aload_n C dX9_readsItem_0 rfl ?_
  refine g_bipush (v := 115) C dX9_readsItem_1 (by decide) ?_
  refine g_callV C (c_X9_isSign k.l E mo rw mh md mk mt z1 z2 z3 y1 y2 y3 y4 ya yw yp st0 lg sf dg un sm tr (nI (nb tf l0 a)) (nI n) nu os od sl fpu wn l0 tf a 115 (by first | assumption | omega) (by omega)) kmX9_99 kiX9_isSign ksX9_isSign knX9 kcX9_isSign ⟨rfl, rfl⟩ ⟨rfl, kdX9_isSign⟩ ⟨by decide, by decide⟩ ⟨by decide, by decide⟩ [0, 1] [2, 3, 4, 5] rfl (wr := [aI E y1 9 hi, aI E y2 9 de, aI E y3 9 pma, aI E y4 3 co]) rfl (by decide +kernel) (by decide +kernel) (by decide +kernel) 0 9 rfl rfl rfl (As := [.int 115]) (rest := []) rfl (Nat.le_of_ble_eq_true rfl) dX9_readsItem_3 (fun rv_ rw_ hp_ => ?_)
  obtain ⟨rfl, rfl⟩ := hp_
  refine g_rep [4, 5, 0, 1, 2, 3] (ws' := [(mo, .inr (9, [.ref rw, .int st0, .int lg, .int sf, .int dg, .ref mh, .ref md, .int un, .ref mk, .ref mt, .int (nI l0), .int sm, .ref z1, .ref z2, .ref z3, .long tr, .int (nI a), .int (nI (nb tf l0 a)), .int (nI n), .ref y1, .ref y2, .ref y3, .ref y4, .int nu, .int os, .int od, .int sl, .ref ya, .int fpu, .ref yw, .int wn, .ref yp])), aI E mt 100 tf, aI E y1 9 hi, aI E y2 9 de, aI E y3 9 pma, aI E y4 3 co]) (st' := [.int (bI (a < l0 ∧ tf a = 115))]) (n' := 0) (z' := 0) (pc' := 6) rfl rfl rfl rfl (by decide +kernel) rfl ?_
  refine g_if_eq (tgt := 16) C dX9_readsItem_6 (by decide) (fun c6 => ?_) (fun c6 => ?_)
  · skip
    have t115 : ¬ tf a = 115 := fun z => bI_0 c6 ⟨ha, z⟩
    refine g_aload_n C dX9_readsItem_16 rfl ?_
    refine g_bipush (v := 108) C dX9_readsItem_17 (by decide) ?_
    refine g_callV C (c_X9_isSign k.l E mo rw mh md mk mt z1 z2 z3 y1 y2 y3 y4 ya yw yp st0 lg sf dg un sm tr (nI (nb tf l0 a)) (nI n) nu os od sl fpu wn l0 tf a 108 (by first | assumption | omega) (by omega)) kmX9_99 kiX9_isSign ksX9_isSign knX9 kcX9_isSign ⟨rfl, rfl⟩ ⟨rfl, kdX9_isSign⟩ ⟨by decide, by decide⟩ ⟨by decide, by decide⟩ [0, 1] [2, 3, 4, 5] rfl (wr := [aI E y1 9 hi, aI E y2 9 de, aI E y3 9 pma, aI E y4 3 co]) rfl (by decide +kernel) (by decide +kernel) (by decide +kernel) 0 9 rfl rfl rfl (As := [.int 108]) (rest := []) rfl (Nat.le_of_ble_eq_true rfl) dX9_readsItem_19 (fun rv_ rw_ hp_ => ?_)
    obtain ⟨rfl, rfl⟩ := hp_
    refine g_rep [4, 5, 0, 1, 2, 3] (ws' := [(mo, .inr (9, [.ref rw, .int st0, .int lg, .int sf, .int dg, .ref mh, .ref md, .int un, .ref mk, .ref mt, .int (nI l0), .int sm, .ref z1, .ref z2, .ref z3, .long tr, .int (nI a), .int (nI (nb tf l0 a)), .int (nI n), .ref y1, .ref y2, .ref y3, .ref y4, .int nu, .int os, .int od, .int sl, .ref ya, .int fpu, .ref yw, .int wn, .ref yp])), aI E mt 100 tf, aI E y1 9 hi, aI E y2 9 de, aI E y3 9 pma, aI E y4 3 co]) (st' := [.int (bI (a < l0 ∧ tf a = 108))]) (n' := 0) (z' := 0) (pc' := 22) rfl rfl rfl rfl (by decide +kernel) rfl ?_
    refine g_if_eq (tgt := 36) C dX9_readsItem_22 (by decide) (fun c22 => ?_) (fun c22 => ?_)
    · skip
      have t108 : ¬ tf a = 108 := fun z => bI_0 c22 ⟨ha, z⟩
      refine g_aload_n C dX9_readsItem_36 rfl ?_
      refine g_bipush (v := 102) C dX9_readsItem_37 (by decide) ?_
      refine g_callV C (c_X9_isSign k.l E mo rw mh md mk mt z1 z2 z3 y1 y2 y3 y4 ya yw yp st0 lg sf dg un sm tr (nI (nb tf l0 a)) (nI n) nu os od sl fpu wn l0 tf a 102 (by first | assumption | omega) (by omega)) kmX9_99 kiX9_isSign ksX9_isSign knX9 kcX9_isSign ⟨rfl, rfl⟩ ⟨rfl, kdX9_isSign⟩ ⟨by decide, by decide⟩ ⟨by decide, by decide⟩ [0, 1] [2, 3, 4, 5] rfl (wr := [aI E y1 9 hi, aI E y2 9 de, aI E y3 9 pma, aI E y4 3 co]) rfl (by decide +kernel) (by decide +kernel) (by decide +kernel) 0 9 rfl rfl rfl (As := [.int 102]) (rest := []) rfl (Nat.le_of_ble_eq_true rfl) dX9_readsItem_39 (fun rv_ rw_ hp_ => ?_)
      obtain ⟨rfl, rfl⟩ := hp_
      refine g_rep [4, 5, 0, 1, 2, 3] (ws' := [(mo, .inr (9, [.ref rw, .int st0, .int lg, .int sf, .int dg, .ref mh, .ref md, .int un, .ref mk, .ref mt, .int (nI l0), .int sm, .ref z1, .ref z2, .ref z3, .long tr, .int (nI a), .int (nI (nb tf l0 a)), .int (nI n), .ref y1, .ref y2, .ref y3, .ref y4, .int nu, .int os, .int od, .int sl, .ref ya, .int fpu, .ref yw, .int wn, .ref yp])), aI E mt 100 tf, aI E y1 9 hi, aI E y2 9 de, aI E y3 9 pma, aI E y4 3 co]) (st' := [.int (bI (a < l0 ∧ tf a = 102))]) (n' := 0) (z' := 0) (pc' := 42) rfl rfl rfl rfl (by decide +kernel) rfl ?_
      refine g_if_eq (tgt := 56) C dX9_readsItem_42 (by decide) (fun c42 => ?_) (fun c42 => ?_)
      · skip
        have t102 : ¬ tf a = 102 := fun z => bI_0 c42 ⟨ha, z⟩
        refine g_aload_n C dX9_readsItem_56 rfl ?_
        refine g_bipush (v := 100) C dX9_readsItem_57 (by decide) ?_
        refine g_callV C (c_X9_isSign k.l E mo rw mh md mk mt z1 z2 z3 y1 y2 y3 y4 ya yw yp st0 lg sf dg un sm tr (nI (nb tf l0 a)) (nI n) nu os od sl fpu wn l0 tf a 100 (by first | assumption | omega) (by omega)) kmX9_99 kiX9_isSign ksX9_isSign knX9 kcX9_isSign ⟨rfl, rfl⟩ ⟨rfl, kdX9_isSign⟩ ⟨by decide, by decide⟩ ⟨by decide, by decide⟩ [0, 1] [2, 3, 4, 5] rfl (wr := [aI E y1 9 hi, aI E y2 9 de, aI E y3 9 pma, aI E y4 3 co]) rfl (by decide +kernel) (by decide +kernel) (by decide +kernel) 0 9 rfl rfl rfl (As := [.int 100]) (rest := []) rfl (Nat.le_of_ble_eq_true rfl) dX9_readsItem_59 (fun rv_ rw_ hp_ => ?_)
        obtain ⟨rfl, rfl⟩ := hp_
        refine g_rep [4, 5, 0, 1, 2, 3] (ws' := [(mo, .inr (9, [.ref rw, .int st0, .int lg, .int sf, .int dg, .ref mh, .ref md, .int un, .ref mk, .ref mt, .int (nI l0), .int sm, .ref z1, .ref z2, .ref z3, .long tr, .int (nI a), .int (nI (nb tf l0 a)), .int (nI n), .ref y1, .ref y2, .ref y3, .ref y4, .int nu, .int os, .int od, .int sl, .ref ya, .int fpu, .ref yw, .int wn, .ref yp])), aI E mt 100 tf, aI E y1 9 hi, aI E y2 9 de, aI E y3 9 pma, aI E y4 3 co]) (st' := [.int (bI (a < l0 ∧ tf a = 100))]) (n' := 0) (z' := 0) (pc' := 62) rfl rfl rfl rfl (by decide +kernel) rfl ?_
        refine g_if_eq (tgt := 79) C dX9_readsItem_62 (by decide) (fun c62 => ?_) (fun c62 => ?_)
        · skip
          have t100 : ¬ tf a = 100 := fun z => bI_0 c62 ⟨ha, z⟩
          have hI : itemF tf l0 a (n, hi, de, pma, co) = .inl a := by unfold itemF; rw [if_neg (mbNo t100 t102 t108 t115)]
          refine g_iconst (v := 0) C dX9_readsItem_79 (by decide) ?_
          refine g_istore_n (lv' := [some (.ref mo), some (.int 0)]) C dX9_readsItem_80 (hnl 1 (by decide)) rfl rfl ?_
          refine g_iload_n C dX9_readsItem_81 rfl ?_
          refine g_if_eq (tgt := 96) C dX9_readsItem_82 (by decide) (fun c82 => ?_) (fun c82 => ?_)
          · skip
            refine g_iload_n C dX9_readsItem_96 rfl ?_
            exact g_zret C hR (by first | exact Or.inl rfl | exact Or.inr rfl | exact bI01 _) (⟨_, _, _, _, _, _, _, _, _, rfl, rfl, fun e h => (by rw [hI] at h; cases h; exact ⟨rfl, rfl⟩), fun p' s' h => (by rw [hI] at h; cases h)⟩) dX9_readsItem_97
          · skip
            exact absurd rfl c82
        · skip
          have t100 : tf a = 100 := (bI_1 c62).2
          have en : nb tf l0 a = a + 1 := nb_1 ha (by rw [t100]; decide)
          rw [en]
          refine g_aload_n C dX9_readsItem_65 rfl ?_
          refine g_iconst (v := 2) C dX9_readsItem_66 (by decide) ?_
          refine g_iconst (v := 0) C dX9_readsItem_67 (by decide) ?_
          refine g_iconst (v := 3) C dX9_readsItem_68 (by decide) ?_
          refine g_callV C (c_X9_readsCoil k.l E mo rw mh md mk mt z1 z2 z3 y1 y2 y3 y4 ya yw yp st0 lg sf dg un sm tr (nI a) (nI n) nu os od sl fpu wn l0 tf (a + 1) co 2 0 3 (by first | assumption | omega) (ha) (by decide) (by decide)) kmX9_106 kiX9_readsCoil ksX9_readsCoil knX9 kcX9_readsCoil ⟨rfl, rfl⟩ ⟨rfl, kdX9_readsCoil⟩ ⟨by decide, by decide⟩ ⟨by decide, by decide⟩ [0, 1, 5] [2, 3, 4] rfl (wr := [aI E y1 9 hi, aI E y2 9 de, aI E y3 9 pma]) rfl (by decide +kernel) (by decide +kernel) (by decide +kernel) 0 9 rfl rfl rfl (As := [.int 2, .int 0, .int 3]) (rest := []) rfl (Nat.le_of_ble_eq_true rfl) dX9_readsItem_69 (fun rv_ rw_ hp_ => ?_)
          obtain ⟨at2, be2, nu2, co2, rfl, rfl, s0, s1, s4⟩ := hp_
          refine g_rep [3, 4, 0, 1, 2, 5] (ws' := [(mo, .inr (9, [.ref rw, .int st0, .int lg, .int sf, .int dg, .ref mh, .ref md, .int un, .ref mk, .ref mt, .int (nI l0), .int sm, .ref z1, .ref z2, .ref z3, .long tr, .int at2, .int be2, .int (nI n), .ref y1, .ref y2, .ref y3, .ref y4, .int nu2, .int os, .int od, .int sl, .ref ya, .int fpu, .ref yw, .int wn, .ref yp])), aI E mt 100 tf, aI E y1 9 hi, aI E y2 9 de, aI E y3 9 pma, aI E y4 3 co2]) (st' := [.int (bI (co 2 < 0 ∧ numOK tf l0 (tk tf l0 (a + 1)) 0 3))]) (n' := 0) (z' := 0) (pc' := 72) rfl rfl rfl rfl (by decide +kernel) rfl ?_
          refine g_if_eq (tgt := 79) C dX9_readsItem_72 (by decide) (fun c72 => ?_) (fun c72 => ?_)
          · skip
            have hk := bI_0 c72
            by_cases h9 : co 2 < 0
            · skip
              by_cases k1 : numOK tf l0 (tk tf l0 (a + 1)) 0 3
              · exact absurd ⟨h9, k1⟩ hk
              · skip
                have ez := s1 h9 k1
                subst ez
                have hI : itemF tf l0 a (n, hi, de, pma, co) = .inl (tk tf l0 (a + 1)) := by unfold itemF; rw [if_pos ((mb100 t100).mpr h9), if_neg (fun z => absurd (t100.symm.trans z) (by decide)), if_neg (fun z => absurd (t100.symm.trans z) (by decide)), if_neg (fun z => absurd (t100.symm.trans z) (by decide))]; unfold coilF; rw [if_neg k1]
                refine g_iconst (v := 0) C dX9_readsItem_79 (by decide) ?_
                refine g_istore_n (lv' := [some (.ref mo), some (.int 0)]) C dX9_readsItem_80 (hnl 1 (by decide)) rfl rfl ?_
                refine g_iload_n C dX9_readsItem_81 rfl ?_
                refine g_if_eq (tgt := 96) C dX9_readsItem_82 (by decide) (fun c82 => ?_) (fun c82 => ?_)
                · skip
                  refine g_iload_n C dX9_readsItem_96 rfl ?_
                  exact g_zret C hR (by first | exact Or.inl rfl | exact Or.inr rfl | exact bI01 _) (⟨_, _, _, _, _, _, _, _, _, rfl, rfl, fun e h => (by rw [hI] at h; cases h; exact ⟨rfl, rfl⟩), fun p' s' h => (by rw [hI] at h; cases h)⟩) dX9_readsItem_97
                · skip
                  exact absurd rfl c82
            · skip
              have ez := s0 h9
              subst ez
              have hI : itemF tf l0 a (n, hi, de, pma, co) = .inl a := by unfold itemF; rw [if_neg (fun z => h9 ((mb100 t100).mp z))]
              refine g_iconst (v := 0) C dX9_readsItem_79 (by decide) ?_
              refine g_istore_n (lv' := [some (.ref mo), some (.int 0)]) C dX9_readsItem_80 (hnl 1 (by decide)) rfl rfl ?_
              refine g_iload_n C dX9_readsItem_81 rfl ?_
              refine g_if_eq (tgt := 96) C dX9_readsItem_82 (by decide) (fun c82 => ?_) (fun c82 => ?_)
              · skip
                refine g_iload_n C dX9_readsItem_96 rfl ?_
                exact g_zret C hR (by first | exact Or.inl rfl | exact Or.inr rfl | exact bI01 _) (⟨_, _, _, _, _, _, _, _, _, rfl, rfl, fun e h => (by rw [hI] at h; cases h; exact ⟨rfl, rfl⟩), fun p' s' h => (by rw [hI] at h; cases h)⟩) dX9_readsItem_97
              · skip
                exact absurd rfl c82
          · skip
            obtain ⟨h9, k1⟩ := bI_1 c72
            obtain ⟨rfl, rfl⟩ := s4 h9 k1
            have q4 : tk tf l0 (a + 1) + 1 ≤ l0 := k1.1
            refine g_iconst (v := 1) C dX9_readsItem_75 (by decide) ?_
            refine g_goto (tgt := 80) C dX9_readsItem_76 (by decide) ?_
            refine g_istore_n (lv' := [some (.ref mo), some (.int 1)]) C dX9_readsItem_80 (hnl 1 (by decide)) rfl rfl ?_
            refine g_iload_n C dX9_readsItem_81 rfl ?_
            refine g_if_eq (tgt := 96) C dX9_readsItem_82 (by decide) (fun c82 => ?_) (fun c82 => ?_)
            · skip
              exact absurd c82 (by decide)
            · skip
              refine g_aload_n C dX9_readsItem_85 rfl ?_
              refine g_callV C (c_X9_nextToken k.l E mo rw mh md mk mt z1 z2 z3 y1 y2 y3 y4 ya yw yp st0 lg sf dg un sm tr at2 (nI n) nu2 os od sl fpu wn l0 tf (tk tf l0 (a + 1) + 1) (by first | assumption | omega) (q4)) kmX9_86 kiX9_nextToken ksX9_nextToken knX9 kcX9_nextToken ⟨rfl, rfl⟩ ⟨rfl, kdX9_nextToken⟩ ⟨by decide, by decide⟩ ⟨by decide, by decide⟩ [0, 1] [2, 3, 4, 5] rfl (wr := [aI E y1 9 hi, aI E y2 9 de, aI E y3 9 pma, aI E y4 3 (upd co 2 (tf (tk tf l0 (a + 1)) - 48))]) rfl (by decide +kernel) (by decide +kernel) (by decide +kernel) 0 9 rfl rfl rfl (As := []) (rest := []) rfl (Nat.le_of_ble_eq_true rfl) dX9_readsItem_86 (fun rv_ rw_ hp_ => ?_)
              obtain ⟨rfl, rfl⟩ := hp_
              refine g_rep [4, 5, 0, 1, 2, 3] (ws' := [(mo, .inr (9, [.ref rw, .int st0, .int lg, .int sf, .int dg, .ref mh, .ref md, .int un, .ref mk, .ref mt, .int (nI l0), .int sm, .ref z1, .ref z2, .ref z3, .long tr, .int (nI (tk tf l0 (tk tf l0 (a + 1) + 1))), .int (nI (nb tf l0 (tk tf l0 (tk tf l0 (a + 1) + 1)))), .int (nI n), .ref y1, .ref y2, .ref y3, .ref y4, .int nu2, .int os, .int od, .int sl, .ref ya, .int fpu, .ref yw, .int wn, .ref yp])), aI E mt 100 tf, aI E y1 9 hi, aI E y2 9 de, aI E y3 9 pma, aI E y4 3 (upd co 2 (tf (tk tf l0 (a + 1)) - 48))]) (st' := []) (n' := 0) (z' := 0) (pc' := 89) rfl rfl rfl rfl (by decide +kernel) rfl ?_
              have hQ := tk_le (tf := tf) q4
              have hI : itemF tf l0 a (n, hi, de, pma, co) = if tk tf l0 (tk tf l0 (a + 1) + 1) < l0 ∧ tf (tk tf l0 (tk tf l0 (a + 1) + 1)) = 59 then .inr (tk tf l0 (tk tf l0 (a + 1) + 1) + 1, (n, hi, de, pma, upd co 2 (tf (tk tf l0 (a + 1)) - 48))) else .inl (tk tf l0 (tk tf l0 (a + 1) + 1)) := by unfold itemF; rw [if_pos ((mb100 t100).mpr h9), if_neg (fun z => absurd (t100.symm.trans z) (by decide)), if_neg (fun z => absurd (t100.symm.trans z) (by decide)), if_neg (fun z => absurd (t100.symm.trans z) (by decide))]; unfold coilF; rw [if_pos k1]; unfold endF; rfl
              refine g_aload_n C dX9_readsItem_89 rfl ?_
              refine g_bipush (v := 59) C dX9_readsItem_90 (by decide) ?_
              refine g_callV C (c_X9_isSign k.l E mo rw mh md mk mt z1 z2 z3 y1 y2 y3 y4 ya yw yp st0 lg sf dg un sm tr (nI (nb tf l0 (tk tf l0 (tk tf l0 (a + 1) + 1)))) (nI n) nu2 os od sl fpu wn l0 tf (tk tf l0 (tk tf l0 (a + 1) + 1)) 59 (by first | assumption | omega) (hQ.2)) kmX9_99 kiX9_isSign ksX9_isSign knX9 kcX9_isSign ⟨rfl, rfl⟩ ⟨rfl, kdX9_isSign⟩ ⟨by decide, by decide⟩ ⟨by decide, by decide⟩ [0, 1] [2, 3, 4, 5] rfl (wr := [aI E y1 9 hi, aI E y2 9 de, aI E y3 9 pma, aI E y4 3 (upd co 2 (tf (tk tf l0 (a + 1)) - 48))]) rfl (by decide +kernel) (by decide +kernel) (by decide +kernel) 0 9 rfl rfl rfl (As := [.int 59]) (rest := []) rfl (Nat.le_of_ble_eq_true rfl) dX9_readsItem_92 (fun rv_ rw_ hp_ => ?_)
              obtain ⟨rfl, rfl⟩ := hp_
              refine g_rep [4, 5, 0, 1, 2, 3] (ws' := [(mo, .inr (9, [.ref rw, .int st0, .int lg, .int sf, .int dg, .ref mh, .ref md, .int un, .ref mk, .ref mt, .int (nI l0), .int sm, .ref z1, .ref z2, .ref z3, .long tr, .int (nI (tk tf l0 (tk tf l0 (a + 1) + 1))), .int (nI (nb tf l0 (tk tf l0 (tk tf l0 (a + 1) + 1)))), .int (nI n), .ref y1, .ref y2, .ref y3, .ref y4, .int nu2, .int os, .int od, .int sl, .ref ya, .int fpu, .ref yw, .int wn, .ref yp])), aI E mt 100 tf, aI E y1 9 hi, aI E y2 9 de, aI E y3 9 pma, aI E y4 3 (upd co 2 (tf (tk tf l0 (a + 1)) - 48))]) (st' := [.int (bI ((tk tf l0 (tk tf l0 (a + 1) + 1)) < l0 ∧ tf (tk tf l0 (tk tf l0 (a + 1) + 1)) = 59))]) (n' := 0) (z' := 0) (pc' := 95) rfl rfl rfl rfl (by decide +kernel) rfl ?_
              refine g_istore_n (lv' := [some (.ref mo), some (.int (bI ((tk tf l0 (tk tf l0 (a + 1) + 1)) < l0 ∧ tf (tk tf l0 (tk tf l0 (a + 1) + 1)) = 59)))]) C dX9_readsItem_95 (hnl 1 (by decide)) rfl rfl ?_
              refine g_iload_n C dX9_readsItem_96 rfl ?_
              exact g_zret C hR (by first | exact Or.inl rfl | exact Or.inr rfl | exact bI01 _) (⟨_, _, _, _, _, _, _, _, _, rfl, rfl, fun e h => (by
                  rw [hI] at h
                  by_cases z : tk tf l0 (tk tf l0 (a + 1) + 1) < l0 ∧ tf (tk tf l0 (tk tf l0 (a + 1) + 1)) = 59
                  · rw [if_pos z] at h; cases h
                  · rw [if_neg z] at h; cases h; exact ⟨bI_f z, rfl⟩), fun p' s' h => (by
                  rw [hI] at h
                  by_cases z : tk tf l0 (tk tf l0 (a + 1) + 1) < l0 ∧ tf (tk tf l0 (tk tf l0 (a + 1) + 1)) = 59
                  · rw [if_pos z] at h; cases h; exact ⟨bI_t z, by rw [nb_1 z.1 (by rw [z.2]; decide)], rfl, rfl, rfl, rfl, rfl⟩
                  · rw [if_neg z] at h; cases h)⟩) dX9_readsItem_97
      · skip
        have t102 : tf a = 102 := (bI_1 c42).2
        have en : nb tf l0 a = a + 1 := nb_1 ha (by rw [t102]; decide)
        rw [en]
        refine g_aload_n C dX9_readsItem_45 rfl ?_
        refine g_iconst (v := 1) C dX9_readsItem_46 (by decide) ?_
        refine g_iconst (v := 1) C dX9_readsItem_47 (by decide) ?_
        refine g_bipush (v := 9) C dX9_readsItem_48 (by decide) ?_
        refine g_callV C (c_X9_readsCoil k.l E mo rw mh md mk mt z1 z2 z3 y1 y2 y3 y4 ya yw yp st0 lg sf dg un sm tr (nI a) (nI n) nu os od sl fpu wn l0 tf (a + 1) co 1 1 9 (by first | assumption | omega) (ha) (by decide) (by decide)) kmX9_106 kiX9_readsCoil ksX9_readsCoil knX9 kcX9_readsCoil ⟨rfl, rfl⟩ ⟨rfl, kdX9_readsCoil⟩ ⟨by decide, by decide⟩ ⟨by decide, by decide⟩ [0, 1, 5] [2, 3, 4] rfl (wr := [aI E y1 9 hi, aI E y2 9 de, aI E y3 9 pma]) rfl (by decide +kernel) (by decide +kernel) (by decide +kernel) 0 9 rfl rfl rfl (As := [.int 1, .int 1, .int 9]) (rest := []) rfl (Nat.le_of_ble_eq_true rfl) dX9_readsItem_50 (fun rv_ rw_ hp_ => ?_)
        obtain ⟨at2, be2, nu2, co2, rfl, rfl, s0, s1, s4⟩ := hp_
        refine g_rep [3, 4, 0, 1, 2, 5] (ws' := [(mo, .inr (9, [.ref rw, .int st0, .int lg, .int sf, .int dg, .ref mh, .ref md, .int un, .ref mk, .ref mt, .int (nI l0), .int sm, .ref z1, .ref z2, .ref z3, .long tr, .int at2, .int be2, .int (nI n), .ref y1, .ref y2, .ref y3, .ref y4, .int nu2, .int os, .int od, .int sl, .ref ya, .int fpu, .ref yw, .int wn, .ref yp])), aI E mt 100 tf, aI E y1 9 hi, aI E y2 9 de, aI E y3 9 pma, aI E y4 3 co2]) (st' := [.int (bI (co 1 < 0 ∧ numOK tf l0 (tk tf l0 (a + 1)) 1 9))]) (n' := 0) (z' := 0) (pc' := 53) rfl rfl rfl rfl (by decide +kernel) rfl ?_
        refine g_goto (tgt := 80) C dX9_readsItem_53 (by decide) ?_
        refine g_istore_n (lv' := [some (.ref mo), some (.int (bI (co 1 < 0 ∧ numOK tf l0 (tk tf l0 (a + 1)) 1 9)))]) C dX9_readsItem_80 (hnl 1 (by decide)) rfl rfl ?_
        refine g_iload_n C dX9_readsItem_81 rfl ?_
        refine g_if_eq (tgt := 96) C dX9_readsItem_82 (by decide) (fun c82 => ?_) (fun c82 => ?_)
        · skip
          have hk := bI_0 c82
          by_cases h9 : co 1 < 0
          · skip
            by_cases k1 : numOK tf l0 (tk tf l0 (a + 1)) 1 9
            · exact absurd ⟨h9, k1⟩ hk
            · skip
              have ez := s1 h9 k1
              subst ez
              have hI : itemF tf l0 a (n, hi, de, pma, co) = .inl (tk tf l0 (a + 1)) := by unfold itemF; rw [if_pos ((mb102 t102).mpr h9), if_neg (fun z => absurd (t102.symm.trans z) (by decide)), if_neg (fun z => absurd (t102.symm.trans z) (by decide)), if_pos t102]; unfold coilF; rw [if_neg k1]
              refine g_iload_n C dX9_readsItem_96 rfl ?_
              exact g_zret C hR (by first | exact Or.inl rfl | exact Or.inr rfl | exact bI01 _) (⟨_, _, _, _, _, _, _, _, _, rfl, rfl, fun e h => (by rw [hI] at h; cases h; exact ⟨bI_f hk, rfl⟩), fun p' s' h => (by rw [hI] at h; cases h)⟩) dX9_readsItem_97
          · skip
            have ez := s0 h9
            subst ez
            have hI : itemF tf l0 a (n, hi, de, pma, co) = .inl a := by unfold itemF; rw [if_neg (fun z => h9 ((mb102 t102).mp z))]
            refine g_iload_n C dX9_readsItem_96 rfl ?_
            exact g_zret C hR (by first | exact Or.inl rfl | exact Or.inr rfl | exact bI01 _) (⟨_, _, _, _, _, _, _, _, _, rfl, rfl, fun e h => (by rw [hI] at h; cases h; exact ⟨bI_f hk, rfl⟩), fun p' s' h => (by rw [hI] at h; cases h)⟩) dX9_readsItem_97
        · skip
          obtain ⟨h9, k1⟩ := bI_1 c82
          obtain ⟨rfl, rfl⟩ := s4 h9 k1
          have q4 : tk tf l0 (a + 1) + 1 ≤ l0 := k1.1
          refine g_aload_n C dX9_readsItem_85 rfl ?_
          refine g_callV C (c_X9_nextToken k.l E mo rw mh md mk mt z1 z2 z3 y1 y2 y3 y4 ya yw yp st0 lg sf dg un sm tr at2 (nI n) nu2 os od sl fpu wn l0 tf (tk tf l0 (a + 1) + 1) (by first | assumption | omega) (q4)) kmX9_86 kiX9_nextToken ksX9_nextToken knX9 kcX9_nextToken ⟨rfl, rfl⟩ ⟨rfl, kdX9_nextToken⟩ ⟨by decide, by decide⟩ ⟨by decide, by decide⟩ [0, 1] [2, 3, 4, 5] rfl (wr := [aI E y1 9 hi, aI E y2 9 de, aI E y3 9 pma, aI E y4 3 (upd co 1 (tf (tk tf l0 (a + 1)) - 48))]) rfl (by decide +kernel) (by decide +kernel) (by decide +kernel) 0 9 rfl rfl rfl (As := []) (rest := []) rfl (Nat.le_of_ble_eq_true rfl) dX9_readsItem_86 (fun rv_ rw_ hp_ => ?_)
          obtain ⟨rfl, rfl⟩ := hp_
          refine g_rep [4, 5, 0, 1, 2, 3] (ws' := [(mo, .inr (9, [.ref rw, .int st0, .int lg, .int sf, .int dg, .ref mh, .ref md, .int un, .ref mk, .ref mt, .int (nI l0), .int sm, .ref z1, .ref z2, .ref z3, .long tr, .int (nI (tk tf l0 (tk tf l0 (a + 1) + 1))), .int (nI (nb tf l0 (tk tf l0 (tk tf l0 (a + 1) + 1)))), .int (nI n), .ref y1, .ref y2, .ref y3, .ref y4, .int nu2, .int os, .int od, .int sl, .ref ya, .int fpu, .ref yw, .int wn, .ref yp])), aI E mt 100 tf, aI E y1 9 hi, aI E y2 9 de, aI E y3 9 pma, aI E y4 3 (upd co 1 (tf (tk tf l0 (a + 1)) - 48))]) (st' := []) (n' := 0) (z' := 0) (pc' := 89) rfl rfl rfl rfl (by decide +kernel) rfl ?_
          have hQ := tk_le (tf := tf) q4
          have hI : itemF tf l0 a (n, hi, de, pma, co) = if tk tf l0 (tk tf l0 (a + 1) + 1) < l0 ∧ tf (tk tf l0 (tk tf l0 (a + 1) + 1)) = 59 then .inr (tk tf l0 (tk tf l0 (a + 1) + 1) + 1, (n, hi, de, pma, upd co 1 (tf (tk tf l0 (a + 1)) - 48))) else .inl (tk tf l0 (tk tf l0 (a + 1) + 1)) := by unfold itemF; rw [if_pos ((mb102 t102).mpr h9), if_neg (fun z => absurd (t102.symm.trans z) (by decide)), if_neg (fun z => absurd (t102.symm.trans z) (by decide)), if_pos t102]; unfold coilF; rw [if_pos k1]; unfold endF; rfl
          refine g_aload_n C dX9_readsItem_89 rfl ?_
          refine g_bipush (v := 59) C dX9_readsItem_90 (by decide) ?_
          refine g_callV C (c_X9_isSign k.l E mo rw mh md mk mt z1 z2 z3 y1 y2 y3 y4 ya yw yp st0 lg sf dg un sm tr (nI (nb tf l0 (tk tf l0 (tk tf l0 (a + 1) + 1)))) (nI n) nu2 os od sl fpu wn l0 tf (tk tf l0 (tk tf l0 (a + 1) + 1)) 59 (by first | assumption | omega) (hQ.2)) kmX9_99 kiX9_isSign ksX9_isSign knX9 kcX9_isSign ⟨rfl, rfl⟩ ⟨rfl, kdX9_isSign⟩ ⟨by decide, by decide⟩ ⟨by decide, by decide⟩ [0, 1] [2, 3, 4, 5] rfl (wr := [aI E y1 9 hi, aI E y2 9 de, aI E y3 9 pma, aI E y4 3 (upd co 1 (tf (tk tf l0 (a + 1)) - 48))]) rfl (by decide +kernel) (by decide +kernel) (by decide +kernel) 0 9 rfl rfl rfl (As := [.int 59]) (rest := []) rfl (Nat.le_of_ble_eq_true rfl) dX9_readsItem_92 (fun rv_ rw_ hp_ => ?_)
          obtain ⟨rfl, rfl⟩ := hp_
          refine g_rep [4, 5, 0, 1, 2, 3] (ws' := [(mo, .inr (9, [.ref rw, .int st0, .int lg, .int sf, .int dg, .ref mh, .ref md, .int un, .ref mk, .ref mt, .int (nI l0), .int sm, .ref z1, .ref z2, .ref z3, .long tr, .int (nI (tk tf l0 (tk tf l0 (a + 1) + 1))), .int (nI (nb tf l0 (tk tf l0 (tk tf l0 (a + 1) + 1)))), .int (nI n), .ref y1, .ref y2, .ref y3, .ref y4, .int nu2, .int os, .int od, .int sl, .ref ya, .int fpu, .ref yw, .int wn, .ref yp])), aI E mt 100 tf, aI E y1 9 hi, aI E y2 9 de, aI E y3 9 pma, aI E y4 3 (upd co 1 (tf (tk tf l0 (a + 1)) - 48))]) (st' := [.int (bI ((tk tf l0 (tk tf l0 (a + 1) + 1)) < l0 ∧ tf (tk tf l0 (tk tf l0 (a + 1) + 1)) = 59))]) (n' := 0) (z' := 0) (pc' := 95) rfl rfl rfl rfl (by decide +kernel) rfl ?_
          refine g_istore_n (lv' := [some (.ref mo), some (.int (bI ((tk tf l0 (tk tf l0 (a + 1) + 1)) < l0 ∧ tf (tk tf l0 (tk tf l0 (a + 1) + 1)) = 59)))]) C dX9_readsItem_95 (hnl 1 (by decide)) rfl rfl ?_
          refine g_iload_n C dX9_readsItem_96 rfl ?_
          exact g_zret C hR (by first | exact Or.inl rfl | exact Or.inr rfl | exact bI01 _) (⟨_, _, _, _, _, _, _, _, _, rfl, rfl, fun e h => (by
              rw [hI] at h
              by_cases z : tk tf l0 (tk tf l0 (a + 1) + 1) < l0 ∧ tf (tk tf l0 (tk tf l0 (a + 1) + 1)) = 59
              · rw [if_pos z] at h; cases h
              · rw [if_neg z] at h; cases h; exact ⟨bI_f z, rfl⟩), fun p' s' h => (by
              rw [hI] at h
              by_cases z : tk tf l0 (tk tf l0 (a + 1) + 1) < l0 ∧ tf (tk tf l0 (tk tf l0 (a + 1) + 1)) = 59
              · rw [if_pos z] at h; cases h; exact ⟨bI_t z, by rw [nb_1 z.1 (by rw [z.2]; decide)], rfl, rfl, rfl, rfl, rfl⟩
              · rw [if_neg z] at h; cases h)⟩) dX9_readsItem_97
    · skip
      have t108 : tf a = 108 := (bI_1 c22).2
      have en : nb tf l0 a = a + 1 := nb_1 ha (by rw [t108]; decide)
      rw [en]
      refine g_aload_n C dX9_readsItem_25 rfl ?_
      refine g_iconst (v := 0) C dX9_readsItem_26 (by decide) ?_
      refine g_iconst (v := 0) C dX9_readsItem_27 (by decide) ?_
      refine g_bipush (v := 9) C dX9_readsItem_28 (by decide) ?_
      refine g_callV C (c_X9_readsCoil k.l E mo rw mh md mk mt z1 z2 z3 y1 y2 y3 y4 ya yw yp st0 lg sf dg un sm tr (nI a) (nI n) nu os od sl fpu wn l0 tf (a + 1) co 0 0 9 (by first | assumption | omega) (ha) (by decide) (by decide)) kmX9_106 kiX9_readsCoil ksX9_readsCoil knX9 kcX9_readsCoil ⟨rfl, rfl⟩ ⟨rfl, kdX9_readsCoil⟩ ⟨by decide, by decide⟩ ⟨by decide, by decide⟩ [0, 1, 5] [2, 3, 4] rfl (wr := [aI E y1 9 hi, aI E y2 9 de, aI E y3 9 pma]) rfl (by decide +kernel) (by decide +kernel) (by decide +kernel) 0 9 rfl rfl rfl (As := [.int 0, .int 0, .int 9]) (rest := []) rfl (Nat.le_of_ble_eq_true rfl) dX9_readsItem_30 (fun rv_ rw_ hp_ => ?_)
      obtain ⟨at2, be2, nu2, co2, rfl, rfl, s0, s1, s4⟩ := hp_
      refine g_rep [3, 4, 0, 1, 2, 5] (ws' := [(mo, .inr (9, [.ref rw, .int st0, .int lg, .int sf, .int dg, .ref mh, .ref md, .int un, .ref mk, .ref mt, .int (nI l0), .int sm, .ref z1, .ref z2, .ref z3, .long tr, .int at2, .int be2, .int (nI n), .ref y1, .ref y2, .ref y3, .ref y4, .int nu2, .int os, .int od, .int sl, .ref ya, .int fpu, .ref yw, .int wn, .ref yp])), aI E mt 100 tf, aI E y1 9 hi, aI E y2 9 de, aI E y3 9 pma, aI E y4 3 co2]) (st' := [.int (bI (co 0 < 0 ∧ numOK tf l0 (tk tf l0 (a + 1)) 0 9))]) (n' := 0) (z' := 0) (pc' := 33) rfl rfl rfl rfl (by decide +kernel) rfl ?_
      refine g_goto (tgt := 80) C dX9_readsItem_33 (by decide) ?_
      refine g_istore_n (lv' := [some (.ref mo), some (.int (bI (co 0 < 0 ∧ numOK tf l0 (tk tf l0 (a + 1)) 0 9)))]) C dX9_readsItem_80 (hnl 1 (by decide)) rfl rfl ?_
      refine g_iload_n C dX9_readsItem_81 rfl ?_
      refine g_if_eq (tgt := 96) C dX9_readsItem_82 (by decide) (fun c82 => ?_) (fun c82 => ?_)
      · skip
        have hk := bI_0 c82
        by_cases h9 : co 0 < 0
        · skip
          by_cases k1 : numOK tf l0 (tk tf l0 (a + 1)) 0 9
          · exact absurd ⟨h9, k1⟩ hk
          · skip
            have ez := s1 h9 k1
            subst ez
            have hI : itemF tf l0 a (n, hi, de, pma, co) = .inl (tk tf l0 (a + 1)) := by unfold itemF; rw [if_pos ((mb108 t108).mpr h9), if_neg (fun z => absurd (t108.symm.trans z) (by decide)), if_pos t108]; unfold coilF; rw [if_neg k1]
            refine g_iload_n C dX9_readsItem_96 rfl ?_
            exact g_zret C hR (by first | exact Or.inl rfl | exact Or.inr rfl | exact bI01 _) (⟨_, _, _, _, _, _, _, _, _, rfl, rfl, fun e h => (by rw [hI] at h; cases h; exact ⟨bI_f hk, rfl⟩), fun p' s' h => (by rw [hI] at h; cases h)⟩) dX9_readsItem_97
        · skip
          have ez := s0 h9
          subst ez
          have hI : itemF tf l0 a (n, hi, de, pma, co) = .inl a := by unfold itemF; rw [if_neg (fun z => h9 ((mb108 t108).mp z))]
          refine g_iload_n C dX9_readsItem_96 rfl ?_
          exact g_zret C hR (by first | exact Or.inl rfl | exact Or.inr rfl | exact bI01 _) (⟨_, _, _, _, _, _, _, _, _, rfl, rfl, fun e h => (by rw [hI] at h; cases h; exact ⟨bI_f hk, rfl⟩), fun p' s' h => (by rw [hI] at h; cases h)⟩) dX9_readsItem_97
      · skip
        obtain ⟨h9, k1⟩ := bI_1 c82
        obtain ⟨rfl, rfl⟩ := s4 h9 k1
        have q4 : tk tf l0 (a + 1) + 1 ≤ l0 := k1.1
        refine g_aload_n C dX9_readsItem_85 rfl ?_
        refine g_callV C (c_X9_nextToken k.l E mo rw mh md mk mt z1 z2 z3 y1 y2 y3 y4 ya yw yp st0 lg sf dg un sm tr at2 (nI n) nu2 os od sl fpu wn l0 tf (tk tf l0 (a + 1) + 1) (by first | assumption | omega) (q4)) kmX9_86 kiX9_nextToken ksX9_nextToken knX9 kcX9_nextToken ⟨rfl, rfl⟩ ⟨rfl, kdX9_nextToken⟩ ⟨by decide, by decide⟩ ⟨by decide, by decide⟩ [0, 1] [2, 3, 4, 5] rfl (wr := [aI E y1 9 hi, aI E y2 9 de, aI E y3 9 pma, aI E y4 3 (upd co 0 (tf (tk tf l0 (a + 1)) - 48))]) rfl (by decide +kernel) (by decide +kernel) (by decide +kernel) 0 9 rfl rfl rfl (As := []) (rest := []) rfl (Nat.le_of_ble_eq_true rfl) dX9_readsItem_86 (fun rv_ rw_ hp_ => ?_)
        obtain ⟨rfl, rfl⟩ := hp_
        refine g_rep [4, 5, 0, 1, 2, 3] (ws' := [(mo, .inr (9, [.ref rw, .int st0, .int lg, .int sf, .int dg, .ref mh, .ref md, .int un, .ref mk, .ref mt, .int (nI l0), .int sm, .ref z1, .ref z2, .ref z3, .long tr, .int (nI (tk tf l0 (tk tf l0 (a + 1) + 1))), .int (nI (nb tf l0 (tk tf l0 (tk tf l0 (a + 1) + 1)))), .int (nI n), .ref y1, .ref y2, .ref y3, .ref y4, .int nu2, .int os, .int od, .int sl, .ref ya, .int fpu, .ref yw, .int wn, .ref yp])), aI E mt 100 tf, aI E y1 9 hi, aI E y2 9 de, aI E y3 9 pma, aI E y4 3 (upd co 0 (tf (tk tf l0 (a + 1)) - 48))]) (st' := []) (n' := 0) (z' := 0) (pc' := 89) rfl rfl rfl rfl (by decide +kernel) rfl ?_
        have hQ := tk_le (tf := tf) q4
        have hI : itemF tf l0 a (n, hi, de, pma, co) = if tk tf l0 (tk tf l0 (a + 1) + 1) < l0 ∧ tf (tk tf l0 (tk tf l0 (a + 1) + 1)) = 59 then .inr (tk tf l0 (tk tf l0 (a + 1) + 1) + 1, (n, hi, de, pma, upd co 0 (tf (tk tf l0 (a + 1)) - 48))) else .inl (tk tf l0 (tk tf l0 (a + 1) + 1)) := by unfold itemF; rw [if_pos ((mb108 t108).mpr h9), if_neg (fun z => absurd (t108.symm.trans z) (by decide)), if_pos t108]; unfold coilF; rw [if_pos k1]; unfold endF; rfl
        refine g_aload_n C dX9_readsItem_89 rfl ?_
        refine g_bipush (v := 59) C dX9_readsItem_90 (by decide) ?_
        refine g_callV C (c_X9_isSign k.l E mo rw mh md mk mt z1 z2 z3 y1 y2 y3 y4 ya yw yp st0 lg sf dg un sm tr (nI (nb tf l0 (tk tf l0 (tk tf l0 (a + 1) + 1)))) (nI n) nu2 os od sl fpu wn l0 tf (tk tf l0 (tk tf l0 (a + 1) + 1)) 59 (by first | assumption | omega) (hQ.2)) kmX9_99 kiX9_isSign ksX9_isSign knX9 kcX9_isSign ⟨rfl, rfl⟩ ⟨rfl, kdX9_isSign⟩ ⟨by decide, by decide⟩ ⟨by decide, by decide⟩ [0, 1] [2, 3, 4, 5] rfl (wr := [aI E y1 9 hi, aI E y2 9 de, aI E y3 9 pma, aI E y4 3 (upd co 0 (tf (tk tf l0 (a + 1)) - 48))]) rfl (by decide +kernel) (by decide +kernel) (by decide +kernel) 0 9 rfl rfl rfl (As := [.int 59]) (rest := []) rfl (Nat.le_of_ble_eq_true rfl) dX9_readsItem_92 (fun rv_ rw_ hp_ => ?_)
        obtain ⟨rfl, rfl⟩ := hp_
        refine g_rep [4, 5, 0, 1, 2, 3] (ws' := [(mo, .inr (9, [.ref rw, .int st0, .int lg, .int sf, .int dg, .ref mh, .ref md, .int un, .ref mk, .ref mt, .int (nI l0), .int sm, .ref z1, .ref z2, .ref z3, .long tr, .int (nI (tk tf l0 (tk tf l0 (a + 1) + 1))), .int (nI (nb tf l0 (tk tf l0 (tk tf l0 (a + 1) + 1)))), .int (nI n), .ref y1, .ref y2, .ref y3, .ref y4, .int nu2, .int os, .int od, .int sl, .ref ya, .int fpu, .ref yw, .int wn, .ref yp])), aI E mt 100 tf, aI E y1 9 hi, aI E y2 9 de, aI E y3 9 pma, aI E y4 3 (upd co 0 (tf (tk tf l0 (a + 1)) - 48))]) (st' := [.int (bI ((tk tf l0 (tk tf l0 (a + 1) + 1)) < l0 ∧ tf (tk tf l0 (tk tf l0 (a + 1) + 1)) = 59))]) (n' := 0) (z' := 0) (pc' := 95) rfl rfl rfl rfl (by decide +kernel) rfl ?_
        refine g_istore_n (lv' := [some (.ref mo), some (.int (bI ((tk tf l0 (tk tf l0 (a + 1) + 1)) < l0 ∧ tf (tk tf l0 (tk tf l0 (a + 1) + 1)) = 59)))]) C dX9_readsItem_95 (hnl 1 (by decide)) rfl rfl ?_
        refine g_iload_n C dX9_readsItem_96 rfl ?_
        exact g_zret C hR (by first | exact Or.inl rfl | exact Or.inr rfl | exact bI01 _) (⟨_, _, _, _, _, _, _, _, _, rfl, rfl, fun e h => (by
            rw [hI] at h
            by_cases z : tk tf l0 (tk tf l0 (a + 1) + 1) < l0 ∧ tf (tk tf l0 (tk tf l0 (a + 1) + 1)) = 59
            · rw [if_pos z] at h; cases h
            · rw [if_neg z] at h; cases h; exact ⟨bI_f z, rfl⟩), fun p' s' h => (by
            rw [hI] at h
            by_cases z : tk tf l0 (tk tf l0 (a + 1) + 1) < l0 ∧ tf (tk tf l0 (tk tf l0 (a + 1) + 1)) = 59
            · rw [if_pos z] at h; cases h; exact ⟨bI_t z, by rw [nb_1 z.1 (by rw [z.2]; decide)], rfl, rfl, rfl, rfl, rfl⟩
            · rw [if_neg z] at h; cases h)⟩) dX9_readsItem_97
  · skip
    have t115 : tf a = 115 := (bI_1 c6).2
    have en : nb tf l0 a = a + 1 := nb_1 ha (by rw [t115]; decide)
    rw [en]
    refine g_aload_n C dX9_readsItem_9 rfl ?_
    refine g_callV C (c_X9_readsStep k.l E mo rw mh md mk mt z1 z2 z3 y1 y2 y3 y4 ya yw yp st0 lg sf dg un sm tr (nI a) nu os od sl fpu wn l0 tf (a + 1) n hi de pma (by first | assumption | omega) (ha) (hn)) kmX9_102 kiX9_readsStep ksX9_readsStep knX9 kcX9_readsStep ⟨rfl, rfl⟩ ⟨rfl, kdX9_readsStep⟩ ⟨by decide, by decide⟩ ⟨by decide, by decide⟩ [0, 1, 2, 3, 4] [5] rfl (wr := [aI E y4 3 co]) rfl (by decide +kernel) (by decide +kernel) (by decide +kernel) 0 9 rfl rfl rfl (As := []) (rest := []) rfl (Nat.le_of_ble_eq_true rfl) dX9_readsItem_10 (fun rv_ rw_ hp_ => ?_)
    obtain ⟨at2, be2, rs2, nu2, hi2, de2, pma2, rfl, rfl, s0, s1, s2, s3, s4⟩ := hp_
    refine g_rep [1, 2, 3, 4, 5, 0] (ws' := [(mo, .inr (9, [.ref rw, .int st0, .int lg, .int sf, .int dg, .ref mh, .ref md, .int un, .ref mk, .ref mt, .int (nI l0), .int sm, .ref z1, .ref z2, .ref z3, .long tr, .int at2, .int be2, .int rs2, .ref y1, .ref y2, .ref y3, .ref y4, .int nu2, .int os, .int od, .int sl, .ref ya, .int fpu, .ref yw, .int wn, .ref yp])), aI E mt 100 tf, aI E y1 9 hi2, aI E y2 9 de2, aI E y3 9 pma2, aI E y4 3 co]) (st' := [.int (bI (n < 9 ∧ numOK tf l0 (tk tf l0 (a + 1)) 1 9 ∧ numOK tf l0 (tk tf l0 (tk tf l0 (a + 1) + 1)) 1 9 ∧ numOK tf l0 (tk tf l0 (tk tf l0 (tk tf l0 (a + 1) + 1) + 1)) 0 5))]) (n' := 0) (z' := 0) (pc' := 13) rfl rfl rfl rfl (by decide +kernel) rfl ?_
    refine g_goto (tgt := 80) C dX9_readsItem_13 (by decide) ?_
    refine g_istore_n (lv' := [some (.ref mo), some (.int (bI (n < 9 ∧ numOK tf l0 (tk tf l0 (a + 1)) 1 9 ∧ numOK tf l0 (tk tf l0 (tk tf l0 (a + 1) + 1)) 1 9 ∧ numOK tf l0 (tk tf l0 (tk tf l0 (tk tf l0 (a + 1) + 1) + 1)) 0 5)))]) C dX9_readsItem_80 (hnl 1 (by decide)) rfl rfl ?_
    refine g_iload_n C dX9_readsItem_81 rfl ?_
    refine g_if_eq (tgt := 96) C dX9_readsItem_82 (by decide) (fun c82 => ?_) (fun c82 => ?_)
    · skip
      have hk := bI_0 c82
      by_cases h9 : n < 9
      · skip
        by_cases k1 : numOK tf l0 (tk tf l0 (a + 1)) 1 9
        · skip
          by_cases k2 : numOK tf l0 (tk tf l0 (tk tf l0 (a + 1) + 1)) 1 9
          · skip
            by_cases k3 : numOK tf l0 (tk tf l0 (tk tf l0 (tk tf l0 (a + 1) + 1) + 1)) 0 5
            · exact absurd ⟨h9, k1, k2, k3⟩ hk
            · skip
              have ez := s3 h9 k1 k2 k3
              subst ez
              have hI : itemF tf l0 a (n, hi, de, pma, co) = .inl (tk tf l0 (tk tf l0 (tk tf l0 (a + 1) + 1) + 1)) := by unfold itemF; rw [if_pos ((mb115 t115).mpr h9), if_pos t115]; unfold stepF; rw [if_pos k1, if_pos k2, if_neg k3]
              refine g_iload_n C dX9_readsItem_96 rfl ?_
              exact g_zret C hR (by first | exact Or.inl rfl | exact Or.inr rfl | exact bI01 _) (⟨_, _, _, _, _, _, _, _, _, rfl, rfl, fun e h => (by rw [hI] at h; cases h; exact ⟨bI_f hk, rfl⟩), fun p' s' h => (by rw [hI] at h; cases h)⟩) dX9_readsItem_97
          · skip
            have ez := s2 h9 k1 k2
            subst ez
            have hI : itemF tf l0 a (n, hi, de, pma, co) = .inl (tk tf l0 (tk tf l0 (a + 1) + 1)) := by unfold itemF; rw [if_pos ((mb115 t115).mpr h9), if_pos t115]; unfold stepF; rw [if_pos k1, if_neg k2]
            refine g_iload_n C dX9_readsItem_96 rfl ?_
            exact g_zret C hR (by first | exact Or.inl rfl | exact Or.inr rfl | exact bI01 _) (⟨_, _, _, _, _, _, _, _, _, rfl, rfl, fun e h => (by rw [hI] at h; cases h; exact ⟨bI_f hk, rfl⟩), fun p' s' h => (by rw [hI] at h; cases h)⟩) dX9_readsItem_97
        · skip
          have ez := s1 h9 k1
          subst ez
          have hI : itemF tf l0 a (n, hi, de, pma, co) = .inl (tk tf l0 (a + 1)) := by unfold itemF; rw [if_pos ((mb115 t115).mpr h9), if_pos t115]; unfold stepF; rw [if_neg k1]
          refine g_iload_n C dX9_readsItem_96 rfl ?_
          exact g_zret C hR (by first | exact Or.inl rfl | exact Or.inr rfl | exact bI01 _) (⟨_, _, _, _, _, _, _, _, _, rfl, rfl, fun e h => (by rw [hI] at h; cases h; exact ⟨bI_f hk, rfl⟩), fun p' s' h => (by rw [hI] at h; cases h)⟩) dX9_readsItem_97
      · skip
        have ez := s0 h9
        subst ez
        have hI : itemF tf l0 a (n, hi, de, pma, co) = .inl a := by unfold itemF; rw [if_neg (fun z => h9 ((mb115 t115).mp z))]
        refine g_iload_n C dX9_readsItem_96 rfl ?_
        exact g_zret C hR (by first | exact Or.inl rfl | exact Or.inr rfl | exact bI01 _) (⟨_, _, _, _, _, _, _, _, _, rfl, rfl, fun e h => (by rw [hI] at h; cases h; exact ⟨bI_f hk, rfl⟩), fun p' s' h => (by rw [hI] at h; cases h)⟩) dX9_readsItem_97
    · skip
      obtain ⟨h9, k1, k2, k3⟩ := bI_1 c82
      obtain ⟨rfl, rfl, rfl, rfl, rfl⟩ := s4 h9 k1 k2 k3
      have q4 : tk tf l0 (tk tf l0 (tk tf l0 (a + 1) + 1) + 1) + 1 ≤ l0 := k3.1
      refine g_aload_n C dX9_readsItem_85 rfl ?_
      refine g_callV C (c_X9_nextToken k.l E mo rw mh md mk mt z1 z2 z3 y1 y2 y3 y4 ya yw yp st0 lg sf dg un sm tr at2 (nI (n + 1)) nu2 os od sl fpu wn l0 tf (tk tf l0 (tk tf l0 (tk tf l0 (a + 1) + 1) + 1) + 1) (by first | assumption | omega) (q4)) kmX9_86 kiX9_nextToken ksX9_nextToken knX9 kcX9_nextToken ⟨rfl, rfl⟩ ⟨rfl, kdX9_nextToken⟩ ⟨by decide, by decide⟩ ⟨by decide, by decide⟩ [0, 1] [2, 3, 4, 5] rfl (wr := [aI E y1 9 (upd hi n (tf (tk tf l0 (a + 1)) - 48)), aI E y2 9 (upd de n (tf (tk tf l0 (tk tf l0 (a + 1) + 1)) - 48)), aI E y3 9 (upd pma n (tf (tk tf l0 (tk tf l0 (tk tf l0 (a + 1) + 1) + 1)) - 48)), aI E y4 3 co]) rfl (by decide +kernel) (by decide +kernel) (by decide +kernel) 0 9 rfl rfl rfl (As := []) (rest := []) rfl (Nat.le_of_ble_eq_true rfl) dX9_readsItem_86 (fun rv_ rw_ hp_ => ?_)
      obtain ⟨rfl, rfl⟩ := hp_
      refine g_rep [4, 5, 0, 1, 2, 3] (ws' := [(mo, .inr (9, [.ref rw, .int st0, .int lg, .int sf, .int dg, .ref mh, .ref md, .int un, .ref mk, .ref mt, .int (nI l0), .int sm, .ref z1, .ref z2, .ref z3, .long tr, .int (nI (tk tf l0 (tk tf l0 (tk tf l0 (tk tf l0 (a + 1) + 1) + 1) + 1))), .int (nI (nb tf l0 (tk tf l0 (tk tf l0 (tk tf l0 (tk tf l0 (a + 1) + 1) + 1) + 1)))), .int (nI (n + 1)), .ref y1, .ref y2, .ref y3, .ref y4, .int nu2, .int os, .int od, .int sl, .ref ya, .int fpu, .ref yw, .int wn, .ref yp])), aI E mt 100 tf, aI E y1 9 (upd hi n (tf (tk tf l0 (a + 1)) - 48)), aI E y2 9 (upd de n (tf (tk tf l0 (tk tf l0 (a + 1) + 1)) - 48)), aI E y3 9 (upd pma n (tf (tk tf l0 (tk tf l0 (tk tf l0 (a + 1) + 1) + 1)) - 48)), aI E y4 3 co]) (st' := []) (n' := 0) (z' := 0) (pc' := 89) rfl rfl rfl rfl (by decide +kernel) rfl ?_
      have hQ := tk_le (tf := tf) q4
      have hI : itemF tf l0 a (n, hi, de, pma, co) = if tk tf l0 (tk tf l0 (tk tf l0 (tk tf l0 (a + 1) + 1) + 1) + 1) < l0 ∧ tf (tk tf l0 (tk tf l0 (tk tf l0 (tk tf l0 (a + 1) + 1) + 1) + 1)) = 59 then .inr (tk tf l0 (tk tf l0 (tk tf l0 (tk tf l0 (a + 1) + 1) + 1) + 1) + 1, (n + 1, upd hi n (tf (tk tf l0 (a + 1)) - 48), upd de n (tf (tk tf l0 (tk tf l0 (a + 1) + 1)) - 48), upd pma n (tf (tk tf l0 (tk tf l0 (tk tf l0 (a + 1) + 1) + 1)) - 48), co)) else .inl (tk tf l0 (tk tf l0 (tk tf l0 (tk tf l0 (a + 1) + 1) + 1) + 1)) := by unfold itemF; rw [if_pos ((mb115 t115).mpr h9), if_pos t115]; unfold stepF; rw [if_pos k1, if_pos k2, if_pos k3]; unfold endF; rfl
      refine g_aload_n C dX9_readsItem_89 rfl ?_
      refine g_bipush (v := 59) C dX9_readsItem_90 (by decide) ?_
      refine g_callV C (c_X9_isSign k.l E mo rw mh md mk mt z1 z2 z3 y1 y2 y3 y4 ya yw yp st0 lg sf dg un sm tr (nI (nb tf l0 (tk tf l0 (tk tf l0 (tk tf l0 (tk tf l0 (a + 1) + 1) + 1) + 1)))) (nI (n + 1)) nu2 os od sl fpu wn l0 tf (tk tf l0 (tk tf l0 (tk tf l0 (tk tf l0 (a + 1) + 1) + 1) + 1)) 59 (by first | assumption | omega) (hQ.2)) kmX9_99 kiX9_isSign ksX9_isSign knX9 kcX9_isSign ⟨rfl, rfl⟩ ⟨rfl, kdX9_isSign⟩ ⟨by decide, by decide⟩ ⟨by decide, by decide⟩ [0, 1] [2, 3, 4, 5] rfl (wr := [aI E y1 9 (upd hi n (tf (tk tf l0 (a + 1)) - 48)), aI E y2 9 (upd de n (tf (tk tf l0 (tk tf l0 (a + 1) + 1)) - 48)), aI E y3 9 (upd pma n (tf (tk tf l0 (tk tf l0 (tk tf l0 (a + 1) + 1) + 1)) - 48)), aI E y4 3 co]) rfl (by decide +kernel) (by decide +kernel) (by decide +kernel) 0 9 rfl rfl rfl (As := [.int 59]) (rest := []) rfl (Nat.le_of_ble_eq_true rfl) dX9_readsItem_92 (fun rv_ rw_ hp_ => ?_)
      obtain ⟨rfl, rfl⟩ := hp_
      refine g_rep [4, 5, 0, 1, 2, 3] (ws' := [(mo, .inr (9, [.ref rw, .int st0, .int lg, .int sf, .int dg, .ref mh, .ref md, .int un, .ref mk, .ref mt, .int (nI l0), .int sm, .ref z1, .ref z2, .ref z3, .long tr, .int (nI (tk tf l0 (tk tf l0 (tk tf l0 (tk tf l0 (a + 1) + 1) + 1) + 1))), .int (nI (nb tf l0 (tk tf l0 (tk tf l0 (tk tf l0 (tk tf l0 (a + 1) + 1) + 1) + 1)))), .int (nI (n + 1)), .ref y1, .ref y2, .ref y3, .ref y4, .int nu2, .int os, .int od, .int sl, .ref ya, .int fpu, .ref yw, .int wn, .ref yp])), aI E mt 100 tf, aI E y1 9 (upd hi n (tf (tk tf l0 (a + 1)) - 48)), aI E y2 9 (upd de n (tf (tk tf l0 (tk tf l0 (a + 1) + 1)) - 48)), aI E y3 9 (upd pma n (tf (tk tf l0 (tk tf l0 (tk tf l0 (a + 1) + 1) + 1)) - 48)), aI E y4 3 co]) (st' := [.int (bI ((tk tf l0 (tk tf l0 (tk tf l0 (tk tf l0 (a + 1) + 1) + 1) + 1)) < l0 ∧ tf (tk tf l0 (tk tf l0 (tk tf l0 (tk tf l0 (a + 1) + 1) + 1) + 1)) = 59))]) (n' := 0) (z' := 0) (pc' := 95) rfl rfl rfl rfl (by decide +kernel) rfl ?_
      refine g_istore_n (lv' := [some (.ref mo), some (.int (bI ((tk tf l0 (tk tf l0 (tk tf l0 (tk tf l0 (a + 1) + 1) + 1) + 1)) < l0 ∧ tf (tk tf l0 (tk tf l0 (tk tf l0 (tk tf l0 (a + 1) + 1) + 1) + 1)) = 59)))]) C dX9_readsItem_95 (hnl 1 (by decide)) rfl rfl ?_
      refine g_iload_n C dX9_readsItem_96 rfl ?_
      exact g_zret C hR (by first | exact Or.inl rfl | exact Or.inr rfl | exact bI01 _) (⟨_, _, _, _, _, _, _, _, _, rfl, rfl, fun e h => (by
          rw [hI] at h
          by_cases z : tk tf l0 (tk tf l0 (tk tf l0 (tk tf l0 (a + 1) + 1) + 1) + 1) < l0 ∧ tf (tk tf l0 (tk tf l0 (tk tf l0 (tk tf l0 (a + 1) + 1) + 1) + 1)) = 59
          · rw [if_pos z] at h; cases h
          · rw [if_neg z] at h; cases h; exact ⟨bI_f z, rfl⟩), fun p' s' h => (by
          rw [hI] at h
          by_cases z : tk tf l0 (tk tf l0 (tk tf l0 (tk tf l0 (a + 1) + 1) + 1) + 1) < l0 ∧ tf (tk tf l0 (tk tf l0 (tk tf l0 (tk tf l0 (a + 1) + 1) + 1) + 1)) = 59
          · rw [if_pos z] at h; cases h; exact ⟨bI_t z, by rw [nb_1 z.1 (by rw [z.2]; decide)], rfl, rfl, rfl, rfl, rfl⟩
          · rw [if_neg z] at h; cases h)⟩) dX9_readsItem_97
