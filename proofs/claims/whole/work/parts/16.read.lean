set_option maxHeartbeats 4000000 in
set_option maxRecDepth 100000 in
theorem c_X6_readItem (l : Launch) (E : EX) (r : Nat) (tx : Nat) (p : Nat) (le : Nat) (a : Nat) (it : Nat) (tf : Nat → Int32) (ph : Nat) (pd : Nat) (pm : Nat) (n : Nat) (hi : Nat → Int32) (de : Nat → Int32) (pma : Nat → Int32) (co : Nat → Int32) (hle : le ≤ 100) (ha : a < le) (hn : n ≤ 9) : Ct l E yX6_readItem cX6_readItem 2 none (rmL 5 0 0) [.ref r] [(r, .inr (6, [.ref tx, .ref p, .int (nI le), .int (nI a), .int (nI it), .int (-1), .int (bI (0 ≤ co 0)), .int (bI (0 ≤ co 1)), .int (bI (0 ≤ co 2))])), aC E tx 100 tf, (p, .inr (5, [.ref ph, .ref pd, .ref pm, .int (nI n), .int (lgC co), .int (sfC co), .int (dgC co)])), aI E ph 9 hi, aI E pd 9 de, aI E pm 9 pma] (fun (rv_ : Option Value) (rw_ : va_W) => ∃ (at2 : Int32) (it2 : Int32) (fa2 : Int32) (b12 : Int32) (b22 : Int32) (b32 : Int32) (n2 : Int32) (lg2 : Int32) (sf2 : Int32) (dg2 : Int32) (hi2 : Nat → Int32) (de2 : Nat → Int32) (pma2 : Nat → Int32), rv_ = none ∧ rw_ = [(r, .inr (6, [.ref tx, .ref p, .int (nI le), .int at2, .int it2, .int fa2, .int b12, .int b22, .int b32])), aC E tx 100 tf, (p, .inr (5, [.ref ph, .ref pd, .ref pm, .int n2, .int lg2, .int sf2, .int dg2])), aI E ph 9 hi2, aI E pd 9 de2, aI E pm 9 pma2] ∧ (∀ e, itemF tf le a (n, hi, de, pma, co) = .inl e → fa2 = nI e) ∧ (∀ p' s', itemF tf le a (n, hi, de, pma, co) = .inr (p', s') → fa2 = -1 ∧ at2 = nI p' ∧ it2 = nI (it + 1) ∧ n2 = nI s'.1 ∧ hi2 = s'.2.1 ∧ de2 = s'.2.2.1 ∧ pma2 = s'.2.2.2.1 ∧ lg2 = lgC s'.2.2.2.2 ∧ sf2 = sfC s'.2.2.2.2 ∧ dg2 = dgC s'.2.2.2.2 ∧ b12 = bI (0 ≤ s'.2.2.2.2 0) ∧ b22 = bI (0 ≤ s'.2.2.2.2 1) ∧ b32 = bI (0 ≤ s'.2.2.2.2 2))) 0 0 := by
  refine Ct_of (by decide) (Nat.le_of_ble_eq_true rfl) ?_
  intro k hkl hnl C hR hin_
  subst hkl
  show G k E 0 0 0 [some (.ref r), none] [] [(r, .inr (6, [.ref tx, .ref p, .int (nI le), .int (nI a), .int (nI it), .int (-1), .int (bI (0 ≤ co 0)), .int (bI (0 ≤ co 1)), .int (bI (0 ≤ co 2))])), aC E tx 100 tf, (p, .inr (5, [.ref ph, .ref pd, .ref pm, .int (nI n), .int (lgC co), .int (sfC co), .int (dgC co)])), aI E ph 9 hi, aI E pd 9 de, aI E pm 9 pma]
  refine g_aload_n C dX6_readItem_0 rfl ?_
  refine g_get C kwX6 0 rfl rfl 0 (by decide) kfX6_9 rfl dX6_readItem_1 ?_
  refine g_aload_n C dX6_readItem_4 rfl ?_
  refine g_get C kwX6 0 rfl rfl 3 (by decide) kfX6_29 rfl dX6_readItem_5 ?_
  refine g_cald C 1 a rfl (rfl) (by omega) (by decide) dX6_readItem_8 ?_
  refine g_istore_n (lv' := [some (.ref r), some (.int (tf a))]) C dX6_readItem_9 (hnl 1 (by decide)) rfl rfl ?_
  refine g_aload_n C dX6_readItem_10 rfl ?_
  refine g_iload_n C dX6_readItem_11 rfl ?_
  refine g_callV C (c_X6_mayBegin k.l E r tx p le (nI a) (nI it) (-1) co ph pd pm n (lgC co) (sfC co) (dgC co) (tf a) (by first | assumption | omega)) kmX6_55 kiX6_mayBegin ksX6_mayBegin knX6 kcX6_mayBegin ⟨rfl, rfl⟩ ⟨rfl, kdX6_mayBegin⟩ ⟨by decide, by decide⟩ ⟨by decide, by decide⟩ [0, 2] [1, 3, 4, 5] rfl (wr := [aC E tx 100 tf, aI E ph 9 hi, aI E pd 9 de, aI E pm 9 pma]) rfl (by decide +kernel) (by decide +kernel) (by decide +kernel) 0 6 rfl rfl rfl (As := [.int (tf a)]) (rest := []) rfl (Nat.le_of_ble_eq_true rfl) dX6_readItem_12 (fun rv_ rw_ hp_ => ?_)
  obtain ⟨rfl, rfl⟩ := hp_
  refine g_rep [4, 0, 5, 1, 2, 3] (ws' := [(r, .inr (6, [.ref tx, .ref p, .int (nI le), .int (nI a), .int (nI it), .int (-1), .int (bI (0 ≤ co 0)), .int (bI (0 ≤ co 1)), .int (bI (0 ≤ co 2))])), aC E tx 100 tf, (p, .inr (5, [.ref ph, .ref pd, .ref pm, .int (nI n), .int (lgC co), .int (sfC co), .int (dgC co)])), aI E ph 9 hi, aI E pd 9 de, aI E pm 9 pma]) (st' := [.int (bI (mayB (tf a) n co))]) (n' := 0) (z' := 0) (pc' := 15) rfl rfl rfl rfl (by decide +kernel) rfl ?_
  refine g_if_ne (tgt := 27) C dX6_readItem_15 (by decide) (fun c15 => ?_) (fun c15 => ?_)
  · skip
    have hmb := bI_1 c15
    refine g_aload_n C dX6_readItem_27 rfl ?_
    refine g_dup C dX6_readItem_28 rfl ?_
    refine g_get C kwX6 0 rfl rfl 3 (by decide) kfX6_29 rfl dX6_readItem_29 ?_
    refine g_iconst (v := 1) C dX6_readItem_32 (by decide) ?_
    refine g_iadd C dX6_readItem_33 ?_
    refine g_topi (v := nI (a + 1)) (nI_1 a) ?_
    refine g_put (ws' := [(r, .inr (6, [.ref tx, .ref p, .int (nI le), .int (nI (a + 1)), .int (nI it), .int (-1), .int (bI (0 ≤ co 0)), .int (bI (0 ≤ co 1)), .int (bI (0 ≤ co 2))])), aC E tx 100 tf, (p, .inr (5, [.ref ph, .ref pd, .ref pm, .int (nI n), .int (lgC co), .int (sfC co), .int (dgC co)])), aI E ph 9 hi, aI E pd 9 de, aI E pm 9 pma]) C kwX6 tyX6 tyX6_ok nmX6 0 rfl rfl 3 (by decide) kfX6_29 rfl rfl rfl (Nat.le_of_ble_eq_true rfl) rfl dX6_readItem_34 ?_
    refine g_iload_n C dX6_readItem_37 rfl ?_
    by_cases h102 : tf a = 102
    · skip
      refine g_lookup (off := 63) (tgt := 101) C dX6_readItem_38 (by decide) (by rw [h102]; decide) (by decide) ?_
      refine g_aload_n C dX6_readItem_101 rfl ?_
      refine g_get C kwX6 0 rfl rfl 1 (by decide) kfX6_18 rfl dX6_readItem_102 ?_
      refine g_aload_n C dX6_readItem_105 rfl ?_
      refine g_iconst (v := 1) C dX6_readItem_106 (by decide) ?_
      refine g_bipush (v := 9) C dX6_readItem_107 (by decide) ?_
      refine g_callV C (c_X6_number k.l E r tx p le (a + 1) (nI it) (bI (0 ≤ co 0)) (bI (0 ≤ co 1)) (bI (0 ≤ co 2)) tf 1 9 (by first | assumption | omega) (ha) (by decide)) kmX6_62 kiX6_number ksX6_number knX6 kcX6_number ⟨rfl, rfl⟩ ⟨rfl, kdX6_number⟩ ⟨by decide, by decide⟩ ⟨by decide, by decide⟩ [0, 1] [2, 3, 4, 5] rfl (wr := [(p, .inr (5, [.ref ph, .ref pd, .ref pm, .int (nI n), .int (lgC co), .int (sfC co), .int (dgC co)])), aI E ph 9 hi, aI E pd 9 de, aI E pm 9 pma]) rfl (by decide +kernel) (by decide +kernel) (by decide +kernel) 0 6 rfl rfl rfl (As := [.int 1, .int 9]) (rest := [.ref p]) rfl (Nat.le_of_ble_eq_true rfl) dX6_readItem_109 (fun rv_ rw_ hp_ => ?_)
      obtain ⟨val_1, at2_2, fa2_3, rfl, rfl, hok_4, hno_5⟩ := hp_
      refine g_rep [4, 5, 0, 1, 2, 3] (ws' := [(r, .inr (6, [.ref tx, .ref p, .int (nI le), .int at2_2, .int (nI it), .int fa2_3, .int (bI (0 ≤ co 0)), .int (bI (0 ≤ co 1)), .int (bI (0 ≤ co 2))])), aC E tx 100 tf, (p, .inr (5, [.ref ph, .ref pd, .ref pm, .int (nI n), .int (lgC co), .int (sfC co), .int (dgC co)])), aI E ph 9 hi, aI E pd 9 de, aI E pm 9 pma]) (st' := [.int val_1, .ref p]) (n' := 0) (z' := 0) (pc' := 112) rfl rfl rfl rfl (by decide +kernel) rfl ?_
      have q1 := tk_le (tf := tf) (le := le) (p := a + 1) ha
      by_cases kk : numOK tf le (tk tf le (a + 1)) 1 9
      · skip
        obtain ⟨rfl, rfl, rfl⟩ := hok_4 kk
        have q4 : tk tf le (a + 1) < le := kk.1
        refine g_put (ws' := [(r, .inr (6, [.ref tx, .ref p, .int (nI le), .int (nI (tk tf le (a + 1) + 1)), .int (nI it), .int (-1), .int (bI (0 ≤ co 0)), .int (bI (0 ≤ co 1)), .int (bI (0 ≤ co 2))])), aC E tx 100 tf, (p, .inr (5, [.ref ph, .ref pd, .ref pm, .int (nI n), .int (lgC co), .int (tf (tk tf le (a + 1)) - 48), .int (dgC co)])), aI E ph 9 hi, aI E pd 9 de, aI E pm 9 pma]) C kwX5 tyX5 tyX5_ok nmX5 2 rfl rfl 5 (by decide) kfX6_69 rfl rfl rfl (Nat.le_of_ble_eq_true rfl) rfl dX6_readItem_112 ?_
        refine g_aload_n C dX6_readItem_115 rfl ?_
        refine g_iconst (v := 1) C dX6_readItem_116 (by decide) ?_
        refine g_put (ws' := [(r, .inr (6, [.ref tx, .ref p, .int (nI le), .int (nI (tk tf le (a + 1) + 1)), .int (nI it), .int (-1), .int (bI (0 ≤ co 0)), .int 1, .int (bI (0 ≤ co 2))])), aC E tx 100 tf, (p, .inr (5, [.ref ph, .ref pd, .ref pm, .int (nI n), .int (lgC co), .int (tf (tk tf le (a + 1)) - 48), .int (dgC co)])), aI E ph 9 hi, aI E pd 9 de, aI E pm 9 pma]) C kwX6 tyX6 tyX6_ok nmX6 0 rfl rfl 7 (by decide) kfX6_42 rfl rfl rfl (Nat.le_of_ble_eq_true rfl) rfl dX6_readItem_117 ?_
        refine g_goto (tgt := 141) C dX6_readItem_120 (by decide) ?_
        refine g_aload_n C dX6_readItem_141 rfl ?_
        refine g_callV C (c_X6_endItem k.l E r tx p le (tk tf le (a + 1) + 1) it (bI (0 ≤ co 0)) 1 (bI (0 ≤ co 2)) tf (by first | assumption | omega) (by omega)) kmX6_75 kiX6_endItem ksX6_endItem knX6 kcX6_endItem ⟨rfl, rfl⟩ ⟨rfl, kdX6_endItem⟩ ⟨by decide, by decide⟩ ⟨by decide, by decide⟩ [0, 1] [2, 3, 4, 5] rfl (wr := [(p, .inr (5, [.ref ph, .ref pd, .ref pm, .int (nI n), .int (lgC co), .int (tf (tk tf le (a + 1)) - 48), .int (dgC co)])), aI E ph 9 hi, aI E pd 9 de, aI E pm 9 pma]) rfl (by decide +kernel) (by decide +kernel) (by decide +kernel) 0 6 rfl rfl rfl (As := []) (rest := []) rfl (Nat.le_of_ble_eq_true rfl) dX6_readItem_142 (fun rv_ rw_ hp_ => ?_)
        obtain ⟨at2_6, it2_7, fa2_8, rfl, rfl, hok_9, hno_10⟩ := hp_
        refine g_rep [4, 5, 0, 1, 2, 3] (ws' := [(r, .inr (6, [.ref tx, .ref p, .int (nI le), .int at2_6, .int it2_7, .int fa2_8, .int (bI (0 ≤ co 0)), .int 1, .int (bI (0 ≤ co 2))])), aC E tx 100 tf, (p, .inr (5, [.ref ph, .ref pd, .ref pm, .int (nI n), .int (lgC co), .int (tf (tk tf le (a + 1)) - 48), .int (dgC co)])), aI E ph 9 hi, aI E pd 9 de, aI E pm 9 pma]) (st' := []) (n' := 0) (z' := 0) (pc' := 145) rfl rfl rfl rfl (by decide +kernel) rfl ?_
        by_cases kq : tk tf le (tk tf le (a + 1) + 1) < le ∧ tf (tk tf le (tk tf le (a + 1) + 1)) = 59
        · skip
          obtain ⟨rfl, rfl, rfl⟩ := hok_9 kq
          have hI : itemF tf le a (n, hi, de, pma, co) = .inr (tk tf le (tk tf le (a + 1) + 1) + 1, (n, hi, de, pma, upd co 1 (tf (tk tf le (a + 1)) - 48))) := by unfold itemF; rw [if_pos hmb, if_neg (fun q => absurd (h102.symm.trans q) (by decide)), if_neg (fun q => absurd (h102.symm.trans q) (by decide)), if_pos h102]; unfold coilF; rw [if_pos kk]; unfold endF; rw [if_pos kq]
          exact g_vret C hR (⟨_, _, _, _, _, _, _, _, _, _, _, _, _, rfl, rfl, fun e h => (by rw [hI] at h; cases h), fun p' s' h => (by rw [hI] at h; cases h; exact ⟨rfl, rfl, rfl, rfl, rfl, rfl, rfl, rfl, (if_neg (Int32.not_lt.mpr (Int32.le_trans (by decide) kk.2.2.2.1))).symm, rfl, rfl, (bI_t (Int32.le_trans (by decide) kk.2.2.2.1)).symm, rfl⟩)⟩) dX6_readItem_145
        · skip
          have eq_ := hno_10 kq
          subst eq_
          have hI : itemF tf le a (n, hi, de, pma, co) = .inl (tk tf le (tk tf le (a + 1) + 1)) := by unfold itemF; rw [if_pos hmb, if_neg (fun q => absurd (h102.symm.trans q) (by decide)), if_neg (fun q => absurd (h102.symm.trans q) (by decide)), if_pos h102]; unfold coilF; rw [if_pos kk]; unfold endF; rw [if_neg kq]
          exact g_vret C hR (⟨_, _, _, _, _, _, _, _, _, _, _, _, _, rfl, rfl, fun e h => (by rw [hI] at h; cases h; rfl), fun p' s' h => (by rw [hI] at h; cases h)⟩) dX6_readItem_145
      · skip
        have ez := hno_5 kk
        subst ez
        have hI : itemF tf le a (n, hi, de, pma, co) = .inl (tk tf le (a + 1)) := by unfold itemF; rw [if_pos hmb, if_neg (fun q => absurd (h102.symm.trans q) (by decide)), if_neg (fun q => absurd (h102.symm.trans q) (by decide)), if_pos h102]; unfold coilF; rw [if_neg kk]
        refine g_put (ws' := [(r, .inr (6, [.ref tx, .ref p, .int (nI le), .int at2_2, .int (nI it), .int (nI (tk tf le (a + 1))), .int (bI (0 ≤ co 0)), .int (bI (0 ≤ co 1)), .int (bI (0 ≤ co 2))])), aC E tx 100 tf, (p, .inr (5, [.ref ph, .ref pd, .ref pm, .int (nI n), .int (lgC co), .int val_1, .int (dgC co)])), aI E ph 9 hi, aI E pd 9 de, aI E pm 9 pma]) C kwX5 tyX5 tyX5_ok nmX5 2 rfl rfl 5 (by decide) kfX6_69 rfl rfl rfl (Nat.le_of_ble_eq_true rfl) rfl dX6_readItem_112 ?_
        refine g_aload_n C dX6_readItem_115 rfl ?_
        refine g_iconst (v := 1) C dX6_readItem_116 (by decide) ?_
        refine g_put (ws' := [(r, .inr (6, [.ref tx, .ref p, .int (nI le), .int at2_2, .int (nI it), .int (nI (tk tf le (a + 1))), .int (bI (0 ≤ co 0)), .int 1, .int (bI (0 ≤ co 2))])), aC E tx 100 tf, (p, .inr (5, [.ref ph, .ref pd, .ref pm, .int (nI n), .int (lgC co), .int val_1, .int (dgC co)])), aI E ph 9 hi, aI E pd 9 de, aI E pm 9 pma]) C kwX6 tyX6 tyX6_ok nmX6 0 rfl rfl 7 (by decide) kfX6_42 rfl rfl rfl (Nat.le_of_ble_eq_true rfl) rfl dX6_readItem_117 ?_
        refine g_goto (tgt := 141) C dX6_readItem_120 (by decide) ?_
        refine g_aload_n C dX6_readItem_141 rfl ?_
        refine g_callV C (c_X6_endF k.l E r tx p le at2_2 (nI it) (tk tf le (a + 1)) (bI (0 ≤ co 0)) 1 (bI (0 ≤ co 2)) (by omega)) kmX6_75 kiX6_endItem ksX6_endItem knX6 kcX6_endItem ⟨rfl, rfl⟩ ⟨rfl, kdX6_endItem⟩ ⟨by decide, by decide⟩ ⟨by decide, by decide⟩ [0] [1, 2, 3, 4, 5] rfl (wr := [aC E tx 100 tf, (p, .inr (5, [.ref ph, .ref pd, .ref pm, .int (nI n), .int (lgC co), .int val_1, .int (dgC co)])), aI E ph 9 hi, aI E pd 9 de, aI E pm 9 pma]) rfl (by decide +kernel) (by decide +kernel) (by decide +kernel) 0 6 rfl rfl rfl (As := []) (rest := []) rfl (Nat.le_of_ble_eq_true rfl) dX6_readItem_142 (fun rv_ rw_ hp_ => ?_)
        obtain ⟨rfl, rfl⟩ := hp_
        refine g_rep [5, 0, 1, 2, 3, 4] (ws' := [(r, .inr (6, [.ref tx, .ref p, .int (nI le), .int at2_2, .int (nI it), .int (nI (tk tf le (a + 1))), .int (bI (0 ≤ co 0)), .int 1, .int (bI (0 ≤ co 2))])), aC E tx 100 tf, (p, .inr (5, [.ref ph, .ref pd, .ref pm, .int (nI n), .int (lgC co), .int val_1, .int (dgC co)])), aI E ph 9 hi, aI E pd 9 de, aI E pm 9 pma]) (st' := []) (n' := 0) (z' := 0) (pc' := 145) rfl rfl rfl rfl (by decide +kernel) rfl ?_
        exact g_vret C hR (⟨_, _, _, _, _, _, _, _, _, _, _, _, _, rfl, rfl, fun e h => (by rw [hI] at h; cases h; rfl), fun p' s' h => (by rw [hI] at h; cases h)⟩) dX6_readItem_145
    · skip
      by_cases h108 : tf a = 108
      · skip
        refine g_lookup (off := 41) (tgt := 79) C dX6_readItem_38 (by decide) (by rw [h108]; decide) (by decide) ?_
        refine g_aload_n C dX6_readItem_79 rfl ?_
        refine g_get C kwX6 0 rfl rfl 1 (by decide) kfX6_18 rfl dX6_readItem_80 ?_
        refine g_aload_n C dX6_readItem_83 rfl ?_
        refine g_iconst (v := 0) C dX6_readItem_84 (by decide) ?_
        refine g_bipush (v := 9) C dX6_readItem_85 (by decide) ?_
        refine g_callV C (c_X6_number k.l E r tx p le (a + 1) (nI it) (bI (0 ≤ co 0)) (bI (0 ≤ co 1)) (bI (0 ≤ co 2)) tf 0 9 (by first | assumption | omega) (ha) (by decide)) kmX6_62 kiX6_number ksX6_number knX6 kcX6_number ⟨rfl, rfl⟩ ⟨rfl, kdX6_number⟩ ⟨by decide, by decide⟩ ⟨by decide, by decide⟩ [0, 1] [2, 3, 4, 5] rfl (wr := [(p, .inr (5, [.ref ph, .ref pd, .ref pm, .int (nI n), .int (lgC co), .int (sfC co), .int (dgC co)])), aI E ph 9 hi, aI E pd 9 de, aI E pm 9 pma]) rfl (by decide +kernel) (by decide +kernel) (by decide +kernel) 0 6 rfl rfl rfl (As := [.int 0, .int 9]) (rest := [.ref p]) rfl (Nat.le_of_ble_eq_true rfl) dX6_readItem_87 (fun rv_ rw_ hp_ => ?_)
        obtain ⟨val_11, at2_12, fa2_13, rfl, rfl, hok_14, hno_15⟩ := hp_
        refine g_rep [4, 5, 0, 1, 2, 3] (ws' := [(r, .inr (6, [.ref tx, .ref p, .int (nI le), .int at2_12, .int (nI it), .int fa2_13, .int (bI (0 ≤ co 0)), .int (bI (0 ≤ co 1)), .int (bI (0 ≤ co 2))])), aC E tx 100 tf, (p, .inr (5, [.ref ph, .ref pd, .ref pm, .int (nI n), .int (lgC co), .int (sfC co), .int (dgC co)])), aI E ph 9 hi, aI E pd 9 de, aI E pm 9 pma]) (st' := [.int val_11, .ref p]) (n' := 0) (z' := 0) (pc' := 90) rfl rfl rfl rfl (by decide +kernel) rfl ?_
        have q1 := tk_le (tf := tf) (le := le) (p := a + 1) ha
        by_cases kk : numOK tf le (tk tf le (a + 1)) 0 9
        · skip
          obtain ⟨rfl, rfl, rfl⟩ := hok_14 kk
          have q4 : tk tf le (a + 1) < le := kk.1
          refine g_put (ws' := [(r, .inr (6, [.ref tx, .ref p, .int (nI le), .int (nI (tk tf le (a + 1) + 1)), .int (nI it), .int (-1), .int (bI (0 ≤ co 0)), .int (bI (0 ≤ co 1)), .int (bI (0 ≤ co 2))])), aC E tx 100 tf, (p, .inr (5, [.ref ph, .ref pd, .ref pm, .int (nI n), .int (tf (tk tf le (a + 1)) - 48), .int (sfC co), .int (dgC co)])), aI E ph 9 hi, aI E pd 9 de, aI E pm 9 pma]) C kwX5 tyX5 tyX5_ok nmX5 2 rfl rfl 4 (by decide) kfX6_66 rfl rfl rfl (Nat.le_of_ble_eq_true rfl) rfl dX6_readItem_90 ?_
          refine g_aload_n C dX6_readItem_93 rfl ?_
          refine g_iconst (v := 1) C dX6_readItem_94 (by decide) ?_
          refine g_put (ws' := [(r, .inr (6, [.ref tx, .ref p, .int (nI le), .int (nI (tk tf le (a + 1) + 1)), .int (nI it), .int (-1), .int 1, .int (bI (0 ≤ co 1)), .int (bI (0 ≤ co 2))])), aC E tx 100 tf, (p, .inr (5, [.ref ph, .ref pd, .ref pm, .int (nI n), .int (tf (tk tf le (a + 1)) - 48), .int (sfC co), .int (dgC co)])), aI E ph 9 hi, aI E pd 9 de, aI E pm 9 pma]) C kwX6 tyX6 tyX6_ok nmX6 0 rfl rfl 6 (by decide) kfX6_38 rfl rfl rfl (Nat.le_of_ble_eq_true rfl) rfl dX6_readItem_95 ?_
          refine g_goto (tgt := 141) C dX6_readItem_98 (by decide) ?_
          refine g_aload_n C dX6_readItem_141 rfl ?_
          refine g_callV C (c_X6_endItem k.l E r tx p le (tk tf le (a + 1) + 1) it 1 (bI (0 ≤ co 1)) (bI (0 ≤ co 2)) tf (by first | assumption | omega) (by omega)) kmX6_75 kiX6_endItem ksX6_endItem knX6 kcX6_endItem ⟨rfl, rfl⟩ ⟨rfl, kdX6_endItem⟩ ⟨by decide, by decide⟩ ⟨by decide, by decide⟩ [0, 1] [2, 3, 4, 5] rfl (wr := [(p, .inr (5, [.ref ph, .ref pd, .ref pm, .int (nI n), .int (tf (tk tf le (a + 1)) - 48), .int (sfC co), .int (dgC co)])), aI E ph 9 hi, aI E pd 9 de, aI E pm 9 pma]) rfl (by decide +kernel) (by decide +kernel) (by decide +kernel) 0 6 rfl rfl rfl (As := []) (rest := []) rfl (Nat.le_of_ble_eq_true rfl) dX6_readItem_142 (fun rv_ rw_ hp_ => ?_)
          obtain ⟨at2_16, it2_17, fa2_18, rfl, rfl, hok_19, hno_20⟩ := hp_
          refine g_rep [4, 5, 0, 1, 2, 3] (ws' := [(r, .inr (6, [.ref tx, .ref p, .int (nI le), .int at2_16, .int it2_17, .int fa2_18, .int 1, .int (bI (0 ≤ co 1)), .int (bI (0 ≤ co 2))])), aC E tx 100 tf, (p, .inr (5, [.ref ph, .ref pd, .ref pm, .int (nI n), .int (tf (tk tf le (a + 1)) - 48), .int (sfC co), .int (dgC co)])), aI E ph 9 hi, aI E pd 9 de, aI E pm 9 pma]) (st' := []) (n' := 0) (z' := 0) (pc' := 145) rfl rfl rfl rfl (by decide +kernel) rfl ?_
          by_cases kq : tk tf le (tk tf le (a + 1) + 1) < le ∧ tf (tk tf le (tk tf le (a + 1) + 1)) = 59
          · skip
            obtain ⟨rfl, rfl, rfl⟩ := hok_19 kq
            have hI : itemF tf le a (n, hi, de, pma, co) = .inr (tk tf le (tk tf le (a + 1) + 1) + 1, (n, hi, de, pma, upd co 0 (tf (tk tf le (a + 1)) - 48))) := by unfold itemF; rw [if_pos hmb, if_neg (fun q => absurd (h108.symm.trans q) (by decide)), if_pos h108]; unfold coilF; rw [if_pos kk]; unfold endF; rw [if_pos kq]
            exact g_vret C hR (⟨_, _, _, _, _, _, _, _, _, _, _, _, _, rfl, rfl, fun e h => (by rw [hI] at h; cases h), fun p' s' h => (by rw [hI] at h; cases h; exact ⟨rfl, rfl, rfl, rfl, rfl, rfl, rfl, (if_neg (Int32.not_lt.mpr kk.2.2.2.1)).symm, rfl, rfl, (bI_t kk.2.2.2.1).symm, rfl, rfl⟩)⟩) dX6_readItem_145
          · skip
            have eq_ := hno_20 kq
            subst eq_
            have hI : itemF tf le a (n, hi, de, pma, co) = .inl (tk tf le (tk tf le (a + 1) + 1)) := by unfold itemF; rw [if_pos hmb, if_neg (fun q => absurd (h108.symm.trans q) (by decide)), if_pos h108]; unfold coilF; rw [if_pos kk]; unfold endF; rw [if_neg kq]
            exact g_vret C hR (⟨_, _, _, _, _, _, _, _, _, _, _, _, _, rfl, rfl, fun e h => (by rw [hI] at h; cases h; rfl), fun p' s' h => (by rw [hI] at h; cases h)⟩) dX6_readItem_145
        · skip
          have ez := hno_15 kk
          subst ez
          have hI : itemF tf le a (n, hi, de, pma, co) = .inl (tk tf le (a + 1)) := by unfold itemF; rw [if_pos hmb, if_neg (fun q => absurd (h108.symm.trans q) (by decide)), if_pos h108]; unfold coilF; rw [if_neg kk]
          refine g_put (ws' := [(r, .inr (6, [.ref tx, .ref p, .int (nI le), .int at2_12, .int (nI it), .int (nI (tk tf le (a + 1))), .int (bI (0 ≤ co 0)), .int (bI (0 ≤ co 1)), .int (bI (0 ≤ co 2))])), aC E tx 100 tf, (p, .inr (5, [.ref ph, .ref pd, .ref pm, .int (nI n), .int val_11, .int (sfC co), .int (dgC co)])), aI E ph 9 hi, aI E pd 9 de, aI E pm 9 pma]) C kwX5 tyX5 tyX5_ok nmX5 2 rfl rfl 4 (by decide) kfX6_66 rfl rfl rfl (Nat.le_of_ble_eq_true rfl) rfl dX6_readItem_90 ?_
          refine g_aload_n C dX6_readItem_93 rfl ?_
          refine g_iconst (v := 1) C dX6_readItem_94 (by decide) ?_
          refine g_put (ws' := [(r, .inr (6, [.ref tx, .ref p, .int (nI le), .int at2_12, .int (nI it), .int (nI (tk tf le (a + 1))), .int 1, .int (bI (0 ≤ co 1)), .int (bI (0 ≤ co 2))])), aC E tx 100 tf, (p, .inr (5, [.ref ph, .ref pd, .ref pm, .int (nI n), .int val_11, .int (sfC co), .int (dgC co)])), aI E ph 9 hi, aI E pd 9 de, aI E pm 9 pma]) C kwX6 tyX6 tyX6_ok nmX6 0 rfl rfl 6 (by decide) kfX6_38 rfl rfl rfl (Nat.le_of_ble_eq_true rfl) rfl dX6_readItem_95 ?_
          refine g_goto (tgt := 141) C dX6_readItem_98 (by decide) ?_
          refine g_aload_n C dX6_readItem_141 rfl ?_
          refine g_callV C (c_X6_endF k.l E r tx p le at2_12 (nI it) (tk tf le (a + 1)) 1 (bI (0 ≤ co 1)) (bI (0 ≤ co 2)) (by omega)) kmX6_75 kiX6_endItem ksX6_endItem knX6 kcX6_endItem ⟨rfl, rfl⟩ ⟨rfl, kdX6_endItem⟩ ⟨by decide, by decide⟩ ⟨by decide, by decide⟩ [0] [1, 2, 3, 4, 5] rfl (wr := [aC E tx 100 tf, (p, .inr (5, [.ref ph, .ref pd, .ref pm, .int (nI n), .int val_11, .int (sfC co), .int (dgC co)])), aI E ph 9 hi, aI E pd 9 de, aI E pm 9 pma]) rfl (by decide +kernel) (by decide +kernel) (by decide +kernel) 0 6 rfl rfl rfl (As := []) (rest := []) rfl (Nat.le_of_ble_eq_true rfl) dX6_readItem_142 (fun rv_ rw_ hp_ => ?_)
          obtain ⟨rfl, rfl⟩ := hp_
          refine g_rep [5, 0, 1, 2, 3, 4] (ws' := [(r, .inr (6, [.ref tx, .ref p, .int (nI le), .int at2_12, .int (nI it), .int (nI (tk tf le (a + 1))), .int 1, .int (bI (0 ≤ co 1)), .int (bI (0 ≤ co 2))])), aC E tx 100 tf, (p, .inr (5, [.ref ph, .ref pd, .ref pm, .int (nI n), .int val_11, .int (sfC co), .int (dgC co)])), aI E ph 9 hi, aI E pd 9 de, aI E pm 9 pma]) (st' := []) (n' := 0) (z' := 0) (pc' := 145) rfl rfl rfl rfl (by decide +kernel) rfl ?_
          exact g_vret C hR (⟨_, _, _, _, _, _, _, _, _, _, _, _, _, rfl, rfl, fun e h => (by rw [hI] at h; cases h; rfl), fun p' s' h => (by rw [hI] at h; cases h)⟩) dX6_readItem_145
      · skip
        by_cases h115 : tf a = 115
        · skip
          refine g_lookup (off := 34) (tgt := 72) C dX6_readItem_38 (by decide) (by rw [h115]; decide) (by decide) ?_
          refine g_aload_n C dX6_readItem_72 rfl ?_
          refine g_callV C (c_X6_readStep k.l E r tx p le (a + 1) (nI it) (bI (0 ≤ co 0)) (bI (0 ≤ co 1)) (bI (0 ≤ co 2)) tf ph pd pm n (lgC co) (sfC co) (dgC co) hi de pma (by first | assumption | omega) (ha) ((mb115 h115).mp hmb)) kmX6_59 kiX6_readStep ksX6_readStep knX6 kcX6_readStep ⟨rfl, rfl⟩ ⟨rfl, kdX6_readStep⟩ ⟨by decide, by decide⟩ ⟨by decide, by decide⟩ [0, 1, 2, 3, 4, 5] [] rfl (wr := []) rfl (by decide +kernel) (by decide +kernel) (by decide +kernel) 0 6 rfl rfl rfl (As := []) (rest := []) rfl (Nat.le_of_ble_eq_true rfl) dX6_readItem_73 (fun rv_ rw_ hp_ => ?_)
          obtain ⟨at2_21, fa2_22, n2_23, hi2_24, de2_25, pma2_26, rfl, rfl, h1_27, h2_28, h3_29, h4_30⟩ := hp_
          refine g_rep [0, 1, 2, 3, 4, 5] (ws' := [(r, .inr (6, [.ref tx, .ref p, .int (nI le), .int at2_21, .int (nI it), .int fa2_22, .int (bI (0 ≤ co 0)), .int (bI (0 ≤ co 1)), .int (bI (0 ≤ co 2))])), aC E tx 100 tf, (p, .inr (5, [.ref ph, .ref pd, .ref pm, .int n2_23, .int (lgC co), .int (sfC co), .int (dgC co)])), aI E ph 9 hi2_24, aI E pd 9 de2_25, aI E pm 9 pma2_26]) (st' := []) (n' := 0) (z' := 0) (pc' := 76) rfl rfl rfl rfl (by decide +kernel) rfl ?_
          have q1 := tk_le (tf := tf) (le := le) (p := a + 1) ha
          by_cases k1 : numOK tf le (tk tf le (a + 1)) 1 9
          · skip
            have q2 := tk_le (tf := tf) (le := le) (p := tk tf le (a + 1) + 1) k1.1
            by_cases k2 : numOK tf le (tk tf le (tk tf le (a + 1) + 1)) 1 9
            · skip
              have q3 := tk_le (tf := tf) (le := le) (p := tk tf le (tk tf le (a + 1) + 1) + 1) k2.1
              by_cases k3 : numOK tf le (tk tf le (tk tf le (tk tf le (a + 1) + 1) + 1)) 0 5
              · skip
                obtain ⟨rfl, rfl, rfl, rfl, rfl, rfl⟩ := h4_30 k1 k2 k3
                have q4 : tk tf le (tk tf le (tk tf le (a + 1) + 1) + 1) < le := k3.1
                refine g_goto (tgt := 141) C dX6_readItem_76 (by decide) ?_
                refine g_aload_n C dX6_readItem_141 rfl ?_
                refine g_callV C (c_X6_endItem k.l E r tx p le (tk tf le (tk tf le (tk tf le (a + 1) + 1) + 1) + 1) it (bI (0 ≤ co 0)) (bI (0 ≤ co 1)) (bI (0 ≤ co 2)) tf (by first | assumption | omega) (by omega)) kmX6_75 kiX6_endItem ksX6_endItem knX6 kcX6_endItem ⟨rfl, rfl⟩ ⟨rfl, kdX6_endItem⟩ ⟨by decide, by decide⟩ ⟨by decide, by decide⟩ [0, 1] [2, 3, 4, 5] rfl (wr := [(p, .inr (5, [.ref ph, .ref pd, .ref pm, .int (nI (n + 1)), .int (lgC co), .int (sfC co), .int (dgC co)])), aI E ph 9 (upd hi n (tf (tk tf le (a + 1)) - 48)), aI E pd 9 (upd de n (tf (tk tf le (tk tf le (a + 1) + 1)) - 48)), aI E pm 9 (upd pma n (tf (tk tf le (tk tf le (tk tf le (a + 1) + 1) + 1)) - 48))]) rfl (by decide +kernel) (by decide +kernel) (by decide +kernel) 0 6 rfl rfl rfl (As := []) (rest := []) rfl (Nat.le_of_ble_eq_true rfl) dX6_readItem_142 (fun rv_ rw_ hp_ => ?_)
                obtain ⟨at2_31, it2_32, fa2_33, rfl, rfl, hok_34, hno_35⟩ := hp_
                refine g_rep [4, 5, 0, 1, 2, 3] (ws' := [(r, .inr (6, [.ref tx, .ref p, .int (nI le), .int at2_31, .int it2_32, .int fa2_33, .int (bI (0 ≤ co 0)), .int (bI (0 ≤ co 1)), .int (bI (0 ≤ co 2))])), aC E tx 100 tf, (p, .inr (5, [.ref ph, .ref pd, .ref pm, .int (nI (n + 1)), .int (lgC co), .int (sfC co), .int (dgC co)])), aI E ph 9 (upd hi n (tf (tk tf le (a + 1)) - 48)), aI E pd 9 (upd de n (tf (tk tf le (tk tf le (a + 1) + 1)) - 48)), aI E pm 9 (upd pma n (tf (tk tf le (tk tf le (tk tf le (a + 1) + 1) + 1)) - 48))]) (st' := []) (n' := 0) (z' := 0) (pc' := 145) rfl rfl rfl rfl (by decide +kernel) rfl ?_
                by_cases kq : tk tf le (tk tf le (tk tf le (tk tf le (a + 1) + 1) + 1) + 1) < le ∧ tf (tk tf le (tk tf le (tk tf le (tk tf le (a + 1) + 1) + 1) + 1)) = 59
                · skip
                  obtain ⟨rfl, rfl, rfl⟩ := hok_34 kq
                  have hI : itemF tf le a (n, hi, de, pma, co) = .inr (tk tf le (tk tf le (tk tf le (tk tf le (a + 1) + 1) + 1) + 1) + 1, (n + 1, upd hi n (tf (tk tf le (a + 1)) - 48), upd de n (tf (tk tf le (tk tf le (a + 1) + 1)) - 48), upd pma n (tf (tk tf le (tk tf le (tk tf le (a + 1) + 1) + 1)) - 48), co)) := by unfold itemF; rw [if_pos hmb, if_pos h115]; unfold stepF; rw [if_pos k1, if_pos k2, if_pos k3]; unfold endF; rw [if_pos kq]
                  exact g_vret C hR (⟨_, _, _, _, _, _, _, _, _, _, _, _, _, rfl, rfl, fun e h => (by rw [hI] at h; cases h), fun p' s' h => (by rw [hI] at h; cases h; exact ⟨rfl, rfl, rfl, rfl, rfl, rfl, rfl, rfl, rfl, rfl, rfl, rfl, rfl⟩)⟩) dX6_readItem_145
                · skip
                  have eq_ := hno_35 kq
                  subst eq_
                  have hI : itemF tf le a (n, hi, de, pma, co) = .inl (tk tf le (tk tf le (tk tf le (tk tf le (a + 1) + 1) + 1) + 1)) := by unfold itemF; rw [if_pos hmb, if_pos h115]; unfold stepF; rw [if_pos k1, if_pos k2, if_pos k3]; unfold endF; rw [if_neg kq]
                  exact g_vret C hR (⟨_, _, _, _, _, _, _, _, _, _, _, _, _, rfl, rfl, fun e h => (by rw [hI] at h; cases h; rfl), fun p' s' h => (by rw [hI] at h; cases h)⟩) dX6_readItem_145
              · skip
                have ez := h3_29 k1 k2 k3
                subst ez
                have hI : itemF tf le a (n, hi, de, pma, co) = .inl (tk tf le (tk tf le (tk tf le (a + 1) + 1) + 1)) := by unfold itemF; rw [if_pos hmb, if_pos h115]; unfold stepF; rw [if_pos k1, if_pos k2, if_neg k3]
                refine g_goto (tgt := 141) C dX6_readItem_76 (by decide) ?_
                refine g_aload_n C dX6_readItem_141 rfl ?_
                refine g_callV C (c_X6_endF k.l E r tx p le at2_21 (nI it) (tk tf le (tk tf le (tk tf le (a + 1) + 1) + 1)) (bI (0 ≤ co 0)) (bI (0 ≤ co 1)) (bI (0 ≤ co 2)) (by omega)) kmX6_75 kiX6_endItem ksX6_endItem knX6 kcX6_endItem ⟨rfl, rfl⟩ ⟨rfl, kdX6_endItem⟩ ⟨by decide, by decide⟩ ⟨by decide, by decide⟩ [0] [1, 2, 3, 4, 5] rfl (wr := [aC E tx 100 tf, (p, .inr (5, [.ref ph, .ref pd, .ref pm, .int n2_23, .int (lgC co), .int (sfC co), .int (dgC co)])), aI E ph 9 hi2_24, aI E pd 9 de2_25, aI E pm 9 pma2_26]) rfl (by decide +kernel) (by decide +kernel) (by decide +kernel) 0 6 rfl rfl rfl (As := []) (rest := []) rfl (Nat.le_of_ble_eq_true rfl) dX6_readItem_142 (fun rv_ rw_ hp_ => ?_)
                obtain ⟨rfl, rfl⟩ := hp_
                refine g_rep [5, 0, 1, 2, 3, 4] (ws' := [(r, .inr (6, [.ref tx, .ref p, .int (nI le), .int at2_21, .int (nI it), .int (nI (tk tf le (tk tf le (tk tf le (a + 1) + 1) + 1))), .int (bI (0 ≤ co 0)), .int (bI (0 ≤ co 1)), .int (bI (0 ≤ co 2))])), aC E tx 100 tf, (p, .inr (5, [.ref ph, .ref pd, .ref pm, .int n2_23, .int (lgC co), .int (sfC co), .int (dgC co)])), aI E ph 9 hi2_24, aI E pd 9 de2_25, aI E pm 9 pma2_26]) (st' := []) (n' := 0) (z' := 0) (pc' := 145) rfl rfl rfl rfl (by decide +kernel) rfl ?_
                exact g_vret C hR (⟨_, _, _, _, _, _, _, _, _, _, _, _, _, rfl, rfl, fun e h => (by rw [hI] at h; cases h; rfl), fun p' s' h => (by rw [hI] at h; cases h)⟩) dX6_readItem_145
            · skip
              have ez := h2_28 k1 k2
              subst ez
              have hI : itemF tf le a (n, hi, de, pma, co) = .inl (tk tf le (tk tf le (a + 1) + 1)) := by unfold itemF; rw [if_pos hmb, if_pos h115]; unfold stepF; rw [if_pos k1, if_neg k2]
              refine g_goto (tgt := 141) C dX6_readItem_76 (by decide) ?_
              refine g_aload_n C dX6_readItem_141 rfl ?_
              refine g_callV C (c_X6_endF k.l E r tx p le at2_21 (nI it) (tk tf le (tk tf le (a + 1) + 1)) (bI (0 ≤ co 0)) (bI (0 ≤ co 1)) (bI (0 ≤ co 2)) (by omega)) kmX6_75 kiX6_endItem ksX6_endItem knX6 kcX6_endItem ⟨rfl, rfl⟩ ⟨rfl, kdX6_endItem⟩ ⟨by decide, by decide⟩ ⟨by decide, by decide⟩ [0] [1, 2, 3, 4, 5] rfl (wr := [aC E tx 100 tf, (p, .inr (5, [.ref ph, .ref pd, .ref pm, .int n2_23, .int (lgC co), .int (sfC co), .int (dgC co)])), aI E ph 9 hi2_24, aI E pd 9 de2_25, aI E pm 9 pma2_26]) rfl (by decide +kernel) (by decide +kernel) (by decide +kernel) 0 6 rfl rfl rfl (As := []) (rest := []) rfl (Nat.le_of_ble_eq_true rfl) dX6_readItem_142 (fun rv_ rw_ hp_ => ?_)
              obtain ⟨rfl, rfl⟩ := hp_
              refine g_rep [5, 0, 1, 2, 3, 4] (ws' := [(r, .inr (6, [.ref tx, .ref p, .int (nI le), .int at2_21, .int (nI it), .int (nI (tk tf le (tk tf le (a + 1) + 1))), .int (bI (0 ≤ co 0)), .int (bI (0 ≤ co 1)), .int (bI (0 ≤ co 2))])), aC E tx 100 tf, (p, .inr (5, [.ref ph, .ref pd, .ref pm, .int n2_23, .int (lgC co), .int (sfC co), .int (dgC co)])), aI E ph 9 hi2_24, aI E pd 9 de2_25, aI E pm 9 pma2_26]) (st' := []) (n' := 0) (z' := 0) (pc' := 145) rfl rfl rfl rfl (by decide +kernel) rfl ?_
              exact g_vret C hR (⟨_, _, _, _, _, _, _, _, _, _, _, _, _, rfl, rfl, fun e h => (by rw [hI] at h; cases h; rfl), fun p' s' h => (by rw [hI] at h; cases h)⟩) dX6_readItem_145
          · skip
            have ez := h1_27 k1
            subst ez
            have hI : itemF tf le a (n, hi, de, pma, co) = .inl (tk tf le (a + 1)) := by unfold itemF; rw [if_pos hmb, if_pos h115]; unfold stepF; rw [if_neg k1]
            refine g_goto (tgt := 141) C dX6_readItem_76 (by decide) ?_
            refine g_aload_n C dX6_readItem_141 rfl ?_
            refine g_callV C (c_X6_endF k.l E r tx p le at2_21 (nI it) (tk tf le (a + 1)) (bI (0 ≤ co 0)) (bI (0 ≤ co 1)) (bI (0 ≤ co 2)) (by omega)) kmX6_75 kiX6_endItem ksX6_endItem knX6 kcX6_endItem ⟨rfl, rfl⟩ ⟨rfl, kdX6_endItem⟩ ⟨by decide, by decide⟩ ⟨by decide, by decide⟩ [0] [1, 2, 3, 4, 5] rfl (wr := [aC E tx 100 tf, (p, .inr (5, [.ref ph, .ref pd, .ref pm, .int n2_23, .int (lgC co), .int (sfC co), .int (dgC co)])), aI E ph 9 hi2_24, aI E pd 9 de2_25, aI E pm 9 pma2_26]) rfl (by decide +kernel) (by decide +kernel) (by decide +kernel) 0 6 rfl rfl rfl (As := []) (rest := []) rfl (Nat.le_of_ble_eq_true rfl) dX6_readItem_142 (fun rv_ rw_ hp_ => ?_)
            obtain ⟨rfl, rfl⟩ := hp_
            refine g_rep [5, 0, 1, 2, 3, 4] (ws' := [(r, .inr (6, [.ref tx, .ref p, .int (nI le), .int at2_21, .int (nI it), .int (nI (tk tf le (a + 1))), .int (bI (0 ≤ co 0)), .int (bI (0 ≤ co 1)), .int (bI (0 ≤ co 2))])), aC E tx 100 tf, (p, .inr (5, [.ref ph, .ref pd, .ref pm, .int n2_23, .int (lgC co), .int (sfC co), .int (dgC co)])), aI E ph 9 hi2_24, aI E pd 9 de2_25, aI E pm 9 pma2_26]) (st' := []) (n' := 0) (z' := 0) (pc' := 145) rfl rfl rfl rfl (by decide +kernel) rfl ?_
            exact g_vret C hR (⟨_, _, _, _, _, _, _, _, _, _, _, _, _, rfl, rfl, fun e h => (by rw [hI] at h; cases h; rfl), fun p' s' h => (by rw [hI] at h; cases h)⟩) dX6_readItem_145
        · skip
          refine g_lookup (off := 85) (tgt := 123) C dX6_readItem_38 (by decide) ((lv_osw h102 (by decide)).trans ((lv_osw h108 (by decide)).trans ((lv_osw h115 (by decide)).trans (rfl)))) (by decide) ?_
          refine g_aload_n C dX6_readItem_123 rfl ?_
          refine g_get C kwX6 0 rfl rfl 1 (by decide) kfX6_18 rfl dX6_readItem_124 ?_
          refine g_aload_n C dX6_readItem_127 rfl ?_
          refine g_iconst (v := 0) C dX6_readItem_128 (by decide) ?_
          refine g_iconst (v := 3) C dX6_readItem_129 (by decide) ?_
          refine g_callV C (c_X6_number k.l E r tx p le (a + 1) (nI it) (bI (0 ≤ co 0)) (bI (0 ≤ co 1)) (bI (0 ≤ co 2)) tf 0 3 (by first | assumption | omega) (ha) (by decide)) kmX6_62 kiX6_number ksX6_number knX6 kcX6_number ⟨rfl, rfl⟩ ⟨rfl, kdX6_number⟩ ⟨by decide, by decide⟩ ⟨by decide, by decide⟩ [0, 1] [2, 3, 4, 5] rfl (wr := [(p, .inr (5, [.ref ph, .ref pd, .ref pm, .int (nI n), .int (lgC co), .int (sfC co), .int (dgC co)])), aI E ph 9 hi, aI E pd 9 de, aI E pm 9 pma]) rfl (by decide +kernel) (by decide +kernel) (by decide +kernel) 0 6 rfl rfl rfl (As := [.int 0, .int 3]) (rest := [.ref p]) rfl (Nat.le_of_ble_eq_true rfl) dX6_readItem_130 (fun rv_ rw_ hp_ => ?_)
          obtain ⟨val_36, at2_37, fa2_38, rfl, rfl, hok_39, hno_40⟩ := hp_
          refine g_rep [4, 5, 0, 1, 2, 3] (ws' := [(r, .inr (6, [.ref tx, .ref p, .int (nI le), .int at2_37, .int (nI it), .int fa2_38, .int (bI (0 ≤ co 0)), .int (bI (0 ≤ co 1)), .int (bI (0 ≤ co 2))])), aC E tx 100 tf, (p, .inr (5, [.ref ph, .ref pd, .ref pm, .int (nI n), .int (lgC co), .int (sfC co), .int (dgC co)])), aI E ph 9 hi, aI E pd 9 de, aI E pm 9 pma]) (st' := [.int val_36, .ref p]) (n' := 0) (z' := 0) (pc' := 133) rfl rfl rfl rfl (by decide +kernel) rfl ?_
          have q1 := tk_le (tf := tf) (le := le) (p := a + 1) ha
          by_cases kk : numOK tf le (tk tf le (a + 1)) 0 3
          · skip
            obtain ⟨rfl, rfl, rfl⟩ := hok_39 kk
            have q4 : tk tf le (a + 1) < le := kk.1
            refine g_put (ws' := [(r, .inr (6, [.ref tx, .ref p, .int (nI le), .int (nI (tk tf le (a + 1) + 1)), .int (nI it), .int (-1), .int (bI (0 ≤ co 0)), .int (bI (0 ≤ co 1)), .int (bI (0 ≤ co 2))])), aC E tx 100 tf, (p, .inr (5, [.ref ph, .ref pd, .ref pm, .int (nI n), .int (lgC co), .int (sfC co), .int (tf (tk tf le (a + 1)) - 48)])), aI E ph 9 hi, aI E pd 9 de, aI E pm 9 pma]) C kwX5 tyX5 tyX5_ok nmX5 2 rfl rfl 6 (by decide) kfX6_72 rfl rfl rfl (Nat.le_of_ble_eq_true rfl) rfl dX6_readItem_133 ?_
            refine g_aload_n C dX6_readItem_136 rfl ?_
            refine g_iconst (v := 1) C dX6_readItem_137 (by decide) ?_
            refine g_put (ws' := [(r, .inr (6, [.ref tx, .ref p, .int (nI le), .int (nI (tk tf le (a + 1) + 1)), .int (nI it), .int (-1), .int (bI (0 ≤ co 0)), .int (bI (0 ≤ co 1)), .int 1])), aC E tx 100 tf, (p, .inr (5, [.ref ph, .ref pd, .ref pm, .int (nI n), .int (lgC co), .int (sfC co), .int (tf (tk tf le (a + 1)) - 48)])), aI E ph 9 hi, aI E pd 9 de, aI E pm 9 pma]) C kwX6 tyX6 tyX6_ok nmX6 0 rfl rfl 8 (by decide) kfX6_45 rfl rfl rfl (Nat.le_of_ble_eq_true rfl) rfl dX6_readItem_138 ?_
            refine g_aload_n C dX6_readItem_141 rfl ?_
            refine g_callV C (c_X6_endItem k.l E r tx p le (tk tf le (a + 1) + 1) it (bI (0 ≤ co 0)) (bI (0 ≤ co 1)) 1 tf (by first | assumption | omega) (by omega)) kmX6_75 kiX6_endItem ksX6_endItem knX6 kcX6_endItem ⟨rfl, rfl⟩ ⟨rfl, kdX6_endItem⟩ ⟨by decide, by decide⟩ ⟨by decide, by decide⟩ [0, 1] [2, 3, 4, 5] rfl (wr := [(p, .inr (5, [.ref ph, .ref pd, .ref pm, .int (nI n), .int (lgC co), .int (sfC co), .int (tf (tk tf le (a + 1)) - 48)])), aI E ph 9 hi, aI E pd 9 de, aI E pm 9 pma]) rfl (by decide +kernel) (by decide +kernel) (by decide +kernel) 0 6 rfl rfl rfl (As := []) (rest := []) rfl (Nat.le_of_ble_eq_true rfl) dX6_readItem_142 (fun rv_ rw_ hp_ => ?_)
            obtain ⟨at2_41, it2_42, fa2_43, rfl, rfl, hok_44, hno_45⟩ := hp_
            refine g_rep [4, 5, 0, 1, 2, 3] (ws' := [(r, .inr (6, [.ref tx, .ref p, .int (nI le), .int at2_41, .int it2_42, .int fa2_43, .int (bI (0 ≤ co 0)), .int (bI (0 ≤ co 1)), .int 1])), aC E tx 100 tf, (p, .inr (5, [.ref ph, .ref pd, .ref pm, .int (nI n), .int (lgC co), .int (sfC co), .int (tf (tk tf le (a + 1)) - 48)])), aI E ph 9 hi, aI E pd 9 de, aI E pm 9 pma]) (st' := []) (n' := 0) (z' := 0) (pc' := 145) rfl rfl rfl rfl (by decide +kernel) rfl ?_
            by_cases kq : tk tf le (tk tf le (a + 1) + 1) < le ∧ tf (tk tf le (tk tf le (a + 1) + 1)) = 59
            · skip
              obtain ⟨rfl, rfl, rfl⟩ := hok_44 kq
              have hI : itemF tf le a (n, hi, de, pma, co) = .inr (tk tf le (tk tf le (a + 1) + 1) + 1, (n, hi, de, pma, upd co 2 (tf (tk tf le (a + 1)) - 48))) := by unfold itemF; rw [if_pos hmb, if_neg h115, if_neg h108, if_neg h102]; unfold coilF; rw [if_pos kk]; unfold endF; rw [if_pos kq]
              exact g_vret C hR (⟨_, _, _, _, _, _, _, _, _, _, _, _, _, rfl, rfl, fun e h => (by rw [hI] at h; cases h), fun p' s' h => (by rw [hI] at h; cases h; exact ⟨rfl, rfl, rfl, rfl, rfl, rfl, rfl, rfl, rfl, (if_neg (Int32.not_lt.mpr kk.2.2.2.1)).symm, rfl, rfl, (bI_t kk.2.2.2.1).symm⟩)⟩) dX6_readItem_145
            · skip
              have eq_ := hno_45 kq
              subst eq_
              have hI : itemF tf le a (n, hi, de, pma, co) = .inl (tk tf le (tk tf le (a + 1) + 1)) := by unfold itemF; rw [if_pos hmb, if_neg h115, if_neg h108, if_neg h102]; unfold coilF; rw [if_pos kk]; unfold endF; rw [if_neg kq]
              exact g_vret C hR (⟨_, _, _, _, _, _, _, _, _, _, _, _, _, rfl, rfl, fun e h => (by rw [hI] at h; cases h; rfl), fun p' s' h => (by rw [hI] at h; cases h)⟩) dX6_readItem_145
          · skip
            have ez := hno_40 kk
            subst ez
            have hI : itemF tf le a (n, hi, de, pma, co) = .inl (tk tf le (a + 1)) := by unfold itemF; rw [if_pos hmb, if_neg h115, if_neg h108, if_neg h102]; unfold coilF; rw [if_neg kk]
            refine g_put (ws' := [(r, .inr (6, [.ref tx, .ref p, .int (nI le), .int at2_37, .int (nI it), .int (nI (tk tf le (a + 1))), .int (bI (0 ≤ co 0)), .int (bI (0 ≤ co 1)), .int (bI (0 ≤ co 2))])), aC E tx 100 tf, (p, .inr (5, [.ref ph, .ref pd, .ref pm, .int (nI n), .int (lgC co), .int (sfC co), .int val_36])), aI E ph 9 hi, aI E pd 9 de, aI E pm 9 pma]) C kwX5 tyX5 tyX5_ok nmX5 2 rfl rfl 6 (by decide) kfX6_72 rfl rfl rfl (Nat.le_of_ble_eq_true rfl) rfl dX6_readItem_133 ?_
            refine g_aload_n C dX6_readItem_136 rfl ?_
            refine g_iconst (v := 1) C dX6_readItem_137 (by decide) ?_
            refine g_put (ws' := [(r, .inr (6, [.ref tx, .ref p, .int (nI le), .int at2_37, .int (nI it), .int (nI (tk tf le (a + 1))), .int (bI (0 ≤ co 0)), .int (bI (0 ≤ co 1)), .int 1])), aC E tx 100 tf, (p, .inr (5, [.ref ph, .ref pd, .ref pm, .int (nI n), .int (lgC co), .int (sfC co), .int val_36])), aI E ph 9 hi, aI E pd 9 de, aI E pm 9 pma]) C kwX6 tyX6 tyX6_ok nmX6 0 rfl rfl 8 (by decide) kfX6_45 rfl rfl rfl (Nat.le_of_ble_eq_true rfl) rfl dX6_readItem_138 ?_
            refine g_aload_n C dX6_readItem_141 rfl ?_
            refine g_callV C (c_X6_endF k.l E r tx p le at2_37 (nI it) (tk tf le (a + 1)) (bI (0 ≤ co 0)) (bI (0 ≤ co 1)) 1 (by omega)) kmX6_75 kiX6_endItem ksX6_endItem knX6 kcX6_endItem ⟨rfl, rfl⟩ ⟨rfl, kdX6_endItem⟩ ⟨by decide, by decide⟩ ⟨by decide, by decide⟩ [0] [1, 2, 3, 4, 5] rfl (wr := [aC E tx 100 tf, (p, .inr (5, [.ref ph, .ref pd, .ref pm, .int (nI n), .int (lgC co), .int (sfC co), .int val_36])), aI E ph 9 hi, aI E pd 9 de, aI E pm 9 pma]) rfl (by decide +kernel) (by decide +kernel) (by decide +kernel) 0 6 rfl rfl rfl (As := []) (rest := []) rfl (Nat.le_of_ble_eq_true rfl) dX6_readItem_142 (fun rv_ rw_ hp_ => ?_)
            obtain ⟨rfl, rfl⟩ := hp_
            refine g_rep [5, 0, 1, 2, 3, 4] (ws' := [(r, .inr (6, [.ref tx, .ref p, .int (nI le), .int at2_37, .int (nI it), .int (nI (tk tf le (a + 1))), .int (bI (0 ≤ co 0)), .int (bI (0 ≤ co 1)), .int 1])), aC E tx 100 tf, (p, .inr (5, [.ref ph, .ref pd, .ref pm, .int (nI n), .int (lgC co), .int (sfC co), .int val_36])), aI E ph 9 hi, aI E pd 9 de, aI E pm 9 pma]) (st' := []) (n' := 0) (z' := 0) (pc' := 145) rfl rfl rfl rfl (by decide +kernel) rfl ?_
            exact g_vret C hR (⟨_, _, _, _, _, _, _, _, _, _, _, _, _, rfl, rfl, fun e h => (by rw [hI] at h; cases h; rfl), fun p' s' h => (by rw [hI] at h; cases h)⟩) dX6_readItem_145
  · skip
    have hI : itemF tf le a (n, hi, de, pma, co) = .inl a := by unfold itemF; rw [if_neg (bI_0 c15)]
    refine g_aload_n C dX6_readItem_18 rfl ?_
    refine g_aload_n C dX6_readItem_19 rfl ?_
    refine g_get C kwX6 0 rfl rfl 3 (by decide) kfX6_29 rfl dX6_readItem_20 ?_
    refine g_put (ws' := [(r, .inr (6, [.ref tx, .ref p, .int (nI le), .int (nI a), .int (nI it), .int (nI a), .int (bI (0 ≤ co 0)), .int (bI (0 ≤ co 1)), .int (bI (0 ≤ co 2))])), aC E tx 100 tf, (p, .inr (5, [.ref ph, .ref pd, .ref pm, .int (nI n), .int (lgC co), .int (sfC co), .int (dgC co)])), aI E ph 9 hi, aI E pd 9 de, aI E pm 9 pma]) C kwX6 tyX6 tyX6_ok nmX6 0 rfl rfl 5 (by decide) kfX6_35 rfl rfl rfl (Nat.le_of_ble_eq_true rfl) rfl dX6_readItem_23 ?_
    exact g_vret C hR (⟨_, _, _, _, _, _, _, _, _, _, _, _, _, rfl, rfl, fun e h => (by rw [hI] at h; cases h; rfl), fun p' s' h => (by rw [hI] at h; cases h)⟩) dX6_readItem_26

set_option maxHeartbeats 4000000 in
set_option maxRecDepth 100000 in
theorem tl_X6_read {k : KX} {E : EX} (C : Cx k E cX6_read RX6 (rmL 6 0 0)) (hnl : ∀ j : Nat, j < 2 → j < k.nL) {r : Nat} {tx : Nat} {p : Nat} {le : Nat} {tf : Nat → Int32} {ph : Nat} {pd : Nat} {pm : Nat} (hle : le ≤ 100) {t : Nat ⊕ (Nat × PSt)} (hR : Rt k E (fun (rv_ : Option Value) (rw_ : va_W) => ∃ (at2 : Int32) (it2 : Int32) (fa2 : Int32) (b12 : Int32) (b22 : Int32) (b32 : Int32) (n2 : Int32) (lg2 : Int32) (sf2 : Int32) (dg2 : Int32) (hi2 : Nat → Int32) (de2 : Nat → Int32) (pma2 : Nat → Int32), rv_ = some (.int (bI (fa2 = -1))) ∧ rw_ = [(r, .inr (6, [.ref tx, .ref p, .int (nI le), .int at2, .int it2, .int fa2, .int b12, .int b22, .int b32])), aC E tx 100 tf, (p, .inr (5, [.ref ph, .ref pd, .ref pm, .int n2, .int lg2, .int sf2, .int dg2])), aI E ph 9 hi2, aI E pd 9 de2, aI E pm 9 pma2] ∧ (∀ e, t = .inl e → fa2 = nI e) ∧ (∀ i' s', t = .inr (i', s') → fa2 = -1 ∧ it2 = nI i' ∧ n2 = nI s'.1 ∧ hi2 = s'.2.1 ∧ de2 = s'.2.2.1 ∧ pma2 = s'.2.2.2.1 ∧ lg2 = lgC s'.2.2.2.2 ∧ sf2 = sfC s'.2.2.2.2 ∧ dg2 = dgC s'.2.2.2.2)) 0 0 (some .boolean)) : ∀ (i at_ it b1 b2 b3 n0 lg sf dg : Int32) (hi de pma : Nat → Int32) (e : Nat), e ≤ 100 → t = .inl e → G k E 0 0 39 [some (.ref r), some (.int i)] [] [(r, .inr (6, [.ref tx, .ref p, .int (nI le), .int at_, .int it, .int (nI e), .int b1, .int b2, .int b3])), aC E tx 100 tf, (p, .inr (5, [.ref ph, .ref pd, .ref pm, .int n0, .int lg, .int sf, .int dg])), aI E ph 9 hi, aI E pd 9 de, aI E pm 9 pma] := by
  intro i at_ it b1 b2 b3 n0 lg sf dg hi de pma e he ht
  refine g_iload_n C dX6_read_39 rfl ?_
  refine g_bipush (v := 100) C dX6_read_40 (by decide) ?_
  refine g_icmp_ge (tgt := 70) C dX6_read_42 (by decide) (fun c42 => ?_) (fun c42 => ?_)
  · skip
    refine g_aload_n C dX6_read_70 rfl ?_
    refine g_get C kwX6 0 rfl rfl 5 (by decide) kfX6_35 rfl dX6_read_71 ?_
    refine g_iconst (v := (-1)) C dX6_read_74 (by decide) ?_
    refine g_icmp_ne (tgt := 82) C dX6_read_75 (by decide) (fun c75 => ?_) (fun c75 => ?_)
    · skip
      refine g_iconst (v := 0) C dX6_read_82 (by decide) ?_
      exact g_zret C hR (by first | exact Or.inl rfl | exact Or.inr rfl | exact bI01 _) (⟨_, _, _, _, _, _, _, _, _, _, _, _, _, rI_f (nI_nm1 (by omega)), rfl, fun e' h => (by rw [ht] at h; cases h; rfl), fun i' s' h => (by rw [ht] at h; cases h)⟩) dX6_read_83
    · skip
      exact absurd c75 (nI_nm1 (by omega))
  · skip
    refine g_aload_n C dX6_read_45 rfl ?_
    refine g_get C kwX6 0 rfl rfl 5 (by decide) kfX6_35 rfl dX6_read_46 ?_
    refine g_iconst (v := (-1)) C dX6_read_49 (by decide) ?_
    refine g_icmp_ne (tgt := 70) C dX6_read_50 (by decide) (fun c50 => ?_) (fun c50 => ?_)
    · skip
      refine g_aload_n C dX6_read_70 rfl ?_
      refine g_get C kwX6 0 rfl rfl 5 (by decide) kfX6_35 rfl dX6_read_71 ?_
      refine g_iconst (v := (-1)) C dX6_read_74 (by decide) ?_
      refine g_icmp_ne (tgt := 82) C dX6_read_75 (by decide) (fun c75 => ?_) (fun c75 => ?_)
      · skip
        refine g_iconst (v := 0) C dX6_read_82 (by decide) ?_
        exact g_zret C hR (by first | exact Or.inl rfl | exact Or.inr rfl | exact bI01 _) (⟨_, _, _, _, _, _, _, _, _, _, _, _, _, rI_f (nI_nm1 (by omega)), rfl, fun e' h => (by rw [ht] at h; cases h; rfl), fun i' s' h => (by rw [ht] at h; cases h)⟩) dX6_read_83
      · skip
        exact absurd c75 (nI_nm1 (by omega))
    · skip
      exact absurd c50 (nI_nm1 (by omega))

set_option maxHeartbeats 4000000 in
set_option maxRecDepth 100000 in
theorem lp_X6_read {k : KX} {E : EX} (C : Cx k E cX6_read RX6 (rmL 6 0 0)) (hnl : ∀ j : Nat, j < 2 → j < k.nL) {r : Nat} {tx : Nat} {p : Nat} {le : Nat} {tf : Nat → Int32} {ph : Nat} {pd : Nat} {pm : Nat} (hle : le ≤ 100) {t : Nat ⊕ (Nat × PSt)} (hR : Rt k E (fun (rv_ : Option Value) (rw_ : va_W) => ∃ (at2 : Int32) (it2 : Int32) (fa2 : Int32) (b12 : Int32) (b22 : Int32) (b32 : Int32) (n2 : Int32) (lg2 : Int32) (sf2 : Int32) (dg2 : Int32) (hi2 : Nat → Int32) (de2 : Nat → Int32) (pma2 : Nat → Int32), rv_ = some (.int (bI (fa2 = -1))) ∧ rw_ = [(r, .inr (6, [.ref tx, .ref p, .int (nI le), .int at2, .int it2, .int fa2, .int b12, .int b22, .int b32])), aC E tx 100 tf, (p, .inr (5, [.ref ph, .ref pd, .ref pm, .int n2, .int lg2, .int sf2, .int dg2])), aI E ph 9 hi2, aI E pd 9 de2, aI E pm 9 pma2] ∧ (∀ e, t = .inl e → fa2 = nI e) ∧ (∀ i' s', t = .inr (i', s') → fa2 = -1 ∧ it2 = nI i' ∧ n2 = nI s'.1 ∧ hi2 = s'.2.1 ∧ de2 = s'.2.2.1 ∧ pma2 = s'.2.2.2.1 ∧ lg2 = lgC s'.2.2.2.2 ∧ sf2 = sfC s'.2.2.2.2 ∧ dg2 = dgC s'.2.2.2.2)) 0 0 (some .boolean)) : ∀ (f i q it n : Nat) (lg sf dg b1 b2 b3 : Int32) (hi de pma co : Nat → Int32), i + f = 100 → le ≤ q + f → q ≤ le → POK (n, hi, de, pma, co) → lg = lgC co → sf = sfC co → dg = dgC co → b1 = bI (0 ≤ co 0) → b2 = bI (0 ≤ co 1) → b3 = bI (0 ≤ co 2) → parseF tf le f q it (n, hi, de, pma, co) = t → G k E 0 0 39 [some (.ref r), some (.int (nI i))] [] [(r, .inr (6, [.ref tx, .ref p, .int (nI le), .int (nI q), .int (nI it), .int (-1), .int b1, .int b2, .int b3])), aC E tx 100 tf, (p, .inr (5, [.ref ph, .ref pd, .ref pm, .int (nI n), .int lg, .int sf, .int dg])), aI E ph 9 hi, aI E pd 9 de, aI E pm 9 pma] := by
  intro f
  induction f with
  | zero =>
    intro i q it n lg sf dg b1 b2 b3 hi de pma co hi_ hq1 hq2 hp_ e1 e2 e3 e4 e5 e6 ht
    subst e1 e2 e3 e4 e5 e6
    refine g_iload_n C dX6_read_39 rfl ?_
    refine g_bipush (v := 100) C dX6_read_40 (by decide) ?_
    refine g_icmp_ge (tgt := 70) C dX6_read_42 (by decide) (fun c42 => ?_) (fun c42 => ?_)
    · skip
      refine g_aload_n C dX6_read_70 rfl ?_
      refine g_get C kwX6 0 rfl rfl 5 (by decide) kfX6_35 rfl dX6_read_71 ?_
      refine g_iconst (v := (-1)) C dX6_read_74 (by decide) ?_
      refine g_icmp_ne (tgt := 82) C dX6_read_75 (by decide) (fun c75 => ?_) (fun c75 => ?_)
      · skip
        exact absurd rfl c75
      · skip
        refine g_iconst (v := 1) C dX6_read_78 (by decide) ?_
        refine g_goto (tgt := 83) C dX6_read_79 (by decide) ?_
        exact g_zret C hR (by first | exact Or.inl rfl | exact Or.inr rfl | exact bI01 _) (⟨_, _, _, _, _, _, _, _, _, _, _, _, _, rI_t rfl, rfl, fun e' h => (by rw [← ht] at h; cases h), fun i' s' h => (by rw [← ht] at h; cases h; exact ⟨rfl, rfl, rfl, rfl, rfl, rfl, rfl, rfl, rfl⟩)⟩) dX6_read_83
    · skip
      exact absurd ((nI_leI (a := 100) (by decide) (by omega)).mpr (by omega)) c42
  | succ f ih =>
    intro i q it n lg sf dg b1 b2 b3 hi de pma co hi_ hq1 hq2 hp_ e1 e2 e3 e4 e5 e6 ht
    subst e1 e2 e3 e4 e5 e6
    unfold parseF at ht
    have hn9 : n ≤ 9 := hp_.1
    have htk := tk_le (tf := tf) hq2
    refine g_iload_n C dX6_read_39 rfl ?_
    refine g_bipush (v := 100) C dX6_read_40 (by decide) ?_
    refine g_icmp_ge (tgt := 70) C dX6_read_42 (by decide) (fun c42 => ?_) (fun c42 => ?_)
    · skip
      exact absurd ((nI_leI (a := 100) (by decide) (by omega)).mp c42) (by omega)
    · skip
      refine g_aload_n C dX6_read_45 rfl ?_
      refine g_get C kwX6 0 rfl rfl 5 (by decide) kfX6_35 rfl dX6_read_46 ?_
      refine g_iconst (v := (-1)) C dX6_read_49 (by decide) ?_
      refine g_icmp_ne (tgt := 70) C dX6_read_50 (by decide) (fun c50 => ?_) (fun c50 => ?_)
      · skip
        exact absurd rfl c50
      · skip
        refine g_aload_n C dX6_read_53 rfl ?_
        refine g_callV C (c_X6_findToken k.l E r tx p le q (nI it) (-1) (bI (0 ≤ co 0)) (bI (0 ≤ co 1)) (bI (0 ≤ co 2)) tf (by first | assumption | omega) (hq2)) kmX6_48 kiX6_findToken ksX6_findToken knX6 kcX6_findToken ⟨rfl, rfl⟩ ⟨rfl, kdX6_findToken⟩ ⟨by decide, by decide⟩ ⟨by decide, by decide⟩ [0, 1] [2, 3, 4, 5] rfl (wr := [(p, .inr (5, [.ref ph, .ref pd, .ref pm, .int (nI n), .int (lgC co), .int (sfC co), .int (dgC co)])), aI E ph 9 hi, aI E pd 9 de, aI E pm 9 pma]) rfl (by decide +kernel) (by decide +kernel) (by decide +kernel) 0 6 rfl rfl rfl (As := []) (rest := []) rfl (Nat.le_of_ble_eq_true rfl) dX6_read_54 (fun rv_ rw_ hp_ => ?_)
        obtain ⟨rfl, rfl⟩ := hp_
        refine g_rep [4, 5, 0, 1, 2, 3] (ws' := [(r, .inr (6, [.ref tx, .ref p, .int (nI le), .int (nI (tk tf le q)), .int (nI it), .int (-1), .int (bI (0 ≤ co 0)), .int (bI (0 ≤ co 1)), .int (bI (0 ≤ co 2))])), aC E tx 100 tf, (p, .inr (5, [.ref ph, .ref pd, .ref pm, .int (nI n), .int (lgC co), .int (sfC co), .int (dgC co)])), aI E ph 9 hi, aI E pd 9 de, aI E pm 9 pma]) (st' := [.int (bI (tk tf le q < le))]) (n' := 0) (z' := 0) (pc' := 57) rfl rfl rfl rfl (by decide +kernel) rfl ?_
        refine g_if_eq (tgt := 70) C dX6_read_57 (by decide) (fun c57 => ?_) (fun c57 => ?_)
        · skip
          rw [if_neg (bI_0 c57)] at ht
          refine g_aload_n C dX6_read_70 rfl ?_
          refine g_get C kwX6 0 rfl rfl 5 (by decide) kfX6_35 rfl dX6_read_71 ?_
          refine g_iconst (v := (-1)) C dX6_read_74 (by decide) ?_
          refine g_icmp_ne (tgt := 82) C dX6_read_75 (by decide) (fun c75 => ?_) (fun c75 => ?_)
          · skip
            exact absurd rfl c75
          · skip
            refine g_iconst (v := 1) C dX6_read_78 (by decide) ?_
            refine g_goto (tgt := 83) C dX6_read_79 (by decide) ?_
            exact g_zret C hR (by first | exact Or.inl rfl | exact Or.inr rfl | exact bI01 _) (⟨_, _, _, _, _, _, _, _, _, _, _, _, _, rI_t rfl, rfl, fun e' h => (by rw [← ht] at h; cases h), fun i' s' h => (by rw [← ht] at h; cases h; exact ⟨rfl, rfl, rfl, rfl, rfl, rfl, rfl, rfl, rfl⟩)⟩) dX6_read_83
        · skip
          have hlt := bI_1 c57
          rw [if_pos hlt] at ht
          refine g_aload_n C dX6_read_60 rfl ?_
          refine g_callV C (c_X6_readItem k.l E r tx p le (tk tf le q) it tf ph pd pm n hi de pma co (by first | assumption | omega) (hlt) (hn9)) kmX6_52 kiX6_readItem ksX6_readItem knX6 kcX6_readItem ⟨rfl, rfl⟩ ⟨rfl, kdX6_readItem⟩ ⟨by decide, by decide⟩ ⟨by decide, by decide⟩ [0, 1, 2, 3, 4, 5] [] rfl (wr := []) rfl (by decide +kernel) (by decide +kernel) (by decide +kernel) 0 6 rfl rfl rfl (As := []) (rest := []) rfl (Nat.le_of_ble_eq_true rfl) dX6_read_61 (fun rv_ rw_ hp_ => ?_)
          obtain ⟨at2_1, it2_2, fa2_3, b12_4, b22_5, b32_6, n2_7, lg2_8, sf2_9, dg2_10, hi2_11, de2_12, pma2_13, rfl, rfl, hF_14, hS_15⟩ := hp_
          refine g_rep [0, 1, 2, 3, 4, 5] (ws' := [(r, .inr (6, [.ref tx, .ref p, .int (nI le), .int at2_1, .int it2_2, .int fa2_3, .int b12_4, .int b22_5, .int b32_6])), aC E tx 100 tf, (p, .inr (5, [.ref ph, .ref pd, .ref pm, .int n2_7, .int lg2_8, .int sf2_9, .int dg2_10])), aI E ph 9 hi2_11, aI E pd 9 de2_12, aI E pm 9 pma2_13]) (st' := []) (n' := 0) (z' := 0) (pc' := 64) rfl rfl rfl rfl (by decide +kernel) rfl ?_
          cases hI : itemF tf le (tk tf le q) (n, hi, de, pma, co) with
          | inl e =>
            have ez := hF_14 e hI
            subst ez
            have hel := (itemF_le (by omega) hp_).1 e hI
            rw [hI] at ht
            refine g_iinc (v := nI (i + 1)) (lv' := [some (.ref r), some (.int (nI (i + 1)))]) C dX6_read_64 rfl (nI_add _ 1) (hnl 1 (by decide)) rfl rfl ?_
            refine g_goto (tgt := 39) C dX6_read_67 (by decide) ?_
            exact tl_X6_read C hnl hle hR _ _ _ _ _ _ _ _ _ _ _ _ _ e (by omega) ht.symm
          | inr q2 =>
            obtain ⟨q3, n3, hi3, de3, pma3, co3⟩ := q2
            have hz := (itemF_le (by omega) hp_).2 _ _ hI
            rw [hI] at ht
            obtain ⟨rfl, rfl, rfl, rfl, rfl, rfl, rfl, rfl, rfl, rfl, rfl, rfl, rfl⟩ := hS_15 _ _ hI
            show G k E 0 0 64 [some (.ref r), some (.int (nI i))] [] [(r, .inr (6, [.ref tx, .ref p, .int (nI le), .int (nI q3), .int (nI (it + 1)), .int (-1), .int (bI (0 ≤ co3 0)), .int (bI (0 ≤ co3 1)), .int (bI (0 ≤ co3 2))])), aC E tx 100 tf, (p, .inr (5, [.ref ph, .ref pd, .ref pm, .int (nI n3), .int (lgC co3), .int (sfC co3), .int (dgC co3)])), aI E ph 9 hi2_11, aI E pd 9 de2_12, aI E pm 9 pma2_13]
            refine g_iinc (v := nI (i + 1)) (lv' := [some (.ref r), some (.int (nI (i + 1)))]) C dX6_read_64 rfl (nI_add _ 1) (hnl 1 (by decide)) rfl rfl ?_
            refine g_goto (tgt := 39) C dX6_read_67 (by decide) ?_
            exact ih (i + 1) q3 (it + 1) n3 _ _ _ _ _ _ _ _ _ co3 (by omega) (by omega) (by omega) hz.2.2 rfl rfl rfl rfl rfl rfl ht

set_option maxHeartbeats 4000000 in
set_option maxRecDepth 100000 in
theorem c_X6_read (l : Launch) (E : EX) (r : Nat) (tx : Nat) (p : Nat) (le : Nat) (at0 : Int32) (it0 : Int32) (fa0 : Int32) (b1 : Int32) (b2 : Int32) (b3 : Int32) (tf : Nat → Int32) (ph : Nat) (pd : Nat) (pm : Nat) (n0 : Int32) (lg : Int32) (sf : Int32) (dg : Int32) (hi : Nat → Int32) (de : Nat → Int32) (pma : Nat → Int32) (hle : le ≤ 100) : Ct l E yX6_read cX6_read 2 (some .boolean) (rmL 6 0 0) [.ref r] [(r, .inr (6, [.ref tx, .ref p, .int (nI le), .int at0, .int it0, .int fa0, .int b1, .int b2, .int b3])), aC E tx 100 tf, (p, .inr (5, [.ref ph, .ref pd, .ref pm, .int n0, .int lg, .int sf, .int dg])), aI E ph 9 hi, aI E pd 9 de, aI E pm 9 pma] (fun (rv_ : Option Value) (rw_ : va_W) => ∃ (at2 : Int32) (it2 : Int32) (fa2 : Int32) (b12 : Int32) (b22 : Int32) (b32 : Int32) (n2 : Int32) (lg2 : Int32) (sf2 : Int32) (dg2 : Int32) (hi2 : Nat → Int32) (de2 : Nat → Int32) (pma2 : Nat → Int32), rv_ = some (.int (bI (fa2 = -1))) ∧ rw_ = [(r, .inr (6, [.ref tx, .ref p, .int (nI le), .int at2, .int it2, .int fa2, .int b12, .int b22, .int b32])), aC E tx 100 tf, (p, .inr (5, [.ref ph, .ref pd, .ref pm, .int n2, .int lg2, .int sf2, .int dg2])), aI E ph 9 hi2, aI E pd 9 de2, aI E pm 9 pma2] ∧ (∀ e, parseF tf le 100 0 0 (0, hi, de, pma, fun _ => -1) = .inl e → fa2 = nI e) ∧ (∀ i' s', parseF tf le 100 0 0 (0, hi, de, pma, fun _ => -1) = .inr (i', s') → fa2 = -1 ∧ it2 = nI i' ∧ n2 = nI s'.1 ∧ hi2 = s'.2.1 ∧ de2 = s'.2.2.1 ∧ pma2 = s'.2.2.2.1 ∧ lg2 = lgC s'.2.2.2.2 ∧ sf2 = sfC s'.2.2.2.2 ∧ dg2 = dgC s'.2.2.2.2)) 0 0 := by
  refine Ct_of (by decide) (Nat.le_of_ble_eq_true rfl) ?_
  intro k hkl hnl C hR hin_
  subst hkl
  show G k E 0 0 0 [some (.ref r), none] [] [(r, .inr (6, [.ref tx, .ref p, .int (nI le), .int at0, .int it0, .int fa0, .int b1, .int b2, .int b3])), aC E tx 100 tf, (p, .inr (5, [.ref ph, .ref pd, .ref pm, .int n0, .int lg, .int sf, .int dg])), aI E ph 9 hi, aI E pd 9 de, aI E pm 9 pma]
  refine g_aload_n C dX6_read_0 rfl ?_
  refine g_get C kwX6 0 rfl rfl 1 (by decide) kfX6_18 rfl dX6_read_1 ?_
  refine g_callV C (c_X5_empty k.l E p ph pd pm n0 lg sf dg) kmX6_26 kiX5_empty ksX5_empty knX5 kcX5_empty ⟨rfl, rfl⟩ ⟨rfl, kdX5_empty⟩ ⟨by decide, by decide⟩ ⟨by decide, by decide⟩ [2] [0, 1, 3, 4, 5] rfl (wr := [(r, .inr (6, [.ref tx, .ref p, .int (nI le), .int at0, .int it0, .int fa0, .int b1, .int b2, .int b3])), aC E tx 100 tf, aI E ph 9 hi, aI E pd 9 de, aI E pm 9 pma]) rfl (by decide +kernel) (by decide +kernel) (by decide +kernel) 2 5 rfl rfl rfl (As := []) (rest := []) rfl (Nat.le_of_ble_eq_true rfl) dX6_read_4 (fun rv_ rw_ hp_ => ?_)
  obtain ⟨rfl, rfl⟩ := hp_
  refine g_rep [0, 1, 5, 2, 3, 4] (ws' := [(r, .inr (6, [.ref tx, .ref p, .int (nI le), .int at0, .int it0, .int fa0, .int b1, .int b2, .int b3])), aC E tx 100 tf, (p, .inr (5, [.ref ph, .ref pd, .ref pm, .int 0, .int 4, .int 3, .int 1])), aI E ph 9 hi, aI E pd 9 de, aI E pm 9 pma]) (st' := []) (n' := 0) (z' := 0) (pc' := 7) rfl rfl rfl rfl (by decide +kernel) rfl ?_
  refine g_aload_n C dX6_read_7 rfl ?_
  refine g_iconst (v := 0) C dX6_read_8 (by decide) ?_
  refine g_put (ws' := [(r, .inr (6, [.ref tx, .ref p, .int (nI le), .int 0, .int it0, .int fa0, .int b1, .int b2, .int b3])), aC E tx 100 tf, (p, .inr (5, [.ref ph, .ref pd, .ref pm, .int 0, .int 4, .int 3, .int 1])), aI E ph 9 hi, aI E pd 9 de, aI E pm 9 pma]) C kwX6 tyX6 tyX6_ok nmX6 0 rfl rfl 3 (by decide) kfX6_29 rfl rfl rfl (Nat.le_of_ble_eq_true rfl) rfl dX6_read_9 ?_
  refine g_aload_n C dX6_read_12 rfl ?_
  refine g_iconst (v := 0) C dX6_read_13 (by decide) ?_
  refine g_put (ws' := [(r, .inr (6, [.ref tx, .ref p, .int (nI le), .int 0, .int 0, .int fa0, .int b1, .int b2, .int b3])), aC E tx 100 tf, (p, .inr (5, [.ref ph, .ref pd, .ref pm, .int 0, .int 4, .int 3, .int 1])), aI E ph 9 hi, aI E pd 9 de, aI E pm 9 pma]) C kwX6 tyX6 tyX6_ok nmX6 0 rfl rfl 4 (by decide) kfX6_32 rfl rfl rfl (Nat.le_of_ble_eq_true rfl) rfl dX6_read_14 ?_
  refine g_aload_n C dX6_read_17 rfl ?_
  refine g_iconst (v := (-1)) C dX6_read_18 (by decide) ?_
  refine g_put (ws' := [(r, .inr (6, [.ref tx, .ref p, .int (nI le), .int 0, .int 0, .int (-1), .int b1, .int b2, .int b3])), aC E tx 100 tf, (p, .inr (5, [.ref ph, .ref pd, .ref pm, .int 0, .int 4, .int 3, .int 1])), aI E ph 9 hi, aI E pd 9 de, aI E pm 9 pma]) C kwX6 tyX6 tyX6_ok nmX6 0 rfl rfl 5 (by decide) kfX6_35 rfl rfl rfl (Nat.le_of_ble_eq_true rfl) rfl dX6_read_19 ?_
  refine g_aload_n C dX6_read_22 rfl ?_
  refine g_iconst (v := 0) C dX6_read_23 (by decide) ?_
  refine g_put (ws' := [(r, .inr (6, [.ref tx, .ref p, .int (nI le), .int 0, .int 0, .int (-1), .int 0, .int b2, .int b3])), aC E tx 100 tf, (p, .inr (5, [.ref ph, .ref pd, .ref pm, .int 0, .int 4, .int 3, .int 1])), aI E ph 9 hi, aI E pd 9 de, aI E pm 9 pma]) C kwX6 tyX6 tyX6_ok nmX6 0 rfl rfl 6 (by decide) kfX6_38 rfl rfl rfl (Nat.le_of_ble_eq_true rfl) rfl dX6_read_24 ?_
  refine g_aload_n C dX6_read_27 rfl ?_
  refine g_iconst (v := 0) C dX6_read_28 (by decide) ?_
  refine g_put (ws' := [(r, .inr (6, [.ref tx, .ref p, .int (nI le), .int 0, .int 0, .int (-1), .int 0, .int 0, .int b3])), aC E tx 100 tf, (p, .inr (5, [.ref ph, .ref pd, .ref pm, .int 0, .int 4, .int 3, .int 1])), aI E ph 9 hi, aI E pd 9 de, aI E pm 9 pma]) C kwX6 tyX6 tyX6_ok nmX6 0 rfl rfl 7 (by decide) kfX6_42 rfl rfl rfl (Nat.le_of_ble_eq_true rfl) rfl dX6_read_29 ?_
  refine g_aload_n C dX6_read_32 rfl ?_
  refine g_iconst (v := 0) C dX6_read_33 (by decide) ?_
  refine g_put (ws' := [(r, .inr (6, [.ref tx, .ref p, .int (nI le), .int 0, .int 0, .int (-1), .int 0, .int 0, .int 0])), aC E tx 100 tf, (p, .inr (5, [.ref ph, .ref pd, .ref pm, .int 0, .int 4, .int 3, .int 1])), aI E ph 9 hi, aI E pd 9 de, aI E pm 9 pma]) C kwX6 tyX6 tyX6_ok nmX6 0 rfl rfl 8 (by decide) kfX6_45 rfl rfl rfl (Nat.le_of_ble_eq_true rfl) rfl dX6_read_34 ?_
  refine g_iconst (v := 0) C dX6_read_37 (by decide) ?_
  refine g_istore_n (lv' := [some (.ref r), some (.int 0)]) C dX6_read_38 (hnl 1 (by decide)) rfl rfl ?_
  exact lp_X6_read C hnl hle hR 100 0 0 0 0 _ _ _ _ _ _ hi de pma (fun _ => -1) (by omega) (by omega) (by omega) ⟨Nat.zero_le _, fun i h => absurd h (Nat.not_lt_zero _), Or.inl rfl, Or.inl rfl, Or.inl rfl⟩ (by decide) (by decide) (by decide) (by decide) (by decide) (by decide) rfl
