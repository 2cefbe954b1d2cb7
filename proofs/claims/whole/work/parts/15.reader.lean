set_option maxHeartbeats 4000000 in
set_option maxRecDepth 100000 in
theorem lp_X6_ft {k : KX} {E : EX} (C : Cx k E cX6_findToken RX6 (rmL 1 0 0)) (hnl : ∀ j : Nat, j < 1 → j < k.nL) {r : Nat} {tx : Nat} {p : Nat} {le : Nat} {it : Int32} {fa : Int32} {b1 : Int32} {b2 : Int32} {b3 : Int32} {tf : Nat → Int32} (hle : le ≤ 100) {t : Nat} (hR : Rt k E (fun (rv_ : Option Value) (rw_ : va_W) => rv_ = some (.int (bI (t < le))) ∧ rw_ = [(r, .inr (6, [.ref tx, .ref p, .int (nI le), .int (nI t), .int it, .int fa, .int b1, .int b2, .int b3])), aC E tx 100 tf]) 0 0 (some .boolean)) : ∀ (f a : Nat), a + f = le → skp tf f a = t → G k E 0 0 0 [some (.ref r)] [] [(r, .inr (6, [.ref tx, .ref p, .int (nI le), .int (nI a), .int it, .int fa, .int b1, .int b2, .int b3])), aC E tx 100 tf] := by
  intro f
  induction f with
  | zero =>
    intro a hf ht
    have e : a = t := ht
    subst e
    refine g_aload_n C dX6_findToken_0 rfl ?_
    refine g_get C kwX6 0 rfl rfl 3 (by decide) kfX6_29 rfl dX6_findToken_1 ?_
    refine g_aload_n C dX6_findToken_4 rfl ?_
    refine g_get C kwX6 0 rfl rfl 2 (by decide) kfX6_22 rfl dX6_findToken_5 ?_
    refine g_icmp_ge (tgt := 38) C dX6_findToken_8 (by decide) (fun c8 => ?_) (fun c8 => ?_)
    · skip
      refine g_aload_n C dX6_findToken_38 rfl ?_
      refine g_get C kwX6 0 rfl rfl 3 (by decide) kfX6_29 rfl dX6_findToken_39 ?_
      refine g_aload_n C dX6_findToken_42 rfl ?_
      refine g_get C kwX6 0 rfl rfl 2 (by decide) kfX6_22 rfl dX6_findToken_43 ?_
      refine g_icmp_ge (tgt := 53) C dX6_findToken_46 (by decide) (fun c46 => ?_) (fun c46 => ?_)
      · skip
        refine g_iconst (v := 0) C dX6_findToken_53 (by decide) ?_
        exact g_zret C hR (by first | exact Or.inl rfl | exact Or.inr rfl | exact bI01 _) (⟨rI_f (Nat.not_lt.mpr (nx_ge (by omega) (by omega) c46)), rfl⟩) dX6_findToken_54
      · skip
        refine g_iconst (v := 1) C dX6_findToken_49 (by decide) ?_
        refine g_goto (tgt := 54) C dX6_findToken_50 (by decide) ?_
        exact g_zret C hR (by first | exact Or.inl rfl | exact Or.inr rfl | exact bI01 _) (⟨rI_t (nx_nge (by omega) (by omega) c46), rfl⟩) dX6_findToken_54
    · skip
      exact absurd ((nI_leI (by omega) (by omega)).mpr (by omega)) c8
  | succ f ih =>
    intro a hf ht
    unfold skp at ht
    refine g_aload_n C dX6_findToken_0 rfl ?_
    refine g_get C kwX6 0 rfl rfl 3 (by decide) kfX6_29 rfl dX6_findToken_1 ?_
    refine g_aload_n C dX6_findToken_4 rfl ?_
    refine g_get C kwX6 0 rfl rfl 2 (by decide) kfX6_22 rfl dX6_findToken_5 ?_
    refine g_icmp_ge (tgt := 38) C dX6_findToken_8 (by decide) (fun c8 => ?_) (fun c8 => ?_)
    · skip
      exact absurd (nx_ge (by omega) (by omega) c8) (by omega)
    · skip
      refine g_aload_n C dX6_findToken_11 rfl ?_
      refine g_get C kwX6 0 rfl rfl 0 (by decide) kfX6_9 rfl dX6_findToken_12 ?_
      refine g_aload_n C dX6_findToken_15 rfl ?_
      refine g_get C kwX6 0 rfl rfl 3 (by decide) kfX6_29 rfl dX6_findToken_16 ?_
      refine g_cald C 1 a rfl (rfl) (by omega) (by decide) dX6_findToken_19 ?_
      refine g_bipush (v := 32) C dX6_findToken_20 (by decide) ?_
      refine g_icmp_ne (tgt := 38) C dX6_findToken_22 (by decide) (fun c22 => ?_) (fun c22 => ?_)
      · skip
        rw [if_neg c22] at ht
        subst ht
        refine g_aload_n C dX6_findToken_38 rfl ?_
        refine g_get C kwX6 0 rfl rfl 3 (by decide) kfX6_29 rfl dX6_findToken_39 ?_
        refine g_aload_n C dX6_findToken_42 rfl ?_
        refine g_get C kwX6 0 rfl rfl 2 (by decide) kfX6_22 rfl dX6_findToken_43 ?_
        refine g_icmp_ge (tgt := 53) C dX6_findToken_46 (by decide) (fun c46 => ?_) (fun c46 => ?_)
        · skip
          refine g_iconst (v := 0) C dX6_findToken_53 (by decide) ?_
          exact g_zret C hR (by first | exact Or.inl rfl | exact Or.inr rfl | exact bI01 _) (⟨rI_f (Nat.not_lt.mpr (nx_ge (by omega) (by omega) c46)), rfl⟩) dX6_findToken_54
        · skip
          refine g_iconst (v := 1) C dX6_findToken_49 (by decide) ?_
          refine g_goto (tgt := 54) C dX6_findToken_50 (by decide) ?_
          exact g_zret C hR (by first | exact Or.inl rfl | exact Or.inr rfl | exact bI01 _) (⟨rI_t (nx_nge (by omega) (by omega) c46), rfl⟩) dX6_findToken_54
      · skip
        rw [if_pos c22] at ht
        refine g_aload_n C dX6_findToken_25 rfl ?_
        refine g_dup C dX6_findToken_26 rfl ?_
        refine g_get C kwX6 0 rfl rfl 3 (by decide) kfX6_29 rfl dX6_findToken_27 ?_
        refine g_iconst (v := 1) C dX6_findToken_30 (by decide) ?_
        refine g_iadd C dX6_findToken_31 ?_
        refine g_topi (v := nI (a + 1)) (nI_1 a) ?_
        refine g_put (ws' := [(r, .inr (6, [.ref tx, .ref p, .int (nI le), .int (nI (a + 1)), .int it, .int fa, .int b1, .int b2, .int b3])), aC E tx 100 tf]) C kwX6 tyX6 tyX6_ok nmX6 0 rfl rfl 3 (by decide) kfX6_29 rfl rfl rfl (Nat.le_of_ble_eq_true rfl) rfl dX6_findToken_32 ?_
        refine g_goto (tgt := 0) C dX6_findToken_35 (by decide) ?_
        exact ih (a + 1) (by omega) ht

theorem c_X6_findToken (l : Launch) (E : EX) (r : Nat) (tx : Nat) (p : Nat) (le : Nat) (a : Nat) (it : Int32) (fa : Int32) (b1 : Int32) (b2 : Int32) (b3 : Int32) (tf : Nat → Int32) (hle : le ≤ 100) (ha : a ≤ le) : Ct l E yX6_findToken cX6_findToken 1 (some .boolean) (rmL 1 0 0) [.ref r] [(r, .inr (6, [.ref tx, .ref p, .int (nI le), .int (nI a), .int it, .int fa, .int b1, .int b2, .int b3])), aC E tx 100 tf] (fun (rv_ : Option Value) (rw_ : va_W) => rv_ = some (.int (bI (tk tf le a < le))) ∧ rw_ = [(r, .inr (6, [.ref tx, .ref p, .int (nI le), .int (nI (tk tf le a)), .int it, .int fa, .int b1, .int b2, .int b3])), aC E tx 100 tf]) 0 0 := by
  refine Ct_of (by decide) (Nat.le_of_ble_eq_true rfl) ?_
  intro k hkl hnl C hR hm_
  subst hkl
  exact lp_X6_ft C hnl hle hR (le - a) a (by omega) rfl

set_option maxHeartbeats 4000000 in
set_option maxRecDepth 100000 in
theorem tl_X6_num {k : KX} {E : EX} (C : Cx k E cX6_number RX6 (rmL 3 0 0)) (hnl : ∀ j : Nat, j < 6 → j < k.nL) {r : Nat} {tx : Nat} {p : Nat} {le : Nat} {it : Int32} {b1 : Int32} {b2 : Int32} {b3 : Int32} {tf : Nat → Int32} {lo : Int32} {hh : Int32} (hle : le ≤ 100) (hh9 : hh ≤ 9) {s0 : Nat} (hs0 : s0 ≤ le) (hR : Rt k E (fun (rv_ : Option Value) (rw_ : va_W) => ∃ (val : Int32) (at2 : Int32) (fa2 : Int32), rv_ = some (.int val) ∧ rw_ = [(r, .inr (6, [.ref tx, .ref p, .int (nI le), .int at2, .int it, .int fa2, .int b1, .int b2, .int b3])), aC E tx 100 tf] ∧ (numOK tf le (s0) lo hh → val = tf (s0) - 48 ∧ at2 = nI (s0 + 1) ∧ fa2 = -1) ∧ (¬ numOK tf le s0 lo hh → fa2 = nI s0)) 0 0 (some .int)) : ∀ (b vN : Nat), b ≤ le → NumInv tf s0 b vN → ¬ (b < le ∧ isD (tf b)) → G k E 0 0 91 [some (.ref r), some (.int lo), some (.int hh), some (.int (nI s0)), some (.int (nI vN)), none] [] [(r, .inr (6, [.ref tx, .ref p, .int (nI le), .int (nI b), .int it, .int (-1), .int b1, .int b2, .int b3])), aC E tx 100 tf] := by
  intro b vN hb hI hend
  have hsb := hI.1
  have hv100 := hI.2.2.1
  refine g_aload_n C dX6_number_91 rfl ?_
  refine g_get C kwX6 0 rfl rfl 3 (by decide) kfX6_29 rfl dX6_number_92 ?_
  refine g_iload_n C dX6_number_95 rfl ?_
  refine g_iconst (v := 1) C dX6_number_96 (by decide) ?_
  refine g_iadd C dX6_number_97 ?_
  refine g_topi (v := nI (s0 + 1)) (nI_1 s0) ?_
  refine g_icmp_eq (tgt := 120) C dX6_number_98 (by decide) (fun c98 => ?_) (fun c98 => ?_)
  · skip
    have hpl : b = s0 + 1 ∨ (s0 < b ∧ ¬ tf s0 = 48) := Or.inl ((nI_eq (by omega) (by omega)).mp c98)
    refine g_iconst (v := 1) C dX6_number_120 (by decide) ?_
    refine g_goto (tgt := 125) C dX6_number_121 (by decide) ?_
    refine g_istore (lv' := [some (.ref r), some (.int lo), some (.int hh), some (.int (nI s0)), some (.int (nI vN)), some (.int 1)]) C dX6_number_125 (hnl 5 (by decide)) rfl rfl ?_
    refine g_iload C dX6_number_127 rfl ?_
    refine g_if_eq (tgt := 142) C dX6_number_129 (by decide) (fun c129 => ?_) (fun c129 => ?_)
    · skip
      exact absurd c129 (by decide)
    · skip
      refine g_iload C dX6_number_132 rfl ?_
      refine g_iload_n C dX6_number_134 rfl ?_
      refine g_iload_n C dX6_number_135 rfl ?_
      refine g_callSN C (c_X8_within k.l E (nI vN) lo hh) kcX8_within (by decide) knX8 ktX8_within ⟨rfl, rfl⟩ kdX8_within ⟨by decide, by decide⟩ ⟨by decide, by decide⟩ [] [0, 1] rfl (wr := [(r, .inr (6, [.ref tx, .ref p, .int (nI le), .int (nI b), .int it, .int (-1), .int b1, .int b2, .int b3])), aC E tx 100 tf]) rfl (by decide +kernel) (by decide +kernel) (by decide +kernel) rfl (As := [.int (nI vN), .int lo, .int hh]) (rest := []) rfl (Nat.le_of_ble_eq_true rfl) dX6_number_136 (fun rv_ rw_ hp_ => ?_)
      obtain ⟨rfl, rfl⟩ := hp_
      refine g_rep [0, 1] (ws' := [(r, .inr (6, [.ref tx, .ref p, .int (nI le), .int (nI b), .int it, .int (-1), .int b1, .int b2, .int b3])), aC E tx 100 tf]) (st' := [.int (bI (lo ≤ (nI vN) ∧ (nI vN) ≤ hh))]) (n' := 0) (z' := 0) (pc' := 139) rfl rfl rfl rfl (by decide +kernel) rfl ?_
      refine g_if_ne (tgt := 147) C dX6_number_139 (by decide) (fun c139 => ?_) (fun c139 => ?_)
      · skip
        refine g_iload C dX6_number_147 rfl ?_
        exact g_iret C hR (⟨nI vN, nI b, -1, rfl, rfl, fun _ => ⟨(num_ok hI hb hend hpl (bI_1 c139) hh9).2.1, by rw [(num_ok hI hb hend hpl (bI_1 c139) hh9).2.2], rfl⟩, fun q => absurd (num_ok hI hb hend hpl (bI_1 c139) hh9).1 q⟩) dX6_number_149
      · skip
        have hnk := num_no (lo := lo) (hh := hh) hI hb hend (Or.inr (bI_0 c139))
        refine g_aload_n C dX6_number_142 rfl ?_
        refine g_iload_n C dX6_number_143 rfl ?_
        refine g_put (ws' := [(r, .inr (6, [.ref tx, .ref p, .int (nI le), .int (nI b), .int it, .int (nI s0), .int b1, .int b2, .int b3])), aC E tx 100 tf]) C kwX6 tyX6 tyX6_ok nmX6 0 rfl rfl 5 (by decide) kfX6_35 rfl rfl rfl (Nat.le_of_ble_eq_true rfl) rfl dX6_number_144 ?_
        refine g_iload C dX6_number_147 rfl ?_
        exact g_iret C hR (⟨nI vN, nI b, nI s0, rfl, rfl, fun q => absurd q hnk, fun _ => rfl⟩) dX6_number_149
  · skip
    refine g_aload_n C dX6_number_101 rfl ?_
    refine g_get C kwX6 0 rfl rfl 3 (by decide) kfX6_29 rfl dX6_number_102 ?_
    refine g_iload_n C dX6_number_105 rfl ?_
    refine g_icmp_le (tgt := 124) C dX6_number_106 (by decide) (fun c106 => ?_) (fun c106 => ?_)
    · skip
      have hnk := num_no (lo := lo) (hh := hh) hI hb hend (Or.inl (fun q => q.elim (fun z => c98 (by rw [z])) (fun z => absurd (nx_ge (by omega) (by omega) c106) (by omega))))
      refine g_iconst (v := 0) C dX6_number_124 (by decide) ?_
      refine g_istore (lv' := [some (.ref r), some (.int lo), some (.int hh), some (.int (nI s0)), some (.int (nI vN)), some (.int 0)]) C dX6_number_125 (hnl 5 (by decide)) rfl rfl ?_
      refine g_iload C dX6_number_127 rfl ?_
      refine g_if_eq (tgt := 142) C dX6_number_129 (by decide) (fun c129 => ?_) (fun c129 => ?_)
      · skip
        refine g_aload_n C dX6_number_142 rfl ?_
        refine g_iload_n C dX6_number_143 rfl ?_
        refine g_put (ws' := [(r, .inr (6, [.ref tx, .ref p, .int (nI le), .int (nI b), .int it, .int (nI s0), .int b1, .int b2, .int b3])), aC E tx 100 tf]) C kwX6 tyX6 tyX6_ok nmX6 0 rfl rfl 5 (by decide) kfX6_35 rfl rfl rfl (Nat.le_of_ble_eq_true rfl) rfl dX6_number_144 ?_
        refine g_iload C dX6_number_147 rfl ?_
        exact g_iret C hR (⟨nI vN, nI b, nI s0, rfl, rfl, fun q => absurd q hnk, fun _ => rfl⟩) dX6_number_149
      · skip
        exact absurd rfl c129
    · skip
      refine g_aload_n C dX6_number_109 rfl ?_
      refine g_get C kwX6 0 rfl rfl 0 (by decide) kfX6_9 rfl dX6_number_110 ?_
      refine g_iload_n C dX6_number_113 rfl ?_
      refine g_cald C 1 s0 rfl (rfl) (by have := nx_nge (by omega) (by omega) c106; omega) (by decide) dX6_number_114 ?_
      refine g_bipush (v := 48) C dX6_number_115 (by decide) ?_
      refine g_icmp_eq (tgt := 124) C dX6_number_117 (by decide) (fun c117 => ?_) (fun c117 => ?_)
      · skip
        have hnk := num_no (lo := lo) (hh := hh) hI hb hend (Or.inl (fun q => q.elim (fun z => c98 (by rw [z])) (fun z => z.2 c117)))
        refine g_iconst (v := 0) C dX6_number_124 (by decide) ?_
        refine g_istore (lv' := [some (.ref r), some (.int lo), some (.int hh), some (.int (nI s0)), some (.int (nI vN)), some (.int 0)]) C dX6_number_125 (hnl 5 (by decide)) rfl rfl ?_
        refine g_iload C dX6_number_127 rfl ?_
        refine g_if_eq (tgt := 142) C dX6_number_129 (by decide) (fun c129 => ?_) (fun c129 => ?_)
        · skip
          refine g_aload_n C dX6_number_142 rfl ?_
          refine g_iload_n C dX6_number_143 rfl ?_
          refine g_put (ws' := [(r, .inr (6, [.ref tx, .ref p, .int (nI le), .int (nI b), .int it, .int (nI s0), .int b1, .int b2, .int b3])), aC E tx 100 tf]) C kwX6 tyX6 tyX6_ok nmX6 0 rfl rfl 5 (by decide) kfX6_35 rfl rfl rfl (Nat.le_of_ble_eq_true rfl) rfl dX6_number_144 ?_
          refine g_iload C dX6_number_147 rfl ?_
          exact g_iret C hR (⟨nI vN, nI b, nI s0, rfl, rfl, fun q => absurd q hnk, fun _ => rfl⟩) dX6_number_149
        · skip
          exact absurd rfl c129
      · skip
        have hpl : b = s0 + 1 ∨ (s0 < b ∧ ¬ tf s0 = 48) := Or.inr ⟨nx_nge (by omega) (by omega) c106, c117⟩
        refine g_iconst (v := 1) C dX6_number_120 (by decide) ?_
        refine g_goto (tgt := 125) C dX6_number_121 (by decide) ?_
        refine g_istore (lv' := [some (.ref r), some (.int lo), some (.int hh), some (.int (nI s0)), some (.int (nI vN)), some (.int 1)]) C dX6_number_125 (hnl 5 (by decide)) rfl rfl ?_
        refine g_iload C dX6_number_127 rfl ?_
        refine g_if_eq (tgt := 142) C dX6_number_129 (by decide) (fun c129 => ?_) (fun c129 => ?_)
        · skip
          exact absurd c129 (by decide)
        · skip
          refine g_iload C dX6_number_132 rfl ?_
          refine g_iload_n C dX6_number_134 rfl ?_
          refine g_iload_n C dX6_number_135 rfl ?_
          refine g_callSN C (c_X8_within k.l E (nI vN) lo hh) kcX8_within (by decide) knX8 ktX8_within ⟨rfl, rfl⟩ kdX8_within ⟨by decide, by decide⟩ ⟨by decide, by decide⟩ [] [0, 1] rfl (wr := [(r, .inr (6, [.ref tx, .ref p, .int (nI le), .int (nI b), .int it, .int (-1), .int b1, .int b2, .int b3])), aC E tx 100 tf]) rfl (by decide +kernel) (by decide +kernel) (by decide +kernel) rfl (As := [.int (nI vN), .int lo, .int hh]) (rest := []) rfl (Nat.le_of_ble_eq_true rfl) dX6_number_136 (fun rv_ rw_ hp_ => ?_)
          obtain ⟨rfl, rfl⟩ := hp_
          refine g_rep [0, 1] (ws' := [(r, .inr (6, [.ref tx, .ref p, .int (nI le), .int (nI b), .int it, .int (-1), .int b1, .int b2, .int b3])), aC E tx 100 tf]) (st' := [.int (bI (lo ≤ (nI vN) ∧ (nI vN) ≤ hh))]) (n' := 0) (z' := 0) (pc' := 139) rfl rfl rfl rfl (by decide +kernel) rfl ?_
          refine g_if_ne (tgt := 147) C dX6_number_139 (by decide) (fun c139 => ?_) (fun c139 => ?_)
          · skip
            refine g_iload C dX6_number_147 rfl ?_
            exact g_iret C hR (⟨nI vN, nI b, -1, rfl, rfl, fun _ => ⟨(num_ok hI hb hend hpl (bI_1 c139) hh9).2.1, by rw [(num_ok hI hb hend hpl (bI_1 c139) hh9).2.2], rfl⟩, fun q => absurd (num_ok hI hb hend hpl (bI_1 c139) hh9).1 q⟩) dX6_number_149
          · skip
            have hnk := num_no (lo := lo) (hh := hh) hI hb hend (Or.inr (bI_0 c139))
            refine g_aload_n C dX6_number_142 rfl ?_
            refine g_iload_n C dX6_number_143 rfl ?_
            refine g_put (ws' := [(r, .inr (6, [.ref tx, .ref p, .int (nI le), .int (nI b), .int it, .int (nI s0), .int b1, .int b2, .int b3])), aC E tx 100 tf]) C kwX6 tyX6 tyX6_ok nmX6 0 rfl rfl 5 (by decide) kfX6_35 rfl rfl rfl (Nat.le_of_ble_eq_true rfl) rfl dX6_number_144 ?_
            refine g_iload C dX6_number_147 rfl ?_
            exact g_iret C hR (⟨nI vN, nI b, nI s0, rfl, rfl, fun q => absurd q hnk, fun _ => rfl⟩) dX6_number_149

set_option maxHeartbeats 4000000 in
set_option maxRecDepth 100000 in
theorem lp_X6_num {k : KX} {E : EX} (C : Cx k E cX6_number RX6 (rmL 3 0 0)) (hnl : ∀ j : Nat, j < 6 → j < k.nL) {r : Nat} {tx : Nat} {p : Nat} {le : Nat} {it : Int32} {b1 : Int32} {b2 : Int32} {b3 : Int32} {tf : Nat → Int32} {lo : Int32} {hh : Int32} (hle : le ≤ 100) (hh9 : hh ≤ 9) {s0 : Nat} (hs0 : s0 ≤ le) (hR : Rt k E (fun (rv_ : Option Value) (rw_ : va_W) => ∃ (val : Int32) (at2 : Int32) (fa2 : Int32), rv_ = some (.int val) ∧ rw_ = [(r, .inr (6, [.ref tx, .ref p, .int (nI le), .int at2, .int it, .int fa2, .int b1, .int b2, .int b3])), aC E tx 100 tf] ∧ (numOK tf le (s0) lo hh → val = tf (s0) - 48 ∧ at2 = nI (s0 + 1) ∧ fa2 = -1) ∧ (¬ numOK tf le s0 lo hh → fa2 = nI s0)) 0 0 (some .int)) : ∀ (f b vN : Nat), b + f = le → NumInv tf s0 b vN → G k E 0 0 23 [some (.ref r), some (.int lo), some (.int hh), some (.int (nI s0)), some (.int (nI vN)), none] [] [(r, .inr (6, [.ref tx, .ref p, .int (nI le), .int (nI b), .int it, .int (-1), .int b1, .int b2, .int b3])), aC E tx 100 tf] := by
  intro f
  induction f with
  | zero =>
    intro b vN hf hI
    refine g_aload_n C dX6_number_23 rfl ?_
    refine g_get C kwX6 0 rfl rfl 3 (by decide) kfX6_29 rfl dX6_number_24 ?_
    refine g_aload_n C dX6_number_27 rfl ?_
    refine g_get C kwX6 0 rfl rfl 2 (by decide) kfX6_22 rfl dX6_number_28 ?_
    refine g_icmp_ge (tgt := 91) C dX6_number_31 (by decide) (fun c31 => ?_) (fun c31 => ?_)
    · skip
      exact tl_X6_num C hnl hle hh9 hs0 hR b vN (by omega) hI (fun q => by omega)
    · skip
      exact absurd ((nI_leI (by omega) (by omega)).mpr (by omega)) c31
  | succ f ih =>
    intro b vN hf hI
    refine g_aload_n C dX6_number_23 rfl ?_
    refine g_get C kwX6 0 rfl rfl 3 (by decide) kfX6_29 rfl dX6_number_24 ?_
    refine g_aload_n C dX6_number_27 rfl ?_
    refine g_get C kwX6 0 rfl rfl 2 (by decide) kfX6_22 rfl dX6_number_28 ?_
    refine g_icmp_ge (tgt := 91) C dX6_number_31 (by decide) (fun c31 => ?_) (fun c31 => ?_)
    · skip
      exact absurd (nx_ge (by omega) (by omega) c31) (by omega)
    · skip
      refine g_aload_n C dX6_number_34 rfl ?_
      refine g_get C kwX6 0 rfl rfl 0 (by decide) kfX6_9 rfl dX6_number_35 ?_
      refine g_aload_n C dX6_number_38 rfl ?_
      refine g_get C kwX6 0 rfl rfl 3 (by decide) kfX6_29 rfl dX6_number_39 ?_
      refine g_cald C 1 b rfl (rfl) (by omega) (by decide) dX6_number_42 ?_
      refine g_bipush (v := 48) C dX6_number_43 (by decide) ?_
      refine g_bipush (v := 57) C dX6_number_45 (by decide) ?_
      refine g_callSN C (c_X8_within k.l E (tf b) 48 57) kcX8_within (by decide) knX8 ktX8_within ⟨rfl, rfl⟩ kdX8_within ⟨by decide, by decide⟩ ⟨by decide, by decide⟩ [] [0, 1] rfl (wr := [(r, .inr (6, [.ref tx, .ref p, .int (nI le), .int (nI b), .int it, .int (-1), .int b1, .int b2, .int b3])), aC E tx 100 tf]) rfl (by decide +kernel) (by decide +kernel) (by decide +kernel) rfl (As := [.int (tf b), .int 48, .int 57]) (rest := []) rfl (Nat.le_of_ble_eq_true rfl) dX6_number_47 (fun rv_ rw_ hp_ => ?_)
      obtain ⟨rfl, rfl⟩ := hp_
      refine g_rep [0, 1] (ws' := [(r, .inr (6, [.ref tx, .ref p, .int (nI le), .int (nI b), .int it, .int (-1), .int b1, .int b2, .int b3])), aC E tx 100 tf]) (st' := [.int (bI (48 ≤ (tf b) ∧ (tf b) ≤ 57))]) (n' := 0) (z' := 0) (pc' := 50) rfl rfl rfl rfl (by decide +kernel) rfl ?_
      refine g_if_eq (tgt := 91) C dX6_number_50 (by decide) (fun c50 => ?_) (fun c50 => ?_)
      · skip
        exact tl_X6_num C hnl hle hh9 hs0 hR b vN (by omega) hI (fun q => bI_0 c50 q.2)
      · skip
        obtain ⟨v2, ev2, hI2⟩ := NumInv_1 hI (bI_1 c50)
        refine g_bipush (v := 100) C dX6_number_53 (by decide) ?_
        refine g_iload C dX6_number_55 rfl ?_
        refine g_bipush (v := 10) C dX6_number_57 (by decide) ?_
        refine g_imul C dX6_number_59 ?_
        refine g_aload_n C dX6_number_60 rfl ?_
        refine g_get C kwX6 0 rfl rfl 0 (by decide) kfX6_9 rfl dX6_number_61 ?_
        refine g_aload_n C dX6_number_64 rfl ?_
        refine g_get C kwX6 0 rfl rfl 3 (by decide) kfX6_29 rfl dX6_number_65 ?_
        refine g_cald C 1 b rfl (rfl) (by omega) (by decide) dX6_number_68 ?_
        refine g_bipush (v := 48) C dX6_number_69 (by decide) ?_
        refine g_isub C dX6_number_71 ?_
        refine g_iadd C dX6_number_72 ?_
        refine g_min C kmX6_89 (by decide) (Nat.le_of_ble_eq_true rfl) ⟨by decide, by decide⟩ dX6_number_73 ?_
        refine g_topi (v := nI v2) (ev2) ?_
        refine g_istore (lv' := [some (.ref r), some (.int lo), some (.int hh), some (.int (nI s0)), some (.int (nI v2)), none]) C dX6_number_76 (hnl 4 (by decide)) rfl rfl ?_
        refine g_aload_n C dX6_number_78 rfl ?_
        refine g_dup C dX6_number_79 rfl ?_
        refine g_get C kwX6 0 rfl rfl 3 (by decide) kfX6_29 rfl dX6_number_80 ?_
        refine g_iconst (v := 1) C dX6_number_83 (by decide) ?_
        refine g_iadd C dX6_number_84 ?_
        refine g_topi (v := nI (b + 1)) (nI_1 b) ?_
        refine g_put (ws' := [(r, .inr (6, [.ref tx, .ref p, .int (nI le), .int (nI (b + 1)), .int it, .int (-1), .int b1, .int b2, .int b3])), aC E tx 100 tf]) C kwX6 tyX6 tyX6_ok nmX6 0 rfl rfl 3 (by decide) kfX6_29 rfl rfl rfl (Nat.le_of_ble_eq_true rfl) rfl dX6_number_85 ?_
        refine g_goto (tgt := 23) C dX6_number_88 (by decide) ?_
        exact ih (b + 1) v2 (by omega) hI2

set_option maxHeartbeats 4000000 in
set_option maxRecDepth 100000 in
theorem c_X6_number (l : Launch) (E : EX) (r : Nat) (tx : Nat) (p : Nat) (le : Nat) (a : Nat) (it : Int32) (b1 : Int32) (b2 : Int32) (b3 : Int32) (tf : Nat → Int32) (lo : Int32) (hh : Int32) (hle : le ≤ 100) (ha : a ≤ le) (hh9 : hh ≤ 9) : Ct l E yX6_number cX6_number 6 (some .int) (rmL 3 0 0) [.ref r, .int lo, .int hh] [(r, .inr (6, [.ref tx, .ref p, .int (nI le), .int (nI a), .int it, .int (-1), .int b1, .int b2, .int b3])), aC E tx 100 tf] (fun (rv_ : Option Value) (rw_ : va_W) => ∃ (val : Int32) (at2 : Int32) (fa2 : Int32), rv_ = some (.int val) ∧ rw_ = [(r, .inr (6, [.ref tx, .ref p, .int (nI le), .int at2, .int it, .int fa2, .int b1, .int b2, .int b3])), aC E tx 100 tf] ∧ (numOK tf le (tk tf le a) lo hh → val = tf (tk tf le a) - 48 ∧ at2 = nI (tk tf le a + 1) ∧ fa2 = -1) ∧ (¬ numOK tf le (tk tf le a) lo hh → fa2 = nI (tk tf le a))) 0 0 := by
  refine Ct_of (by decide) (Nat.le_of_ble_eq_true rfl) ?_
  intro k hkl hnl C hR hin_
  subst hkl
  show G k E 0 0 0 [some (.ref r), some (.int lo), some (.int hh), none, none, none] [] [(r, .inr (6, [.ref tx, .ref p, .int (nI le), .int (nI a), .int it, .int (-1), .int b1, .int b2, .int b3])), aC E tx 100 tf]
  refine g_aload_n C dX6_number_0 rfl ?_
  refine g_get C kwX6 0 rfl rfl 5 (by decide) kfX6_35 rfl dX6_number_1 ?_
  refine g_iconst (v := (-1)) C dX6_number_4 (by decide) ?_
  refine g_icmp_eq (tgt := 10) C dX6_number_5 (by decide) (fun c5 => ?_) (fun c5 => ?_)
  · skip
    refine g_aload_n C dX6_number_10 rfl ?_
    refine g_callV C (c_X6_findToken k.l E r tx p le a it (-1) b1 b2 b3 tf (by first | assumption | omega) (by first | assumption | omega)) kmX6_48 kiX6_findToken ksX6_findToken knX6 kcX6_findToken ⟨rfl, rfl⟩ ⟨rfl, kdX6_findToken⟩ ⟨by decide, by decide⟩ ⟨by decide, by decide⟩ [0, 1] [] rfl (wr := []) rfl (by decide +kernel) (by decide +kernel) (by decide +kernel) 0 6 rfl rfl rfl (As := []) (rest := []) rfl (Nat.le_of_ble_eq_true rfl) dX6_number_11 (fun rv_ rw_ hp_ => ?_)
    obtain ⟨rfl, rfl⟩ := hp_
    refine g_rep [0, 1] (ws' := [(r, .inr (6, [.ref tx, .ref p, .int (nI le), .int (nI (tk tf le a)), .int it, .int (-1), .int b1, .int b2, .int b3])), aC E tx 100 tf]) (st' := [.int (bI (tk tf le a < le))]) (n' := 0) (z' := 0) (pc' := 14) rfl rfl rfl rfl (by decide +kernel) rfl ?_
    have htk := tk_le (tf := tf) ha
    refine g_pop C dX6_number_14 rfl ?_
    refine g_aload_n C dX6_number_15 rfl ?_
    refine g_get C kwX6 0 rfl rfl 3 (by decide) kfX6_29 rfl dX6_number_16 ?_
    refine g_istore_n (lv' := [some (.ref r), some (.int lo), some (.int hh), some (.int (nI (tk tf le a))), none, none]) C dX6_number_19 (hnl 3 (by decide)) rfl rfl ?_
    refine g_iconst (v := 0) C dX6_number_20 (by decide) ?_
    refine g_istore (lv' := [some (.ref r), some (.int lo), some (.int hh), some (.int (nI (tk tf le a))), some (.int 0), none]) C dX6_number_21 (hnl 4 (by decide)) rfl rfl ?_
    exact lp_X6_num C hnl hle hh9 htk.2 hR (le - tk tf le a) (tk tf le a) 0 (by omega) (NumInv_0 _ _)
  · skip
    exact absurd rfl c5

theorem nI_nm1 {e : Nat} (h : e < 2 ^ 31) : ¬ nI e = -1 := fun q => by
  have := congrArg Int32.toInt q
  rw [nI_toInt h, show (-1 : Int32).toInt = -1 by decide] at this
  omega

set_option maxHeartbeats 4000000 in
set_option maxRecDepth 100000 in
theorem c_X6_numF (l : Launch) (E : EX) (r : Nat) (tx : Nat) (p : Nat) (le : Nat) (at_ : Int32) (it : Int32) (e : Nat) (b1 : Int32) (b2 : Int32) (b3 : Int32) (lo : Int32) (hh : Int32) (he : e ≤ 100) : Ct l E yX6_number cX6_number 6 (some .int) (rmL 3 0 0) [.ref r, .int lo, .int hh] [(r, .inr (6, [.ref tx, .ref p, .int (nI le), .int at_, .int it, .int (nI e), .int b1, .int b2, .int b3]))] (fun (rv_ : Option Value) (rw_ : va_W) => rv_ = some (.int lo) ∧ rw_ = [(r, .inr (6, [.ref tx, .ref p, .int (nI le), .int at_, .int it, .int (nI e), .int b1, .int b2, .int b3]))]) 0 0 := by
  refine Ct_of (by decide) (Nat.le_of_ble_eq_true rfl) ?_
  intro k hkl hnl C hR hin_
  subst hkl
  show G k E 0 0 0 [some (.ref r), some (.int lo), some (.int hh), none, none, none] [] [(r, .inr (6, [.ref tx, .ref p, .int (nI le), .int at_, .int it, .int (nI e), .int b1, .int b2, .int b3]))]
  refine g_aload_n C dX6_number_0 rfl ?_
  refine g_get C kwX6 0 rfl rfl 5 (by decide) kfX6_35 rfl dX6_number_1 ?_
  refine g_iconst (v := (-1)) C dX6_number_4 (by decide) ?_
  refine g_icmp_eq (tgt := 10) C dX6_number_5 (by decide) (fun c5 => ?_) (fun c5 => ?_)
  · skip
    exact absurd c5 (nI_nm1 (by omega))
  · skip
    refine g_iload_n C dX6_number_8 rfl ?_
    exact g_iret C hR (⟨rfl, rfl⟩) dX6_number_9

set_option maxHeartbeats 4000000 in
set_option maxRecDepth 100000 in
theorem c_X6_endItem (l : Launch) (E : EX) (r : Nat) (tx : Nat) (p : Nat) (le : Nat) (a : Nat) (it : Nat) (b1 : Int32) (b2 : Int32) (b3 : Int32) (tf : Nat → Int32) (hle : le ≤ 100) (ha : a ≤ le) : Ct l E yX6_endItem cX6_endItem 1 none (rmL 2 0 0) [.ref r] [(r, .inr (6, [.ref tx, .ref p, .int (nI le), .int (nI a), .int (nI it), .int (-1), .int b1, .int b2, .int b3])), aC E tx 100 tf] (fun (rv_ : Option Value) (rw_ : va_W) => ∃ (at2 : Int32) (it2 : Int32) (fa2 : Int32), rv_ = none ∧ rw_ = [(r, .inr (6, [.ref tx, .ref p, .int (nI le), .int at2, .int it2, .int fa2, .int b1, .int b2, .int b3])), aC E tx 100 tf] ∧ (tk tf le a < le ∧ tf (tk tf le a) = 59 → at2 = nI (tk tf le a + 1) ∧ it2 = nI (it + 1) ∧ fa2 = -1) ∧ (¬ (tk tf le a < le ∧ tf (tk tf le a) = 59) → fa2 = nI (tk tf le a))) 0 0 := by
  refine Ct_of (by decide) (Nat.le_of_ble_eq_true rfl) ?_
  intro k hkl hnl C hR hin_
  subst hkl
  show G k E 0 0 0 [some (.ref r)] [] [(r, .inr (6, [.ref tx, .ref p, .int (nI le), .int (nI a), .int (nI it), .int (-1), .int b1, .int b2, .int b3])), aC E tx 100 tf]
  refine g_aload_n C dX6_endItem_0 rfl ?_
  refine g_get C kwX6 0 rfl rfl 5 (by decide) kfX6_35 rfl dX6_endItem_1 ?_
  refine g_iconst (v := (-1)) C dX6_endItem_4 (by decide) ?_
  refine g_icmp_eq (tgt := 9) C dX6_endItem_5 (by decide) (fun c5 => ?_) (fun c5 => ?_)
  · skip
    refine g_aload_n C dX6_endItem_9 rfl ?_
    refine g_callV C (c_X6_findToken k.l E r tx p le a (nI it) (-1) b1 b2 b3 tf (by first | assumption | omega) (by first | assumption | omega)) kmX6_48 kiX6_findToken ksX6_findToken knX6 kcX6_findToken ⟨rfl, rfl⟩ ⟨rfl, kdX6_findToken⟩ ⟨by decide, by decide⟩ ⟨by decide, by decide⟩ [0, 1] [] rfl (wr := []) rfl (by decide +kernel) (by decide +kernel) (by decide +kernel) 0 6 rfl rfl rfl (As := []) (rest := []) rfl (Nat.le_of_ble_eq_true rfl) dX6_endItem_10 (fun rv_ rw_ hp_ => ?_)
    obtain ⟨rfl, rfl⟩ := hp_
    refine g_rep [0, 1] (ws' := [(r, .inr (6, [.ref tx, .ref p, .int (nI le), .int (nI (tk tf le a)), .int (nI it), .int (-1), .int b1, .int b2, .int b3])), aC E tx 100 tf]) (st' := [.int (bI (tk tf le a < le))]) (n' := 0) (z' := 0) (pc' := 13) rfl rfl rfl rfl (by decide +kernel) rfl ?_
    have htk := tk_le (tf := tf) ha
    refine g_if_eq (tgt := 53) C dX6_endItem_13 (by decide) (fun c13 => ?_) (fun c13 => ?_)
    · skip
      have hq : ¬ (tk tf le a < le ∧ tf (tk tf le a) = 59) := fun q => bI_0 c13 q.1
      refine g_aload_n C dX6_endItem_53 rfl ?_
      refine g_aload_n C dX6_endItem_54 rfl ?_
      refine g_get C kwX6 0 rfl rfl 3 (by decide) kfX6_29 rfl dX6_endItem_55 ?_
      refine g_put (ws' := [(r, .inr (6, [.ref tx, .ref p, .int (nI le), .int (nI (tk tf le a)), .int (nI it), .int (nI (tk tf le a)), .int b1, .int b2, .int b3])), aC E tx 100 tf]) C kwX6 tyX6 tyX6_ok nmX6 0 rfl rfl 5 (by decide) kfX6_35 rfl rfl rfl (Nat.le_of_ble_eq_true rfl) rfl dX6_endItem_58 ?_
      exact g_vret C hR (⟨_, _, _, rfl, rfl, fun q => absurd q hq, fun _ => rfl⟩) dX6_endItem_61
    · skip
      have hq1 := bI_1 c13
      refine g_aload_n C dX6_endItem_16 rfl ?_
      refine g_get C kwX6 0 rfl rfl 0 (by decide) kfX6_9 rfl dX6_endItem_17 ?_
      refine g_aload_n C dX6_endItem_20 rfl ?_
      refine g_get C kwX6 0 rfl rfl 3 (by decide) kfX6_29 rfl dX6_endItem_21 ?_
      refine g_cald C 1 (tk tf le a) rfl (rfl) (by omega) (by decide) dX6_endItem_24 ?_
      refine g_bipush (v := 59) C dX6_endItem_25 (by decide) ?_
      refine g_icmp_ne (tgt := 53) C dX6_endItem_27 (by decide) (fun c27 => ?_) (fun c27 => ?_)
      · skip
        have hq : ¬ (tk tf le a < le ∧ tf (tk tf le a) = 59) := fun q => c27 q.2
        refine g_aload_n C dX6_endItem_53 rfl ?_
        refine g_aload_n C dX6_endItem_54 rfl ?_
        refine g_get C kwX6 0 rfl rfl 3 (by decide) kfX6_29 rfl dX6_endItem_55 ?_
        refine g_put (ws' := [(r, .inr (6, [.ref tx, .ref p, .int (nI le), .int (nI (tk tf le a)), .int (nI it), .int (nI (tk tf le a)), .int b1, .int b2, .int b3])), aC E tx 100 tf]) C kwX6 tyX6 tyX6_ok nmX6 0 rfl rfl 5 (by decide) kfX6_35 rfl rfl rfl (Nat.le_of_ble_eq_true rfl) rfl dX6_endItem_58 ?_
        exact g_vret C hR (⟨_, _, _, rfl, rfl, fun q => absurd q hq, fun _ => rfl⟩) dX6_endItem_61
      · skip
        have hq : tk tf le a < le ∧ tf (tk tf le a) = 59 := ⟨hq1, c27⟩
        refine g_aload_n C dX6_endItem_30 rfl ?_
        refine g_dup C dX6_endItem_31 rfl ?_
        refine g_get C kwX6 0 rfl rfl 3 (by decide) kfX6_29 rfl dX6_endItem_32 ?_
        refine g_iconst (v := 1) C dX6_endItem_35 (by decide) ?_
        refine g_iadd C dX6_endItem_36 ?_
        refine g_topi (v := nI (tk tf le a + 1)) (nI_1 _) ?_
        refine g_put (ws' := [(r, .inr (6, [.ref tx, .ref p, .int (nI le), .int (nI (tk tf le a + 1)), .int (nI it), .int (-1), .int b1, .int b2, .int b3])), aC E tx 100 tf]) C kwX6 tyX6 tyX6_ok nmX6 0 rfl rfl 3 (by decide) kfX6_29 rfl rfl rfl (Nat.le_of_ble_eq_true rfl) rfl dX6_endItem_37 ?_
        refine g_aload_n C dX6_endItem_40 rfl ?_
        refine g_dup C dX6_endItem_41 rfl ?_
        refine g_get C kwX6 0 rfl rfl 4 (by decide) kfX6_32 rfl dX6_endItem_42 ?_
        refine g_iconst (v := 1) C dX6_endItem_45 (by decide) ?_
        refine g_iadd C dX6_endItem_46 ?_
        refine g_topi (v := nI (it + 1)) (nI_1 _) ?_
        refine g_put (ws' := [(r, .inr (6, [.ref tx, .ref p, .int (nI le), .int (nI (tk tf le a + 1)), .int (nI (it + 1)), .int (-1), .int b1, .int b2, .int b3])), aC E tx 100 tf]) C kwX6 tyX6 tyX6_ok nmX6 0 rfl rfl 4 (by decide) kfX6_32 rfl rfl rfl (Nat.le_of_ble_eq_true rfl) rfl dX6_endItem_47 ?_
        refine g_goto (tgt := 61) C dX6_endItem_50 (by decide) ?_
        exact g_vret C hR (⟨_, _, _, rfl, rfl, fun _ => ⟨rfl, rfl, rfl⟩, fun q => absurd hq q⟩) dX6_endItem_61
  · skip
    exact absurd rfl c5

set_option maxHeartbeats 4000000 in
set_option maxRecDepth 100000 in
theorem c_X6_endF (l : Launch) (E : EX) (r : Nat) (tx : Nat) (p : Nat) (le : Nat) (at_ : Int32) (it : Int32) (e : Nat) (b1 : Int32) (b2 : Int32) (b3 : Int32) (he : e ≤ 100) : Ct l E yX6_endItem cX6_endItem 1 none (rmL 2 0 0) [.ref r] [(r, .inr (6, [.ref tx, .ref p, .int (nI le), .int at_, .int it, .int (nI e), .int b1, .int b2, .int b3]))] (fun (rv_ : Option Value) (rw_ : va_W) => rv_ = none ∧ rw_ = [(r, .inr (6, [.ref tx, .ref p, .int (nI le), .int at_, .int it, .int (nI e), .int b1, .int b2, .int b3]))]) 0 0 := by
  refine Ct_of (by decide) (Nat.le_of_ble_eq_true rfl) ?_
  intro k hkl hnl C hR hin_
  subst hkl
  show G k E 0 0 0 [some (.ref r)] [] [(r, .inr (6, [.ref tx, .ref p, .int (nI le), .int at_, .int it, .int (nI e), .int b1, .int b2, .int b3]))]
  refine g_aload_n C dX6_endItem_0 rfl ?_
  refine g_get C kwX6 0 rfl rfl 5 (by decide) kfX6_35 rfl dX6_endItem_1 ?_
  refine g_iconst (v := (-1)) C dX6_endItem_4 (by decide) ?_
  refine g_icmp_eq (tgt := 9) C dX6_endItem_5 (by decide) (fun c5 => ?_) (fun c5 => ?_)
  · skip
    exact absurd c5 (nI_nm1 (by omega))
  · skip
    exact g_vret C hR (⟨rfl, rfl⟩) dX6_endItem_8

set_option maxHeartbeats 4000000 in
set_option maxRecDepth 100000 in
theorem c_X6_mayBegin (l : Launch) (E : EX) (r : Nat) (tx : Nat) (p : Nat) (le : Nat) (at_ : Int32) (it : Int32) (fa : Int32) (co : Nat → Int32) (ph : Nat) (pd : Nat) (pm : Nat) (n : Nat) (lg : Int32) (sf : Int32) (dg : Int32) (x : Int32) (hn : n ≤ 9) : Ct l E yX6_mayBegin cX6_mayBegin 2 (some .boolean) (rmL 1 0 0) [.ref r, .int x] [(r, .inr (6, [.ref tx, .ref p, .int (nI le), .int at_, .int it, .int fa, .int (bI (0 ≤ co 0)), .int (bI (0 ≤ co 1)), .int (bI (0 ≤ co 2))])), (p, .inr (5, [.ref ph, .ref pd, .ref pm, .int (nI n), .int lg, .int sf, .int dg]))] (fun (rv_ : Option Value) (rw_ : va_W) => rv_ = some (.int (bI (mayB x n co))) ∧ rw_ = [(r, .inr (6, [.ref tx, .ref p, .int (nI le), .int at_, .int it, .int fa, .int (bI (0 ≤ co 0)), .int (bI (0 ≤ co 1)), .int (bI (0 ≤ co 2))])), (p, .inr (5, [.ref ph, .ref pd, .ref pm, .int (nI n), .int lg, .int sf, .int dg]))]) 0 0 := by
  refine Ct_of (by decide) (Nat.le_of_ble_eq_true rfl) ?_
  intro k hkl hnl C hR hin_
  subst hkl
  show G k E 0 0 0 [some (.ref r), some (.int x)] [] [(r, .inr (6, [.ref tx, .ref p, .int (nI le), .int at_, .int it, .int fa, .int (bI (0 ≤ co 0)), .int (bI (0 ≤ co 1)), .int (bI (0 ≤ co 2))])), (p, .inr (5, [.ref ph, .ref pd, .ref pm, .int (nI n), .int lg, .int sf, .int dg]))]
  refine g_iload_n C dX6_mayBegin_0 rfl ?_
  by_cases h100 : x = 100
  · skip
    refine g_lookup (off := 87) (tgt := 88) C dX6_mayBegin_1 (by decide) (by rw [h100]; decide) (by decide) ?_
    refine g_aload_n C dX6_mayBegin_88 rfl ?_
    refine g_get C kwX6 0 rfl rfl 8 (by decide) kfX6_45 rfl dX6_mayBegin_89 ?_
    refine g_if_ne (tgt := 99) C dX6_mayBegin_92 (by decide) (fun c92 => ?_) (fun c92 => ?_)
    · skip
      refine g_iconst (v := 0) C dX6_mayBegin_99 (by decide) ?_
      exact g_zret C hR (by first | exact Or.inl rfl | exact Or.inr rfl | exact bI01 _) (⟨rI_f (fun q => absurd ((mb100 h100).mp q) (Int32.not_lt.mpr (bI_1 c92))), rfl⟩) dX6_mayBegin_100
    · skip
      refine g_iconst (v := 1) C dX6_mayBegin_95 (by decide) ?_
      refine g_goto (tgt := 100) C dX6_mayBegin_96 (by decide) ?_
      exact g_zret C hR (by first | exact Or.inl rfl | exact Or.inr rfl | exact bI01 _) (⟨rI_t ((mb100 h100).mpr (Int32.not_le.mp (bI_0 c92))), rfl⟩) dX6_mayBegin_100
  · skip
    by_cases h102 : x = 102
    · skip
      refine g_lookup (off := 74) (tgt := 75) C dX6_mayBegin_1 (by decide) (by rw [h102]; decide) (by decide) ?_
      refine g_aload_n C dX6_mayBegin_75 rfl ?_
      refine g_get C kwX6 0 rfl rfl 7 (by decide) kfX6_42 rfl dX6_mayBegin_76 ?_
      refine g_if_ne (tgt := 86) C dX6_mayBegin_79 (by decide) (fun c79 => ?_) (fun c79 => ?_)
      · skip
        refine g_iconst (v := 0) C dX6_mayBegin_86 (by decide) ?_
        exact g_zret C hR (by first | exact Or.inl rfl | exact Or.inr rfl | exact bI01 _) (⟨rI_f (fun q => absurd ((mb102 h102).mp q) (Int32.not_lt.mpr (bI_1 c79))), rfl⟩) dX6_mayBegin_87
      · skip
        refine g_iconst (v := 1) C dX6_mayBegin_82 (by decide) ?_
        refine g_goto (tgt := 87) C dX6_mayBegin_83 (by decide) ?_
        exact g_zret C hR (by first | exact Or.inl rfl | exact Or.inr rfl | exact bI01 _) (⟨rI_t ((mb102 h102).mpr (Int32.not_le.mp (bI_0 c79))), rfl⟩) dX6_mayBegin_87
    · skip
      by_cases h108 : x = 108
      · skip
        refine g_lookup (off := 61) (tgt := 62) C dX6_mayBegin_1 (by decide) (by rw [h108]; decide) (by decide) ?_
        refine g_aload_n C dX6_mayBegin_62 rfl ?_
        refine g_get C kwX6 0 rfl rfl 6 (by decide) kfX6_38 rfl dX6_mayBegin_63 ?_
        refine g_if_ne (tgt := 73) C dX6_mayBegin_66 (by decide) (fun c66 => ?_) (fun c66 => ?_)
        · skip
          refine g_iconst (v := 0) C dX6_mayBegin_73 (by decide) ?_
          exact g_zret C hR (by first | exact Or.inl rfl | exact Or.inr rfl | exact bI01 _) (⟨rI_f (fun q => absurd ((mb108 h108).mp q) (Int32.not_lt.mpr (bI_1 c66))), rfl⟩) dX6_mayBegin_74
        · skip
          refine g_iconst (v := 1) C dX6_mayBegin_69 (by decide) ?_
          refine g_goto (tgt := 74) C dX6_mayBegin_70 (by decide) ?_
          exact g_zret C hR (by first | exact Or.inl rfl | exact Or.inr rfl | exact bI01 _) (⟨rI_t ((mb108 h108).mpr (Int32.not_le.mp (bI_0 c66))), rfl⟩) dX6_mayBegin_74
      · skip
        by_cases h115 : x = 115
        · skip
          refine g_lookup (off := 43) (tgt := 44) C dX6_mayBegin_1 (by decide) (by rw [h115]; decide) (by decide) ?_
          refine g_aload_n C dX6_mayBegin_44 rfl ?_
          refine g_get C kwX6 0 rfl rfl 1 (by decide) kfX6_18 rfl dX6_mayBegin_45 ?_
          refine g_get C kwX5 1 rfl rfl 3 (by decide) kfX6_78 rfl dX6_mayBegin_48 ?_
          refine g_bipush (v := 9) C dX6_mayBegin_51 (by decide) ?_
          refine g_icmp_ge (tgt := 60) C dX6_mayBegin_53 (by decide) (fun c53 => ?_) (fun c53 => ?_)
          · skip
            refine g_iconst (v := 0) C dX6_mayBegin_60 (by decide) ?_
            exact g_zret C hR (by first | exact Or.inl rfl | exact Or.inr rfl | exact bI01 _) (⟨rI_f (fun q => absurd ((mb115 h115).mp q) (by have := nx_ge (a := 9) (by decide) (by omega) c53; omega)), rfl⟩) dX6_mayBegin_61
          · skip
            refine g_iconst (v := 1) C dX6_mayBegin_56 (by decide) ?_
            refine g_goto (tgt := 61) C dX6_mayBegin_57 (by decide) ?_
            exact g_zret C hR (by first | exact Or.inl rfl | exact Or.inr rfl | exact bI01 _) (⟨rI_t ((mb115 h115).mpr (nx_nge (a := 9) (by decide) (by omega) c53)), rfl⟩) dX6_mayBegin_61
        · skip
          refine g_lookup (off := 100) (tgt := 101) C dX6_mayBegin_1 (by decide) ((lv_osw h100 (by decide)).trans ((lv_osw h102 (by decide)).trans ((lv_osw h108 (by decide)).trans ((lv_osw h115 (by decide)).trans (rfl))))) (by decide) ?_
          refine g_iconst (v := 0) C dX6_mayBegin_101 (by decide) ?_
          exact g_zret C hR (by first | exact Or.inl rfl | exact Or.inr rfl | exact bI01 _) (⟨rI_f (mbNo h100 h102 h108 h115), rfl⟩) dX6_mayBegin_102

set_option maxHeartbeats 4000000 in
set_option maxRecDepth 100000 in
theorem c_X6_readStep (l : Launch) (E : EX) (r : Nat) (tx : Nat) (p : Nat) (le : Nat) (a : Nat) (it : Int32) (b1 : Int32) (b2 : Int32) (b3 : Int32) (tf : Nat → Int32) (ph : Nat) (pd : Nat) (pm : Nat) (n : Nat) (lg : Int32) (sf : Int32) (dg : Int32) (hi : Nat → Int32) (de : Nat → Int32) (pma : Nat → Int32) (hle : le ≤ 100) (ha : a ≤ le) (hn : n < 9) : Ct l E yX6_readStep cX6_readStep 4 none (rmL 4 0 0) [.ref r] [(r, .inr (6, [.ref tx, .ref p, .int (nI le), .int (nI a), .int it, .int (-1), .int b1, .int b2, .int b3])), aC E tx 100 tf, (p, .inr (5, [.ref ph, .ref pd, .ref pm, .int (nI n), .int lg, .int sf, .int dg])), aI E ph 9 hi, aI E pd 9 de, aI E pm 9 pma] (fun (rv_ : Option Value) (rw_ : va_W) => ∃ (at2 : Int32) (fa2 : Int32) (n2 : Int32) (hi2 : Nat → Int32) (de2 : Nat → Int32) (pma2 : Nat → Int32), rv_ = none ∧ rw_ = [(r, .inr (6, [.ref tx, .ref p, .int (nI le), .int at2, .int it, .int fa2, .int b1, .int b2, .int b3])), aC E tx 100 tf, (p, .inr (5, [.ref ph, .ref pd, .ref pm, .int n2, .int lg, .int sf, .int dg])), aI E ph 9 hi2, aI E pd 9 de2, aI E pm 9 pma2] ∧ (¬ numOK tf le (tk tf le a) 1 9 → fa2 = nI (tk tf le a)) ∧ (numOK tf le (tk tf le a) 1 9 → ¬ numOK tf le (tk tf le (tk tf le a + 1)) 1 9 → fa2 = nI (tk tf le (tk tf le a + 1))) ∧ (numOK tf le (tk tf le a) 1 9 → numOK tf le (tk tf le (tk tf le a + 1)) 1 9 → ¬ numOK tf le (tk tf le (tk tf le (tk tf le a + 1) + 1)) 0 5 → fa2 = nI (tk tf le (tk tf le (tk tf le a + 1) + 1))) ∧ (numOK tf le (tk tf le a) 1 9 → numOK tf le (tk tf le (tk tf le a + 1)) 1 9 → numOK tf le (tk tf le (tk tf le (tk tf le a + 1) + 1)) 0 5 → fa2 = -1 ∧ at2 = nI (tk tf le (tk tf le (tk tf le a + 1) + 1) + 1) ∧ n2 = nI (n + 1) ∧ hi2 = upd hi n (tf (tk tf le a) - 48) ∧ de2 = upd de n (tf (tk tf le (tk tf le a + 1)) - 48) ∧ pma2 = upd pma n (tf (tk tf le (tk tf le (tk tf le a + 1) + 1)) - 48))) 0 0 := by
  refine Ct_of (by decide) (Nat.le_of_ble_eq_true rfl) ?_
  intro k hkl hnl C hR hin_
  subst hkl
  have htk := tk_le (tf := tf) ha
  show G k E 0 0 0 [some (.ref r), none, none, none] [] [(r, .inr (6, [.ref tx, .ref p, .int (nI le), .int (nI a), .int it, .int (-1), .int b1, .int b2, .int b3])), aC E tx 100 tf, (p, .inr (5, [.ref ph, .ref pd, .ref pm, .int (nI n), .int lg, .int sf, .int dg])), aI E ph 9 hi, aI E pd 9 de, aI E pm 9 pma]
  refine g_aload_n C dX6_readStep_0 rfl ?_
  refine g_iconst (v := 1) C dX6_readStep_1 (by decide) ?_
  refine g_bipush (v := 9) C dX6_readStep_2 (by decide) ?_
  refine g_callV C (c_X6_number k.l E r tx p le a it b1 b2 b3 tf 1 9 (by first | assumption | omega) (ha) (by decide)) kmX6_62 kiX6_number ksX6_number knX6 kcX6_number ⟨rfl, rfl⟩ ⟨rfl, kdX6_number⟩ ⟨by decide, by decide⟩ ⟨by decide, by decide⟩ [0, 1] [2, 3, 4, 5] rfl (wr := [(p, .inr (5, [.ref ph, .ref pd, .ref pm, .int (nI n), .int lg, .int sf, .int dg])), aI E ph 9 hi, aI E pd 9 de, aI E pm 9 pma]) rfl (by decide +kernel) (by decide +kernel) (by decide +kernel) 0 6 rfl rfl rfl (As := [.int 1, .int 9]) (rest := []) rfl (Nat.le_of_ble_eq_true rfl) dX6_readStep_4 (fun rv_ rw_ hp_ => ?_)
  obtain ⟨val_1, at2_2, fa2_3, rfl, rfl, hok_4, hno_5⟩ := hp_
  refine g_rep [4, 5, 0, 1, 2, 3] (ws' := [(r, .inr (6, [.ref tx, .ref p, .int (nI le), .int at2_2, .int it, .int fa2_3, .int b1, .int b2, .int b3])), aC E tx 100 tf, (p, .inr (5, [.ref ph, .ref pd, .ref pm, .int (nI n), .int lg, .int sf, .int dg])), aI E ph 9 hi, aI E pd 9 de, aI E pm 9 pma]) (st' := [.int val_1]) (n' := 0) (z' := 0) (pc' := 7) rfl rfl rfl rfl (by decide +kernel) rfl ?_
  by_cases k1 : numOK tf le (tk tf le a) 1 9
  · skip
    obtain ⟨rfl, rfl, rfl⟩ := hok_4 k1
    have hb1_ : tk tf le a + 1 ≤ le := k1.1
    have q1 := tk_le (tf := tf) hb1_
    refine g_istore_n (lv' := [some (.ref r), some (.int (tf (tk tf le a) - 48)), none, none]) C dX6_readStep_7 (hnl 1 (by decide)) rfl rfl ?_
    refine g_aload_n C dX6_readStep_8 rfl ?_
    refine g_iconst (v := 1) C dX6_readStep_9 (by decide) ?_
    refine g_bipush (v := 9) C dX6_readStep_10 (by decide) ?_
    refine g_callV C (c_X6_number k.l E r tx p le (tk tf le a + 1) it b1 b2 b3 tf 1 9 (by first | assumption | omega) (hb1_) (by decide)) kmX6_62 kiX6_number ksX6_number knX6 kcX6_number ⟨rfl, rfl⟩ ⟨rfl, kdX6_number⟩ ⟨by decide, by decide⟩ ⟨by decide, by decide⟩ [0, 1] [2, 3, 4, 5] rfl (wr := [(p, .inr (5, [.ref ph, .ref pd, .ref pm, .int (nI n), .int lg, .int sf, .int dg])), aI E ph 9 hi, aI E pd 9 de, aI E pm 9 pma]) rfl (by decide +kernel) (by decide +kernel) (by decide +kernel) 0 6 rfl rfl rfl (As := [.int 1, .int 9]) (rest := []) rfl (Nat.le_of_ble_eq_true rfl) dX6_readStep_12 (fun rv_ rw_ hp_ => ?_)
    obtain ⟨val_6, at2_7, fa2_8, rfl, rfl, hok_9, hno_10⟩ := hp_
    refine g_rep [4, 5, 0, 1, 2, 3] (ws' := [(r, .inr (6, [.ref tx, .ref p, .int (nI le), .int at2_7, .int it, .int fa2_8, .int b1, .int b2, .int b3])), aC E tx 100 tf, (p, .inr (5, [.ref ph, .ref pd, .ref pm, .int (nI n), .int lg, .int sf, .int dg])), aI E ph 9 hi, aI E pd 9 de, aI E pm 9 pma]) (st' := [.int val_6]) (n' := 0) (z' := 0) (pc' := 15) rfl rfl rfl rfl (by decide +kernel) rfl ?_
    by_cases k2 : numOK tf le (tk tf le (tk tf le a + 1)) 1 9
    · skip
      obtain ⟨rfl, rfl, rfl⟩ := hok_9 k2
      have hb2_ : tk tf le (tk tf le a + 1) + 1 ≤ le := k2.1
      have q2 := tk_le (tf := tf) hb2_
      refine g_istore_n (lv' := [some (.ref r), some (.int (tf (tk tf le a) - 48)), some (.int (tf (tk tf le (tk tf le a + 1)) - 48)), none]) C dX6_readStep_15 (hnl 2 (by decide)) rfl rfl ?_
      refine g_aload_n C dX6_readStep_16 rfl ?_
      refine g_iconst (v := 0) C dX6_readStep_17 (by decide) ?_
      refine g_iconst (v := 5) C dX6_readStep_18 (by decide) ?_
      refine g_callV C (c_X6_number k.l E r tx p le (tk tf le (tk tf le a + 1) + 1) it b1 b2 b3 tf 0 5 (by first | assumption | omega) (hb2_) (by decide)) kmX6_62 kiX6_number ksX6_number knX6 kcX6_number ⟨rfl, rfl⟩ ⟨rfl, kdX6_number⟩ ⟨by decide, by decide⟩ ⟨by decide, by decide⟩ [0, 1] [2, 3, 4, 5] rfl (wr := [(p, .inr (5, [.ref ph, .ref pd, .ref pm, .int (nI n), .int lg, .int sf, .int dg])), aI E ph 9 hi, aI E pd 9 de, aI E pm 9 pma]) rfl (by decide +kernel) (by decide +kernel) (by decide +kernel) 0 6 rfl rfl rfl (As := [.int 0, .int 5]) (rest := []) rfl (Nat.le_of_ble_eq_true rfl) dX6_readStep_19 (fun rv_ rw_ hp_ => ?_)
      obtain ⟨val_11, at2_12, fa2_13, rfl, rfl, hok_14, hno_15⟩ := hp_
      refine g_rep [4, 5, 0, 1, 2, 3] (ws' := [(r, .inr (6, [.ref tx, .ref p, .int (nI le), .int at2_12, .int it, .int fa2_13, .int b1, .int b2, .int b3])), aC E tx 100 tf, (p, .inr (5, [.ref ph, .ref pd, .ref pm, .int (nI n), .int lg, .int sf, .int dg])), aI E ph 9 hi, aI E pd 9 de, aI E pm 9 pma]) (st' := [.int val_11]) (n' := 0) (z' := 0) (pc' := 22) rfl rfl rfl rfl (by decide +kernel) rfl ?_
      by_cases k3 : numOK tf le (tk tf le (tk tf le (tk tf le a + 1) + 1)) 0 5
      · skip
        obtain ⟨rfl, rfl, rfl⟩ := hok_14 k3
        have hb3_ : tk tf le (tk tf le (tk tf le a + 1) + 1) + 1 ≤ le := k3.1
        have q3 := tk_le (tf := tf) hb3_
        refine g_istore_n (lv' := [some (.ref r), some (.int (tf (tk tf le a) - 48)), some (.int (tf (tk tf le (tk tf le a + 1)) - 48)), some (.int (tf (tk tf le (tk tf le (tk tf le a + 1) + 1)) - 48))]) C dX6_readStep_22 (hnl 3 (by decide)) rfl rfl ?_
        refine g_aload_n C dX6_readStep_23 rfl ?_
        refine g_get C kwX6 0 rfl rfl 5 (by decide) kfX6_35 rfl dX6_readStep_24 ?_
        refine g_iconst (v := (-1)) C dX6_readStep_27 (by decide) ?_
        refine g_icmp_ne (tgt := 41) C dX6_readStep_28 (by decide) (fun c28 => ?_) (fun c28 => ?_)
        · skip
          exact absurd rfl c28
        · skip
          refine g_aload_n C dX6_readStep_31 rfl ?_
          refine g_get C kwX6 0 rfl rfl 1 (by decide) kfX6_18 rfl dX6_readStep_32 ?_
          refine g_iload_n C dX6_readStep_35 rfl ?_
          refine g_iload_n C dX6_readStep_36 rfl ?_
          refine g_iload_n C dX6_readStep_37 rfl ?_
          refine g_callV C (c_X5_addStep k.l E p ph pd pm n lg sf dg hi de pma (tf (tk tf le a) - 48) (tf (tk tf le (tk tf le a + 1)) - 48) (tf (tk tf le (tk tf le (tk tf le a + 1) + 1)) - 48) (hn)) kmX6_81 kiX5_addStep ksX5_addStep knX5 kcX5_addStep ⟨rfl, rfl⟩ ⟨rfl, kdX5_addStep⟩ ⟨by decide, by decide⟩ ⟨by decide, by decide⟩ [2, 3, 4, 5] [0, 1] rfl (wr := [(r, .inr (6, [.ref tx, .ref p, .int (nI le), .int (nI (tk tf le (tk tf le (tk tf le a + 1) + 1) + 1)), .int it, .int (-1), .int b1, .int b2, .int b3])), aC E tx 100 tf]) rfl (by decide +kernel) (by decide +kernel) (by decide +kernel) 2 5 rfl rfl rfl (As := [.int (tf (tk tf le a) - 48), .int (tf (tk tf le (tk tf le a + 1)) - 48), .int (tf (tk tf le (tk tf le (tk tf le a + 1) + 1)) - 48)]) (rest := []) rfl (Nat.le_of_ble_eq_true rfl) dX6_readStep_38 (fun rv_ rw_ hp_ => ?_)
          obtain ⟨rfl, rfl⟩ := hp_
          refine g_rep [0, 1, 2, 3, 4, 5] (ws' := [(r, .inr (6, [.ref tx, .ref p, .int (nI le), .int (nI (tk tf le (tk tf le (tk tf le a + 1) + 1) + 1)), .int it, .int (-1), .int b1, .int b2, .int b3])), aC E tx 100 tf, (p, .inr (5, [.ref ph, .ref pd, .ref pm, .int (nI (n + 1)), .int lg, .int sf, .int dg])), aI E ph 9 (upd hi n (tf (tk tf le a) - 48)), aI E pd 9 (upd de n (tf (tk tf le (tk tf le a + 1)) - 48)), aI E pm 9 (upd pma n (tf (tk tf le (tk tf le (tk tf le a + 1) + 1)) - 48))]) (st' := []) (n' := 0) (z' := 0) (pc' := 41) rfl rfl rfl rfl (by decide +kernel) rfl ?_
          exact g_vret C hR (⟨_, _, _, _, _, _, rfl, rfl, fun q => absurd k1 q, fun _ q => absurd k2 q, fun _ _ q => absurd k3 q, fun _ _ _ => ⟨rfl, rfl, rfl, rfl, rfl, rfl⟩⟩) dX6_readStep_41
      · skip
        have e3 := hno_15 k3
        subst e3
        refine g_istore_n (lv' := [some (.ref r), some (.int (tf (tk tf le a) - 48)), some (.int (tf (tk tf le (tk tf le a + 1)) - 48)), some (.int val_11)]) C dX6_readStep_22 (hnl 3 (by decide)) rfl rfl ?_
        refine g_aload_n C dX6_readStep_23 rfl ?_
        refine g_get C kwX6 0 rfl rfl 5 (by decide) kfX6_35 rfl dX6_readStep_24 ?_
        refine g_iconst (v := (-1)) C dX6_readStep_27 (by decide) ?_
        refine g_icmp_ne (tgt := 41) C dX6_readStep_28 (by decide) (fun c28 => ?_) (fun c28 => ?_)
        · skip
          exact g_vret C hR (⟨_, _, _, _, _, _, rfl, rfl, fun q => absurd k1 q, fun _ q => absurd k2 q, fun _ _ _ => rfl, fun z1 z2 z3 => absurd z3 k3⟩) dX6_readStep_41
        · skip
          exact absurd c28 (nI_nm1 (by omega))
    · skip
      have e2 := hno_10 k2
      subst e2
      refine g_istore_n (lv' := [some (.ref r), some (.int (tf (tk tf le a) - 48)), some (.int val_6), none]) C dX6_readStep_15 (hnl 2 (by decide)) rfl rfl ?_
      refine g_aload_n C dX6_readStep_16 rfl ?_
      refine g_iconst (v := 0) C dX6_readStep_17 (by decide) ?_
      refine g_iconst (v := 5) C dX6_readStep_18 (by decide) ?_
      refine g_callV C (c_X6_numF k.l E r tx p le at2_7 it (tk tf le (tk tf le a + 1)) b1 b2 b3 0 5 (by omega)) kmX6_62 kiX6_number ksX6_number knX6 kcX6_number ⟨rfl, rfl⟩ ⟨rfl, kdX6_number⟩ ⟨by decide, by decide⟩ ⟨by decide, by decide⟩ [0] [1, 2, 3, 4, 5] rfl (wr := [aC E tx 100 tf, (p, .inr (5, [.ref ph, .ref pd, .ref pm, .int (nI n), .int lg, .int sf, .int dg])), aI E ph 9 hi, aI E pd 9 de, aI E pm 9 pma]) rfl (by decide +kernel) (by decide +kernel) (by decide +kernel) 0 6 rfl rfl rfl (As := [.int 0, .int 5]) (rest := []) rfl (Nat.le_of_ble_eq_true rfl) dX6_readStep_19 (fun rv_ rw_ hp_ => ?_)
      obtain ⟨rfl, rfl⟩ := hp_
      refine g_rep [5, 0, 1, 2, 3, 4] (ws' := [(r, .inr (6, [.ref tx, .ref p, .int (nI le), .int at2_7, .int it, .int (nI (tk tf le (tk tf le a + 1))), .int b1, .int b2, .int b3])), aC E tx 100 tf, (p, .inr (5, [.ref ph, .ref pd, .ref pm, .int (nI n), .int lg, .int sf, .int dg])), aI E ph 9 hi, aI E pd 9 de, aI E pm 9 pma]) (st' := [.int 0]) (n' := 0) (z' := 0) (pc' := 22) rfl rfl rfl rfl (by decide +kernel) rfl ?_
      refine g_istore_n (lv' := [some (.ref r), some (.int (tf (tk tf le a) - 48)), some (.int val_6), some (.int 0)]) C dX6_readStep_22 (hnl 3 (by decide)) rfl rfl ?_
      refine g_aload_n C dX6_readStep_23 rfl ?_
      refine g_get C kwX6 0 rfl rfl 5 (by decide) kfX6_35 rfl dX6_readStep_24 ?_
      refine g_iconst (v := (-1)) C dX6_readStep_27 (by decide) ?_
      refine g_icmp_ne (tgt := 41) C dX6_readStep_28 (by decide) (fun c28 => ?_) (fun c28 => ?_)
      · skip
        exact g_vret C hR (⟨_, _, _, _, _, _, rfl, rfl, fun q => absurd k1 q, fun _ _ => rfl, fun z1 z2 z3 => absurd z2 k2, fun z1 z2 z3 => absurd z2 k2⟩) dX6_readStep_41
      · skip
        exact absurd c28 (nI_nm1 (by omega))
  · skip
    have e1 := hno_5 k1
    subst e1
    refine g_istore_n (lv' := [some (.ref r), some (.int val_1), none, none]) C dX6_readStep_7 (hnl 1 (by decide)) rfl rfl ?_
    refine g_aload_n C dX6_readStep_8 rfl ?_
    refine g_iconst (v := 1) C dX6_readStep_9 (by decide) ?_
    refine g_bipush (v := 9) C dX6_readStep_10 (by decide) ?_
    refine g_callV C (c_X6_numF k.l E r tx p le at2_2 it (tk tf le a) b1 b2 b3 1 9 (by have := htk.2; omega)) kmX6_62 kiX6_number ksX6_number knX6 kcX6_number ⟨rfl, rfl⟩ ⟨rfl, kdX6_number⟩ ⟨by decide, by decide⟩ ⟨by decide, by decide⟩ [0] [1, 2, 3, 4, 5] rfl (wr := [aC E tx 100 tf, (p, .inr (5, [.ref ph, .ref pd, .ref pm, .int (nI n), .int lg, .int sf, .int dg])), aI E ph 9 hi, aI E pd 9 de, aI E pm 9 pma]) rfl (by decide +kernel) (by decide +kernel) (by decide +kernel) 0 6 rfl rfl rfl (As := [.int 1, .int 9]) (rest := []) rfl (Nat.le_of_ble_eq_true rfl) dX6_readStep_12 (fun rv_ rw_ hp_ => ?_)
    obtain ⟨rfl, rfl⟩ := hp_
    refine g_rep [5, 0, 1, 2, 3, 4] (ws' := [(r, .inr (6, [.ref tx, .ref p, .int (nI le), .int at2_2, .int it, .int (nI (tk tf le a)), .int b1, .int b2, .int b3])), aC E tx 100 tf, (p, .inr (5, [.ref ph, .ref pd, .ref pm, .int (nI n), .int lg, .int sf, .int dg])), aI E ph 9 hi, aI E pd 9 de, aI E pm 9 pma]) (st' := [.int 1]) (n' := 0) (z' := 0) (pc' := 15) rfl rfl rfl rfl (by decide +kernel) rfl ?_
    refine g_istore_n (lv' := [some (.ref r), some (.int val_1), some (.int 1), none]) C dX6_readStep_15 (hnl 2 (by decide)) rfl rfl ?_
    refine g_aload_n C dX6_readStep_16 rfl ?_
    refine g_iconst (v := 0) C dX6_readStep_17 (by decide) ?_
    refine g_iconst (v := 5) C dX6_readStep_18 (by decide) ?_
    refine g_callV C (c_X6_numF k.l E r tx p le at2_2 it (tk tf le a) b1 b2 b3 0 5 (by have := htk.2; omega)) kmX6_62 kiX6_number ksX6_number knX6 kcX6_number ⟨rfl, rfl⟩ ⟨rfl, kdX6_number⟩ ⟨by decide, by decide⟩ ⟨by decide, by decide⟩ [0] [1, 2, 3, 4, 5] rfl (wr := [aC E tx 100 tf, (p, .inr (5, [.ref ph, .ref pd, .ref pm, .int (nI n), .int lg, .int sf, .int dg])), aI E ph 9 hi, aI E pd 9 de, aI E pm 9 pma]) rfl (by decide +kernel) (by decide +kernel) (by decide +kernel) 0 6 rfl rfl rfl (As := [.int 0, .int 5]) (rest := []) rfl (Nat.le_of_ble_eq_true rfl) dX6_readStep_19 (fun rv_ rw_ hp_ => ?_)
    obtain ⟨rfl, rfl⟩ := hp_
    refine g_rep [5, 0, 1, 2, 3, 4] (ws' := [(r, .inr (6, [.ref tx, .ref p, .int (nI le), .int at2_2, .int it, .int (nI (tk tf le a)), .int b1, .int b2, .int b3])), aC E tx 100 tf, (p, .inr (5, [.ref ph, .ref pd, .ref pm, .int (nI n), .int lg, .int sf, .int dg])), aI E ph 9 hi, aI E pd 9 de, aI E pm 9 pma]) (st' := [.int 0]) (n' := 0) (z' := 0) (pc' := 22) rfl rfl rfl rfl (by decide +kernel) rfl ?_
    refine g_istore_n (lv' := [some (.ref r), some (.int val_1), some (.int 1), some (.int 0)]) C dX6_readStep_22 (hnl 3 (by decide)) rfl rfl ?_
    refine g_aload_n C dX6_readStep_23 rfl ?_
    refine g_get C kwX6 0 rfl rfl 5 (by decide) kfX6_35 rfl dX6_readStep_24 ?_
    refine g_iconst (v := (-1)) C dX6_readStep_27 (by decide) ?_
    refine g_icmp_ne (tgt := 41) C dX6_readStep_28 (by decide) (fun c28 => ?_) (fun c28 => ?_)
    · skip
      exact g_vret C hR (⟨_, _, _, _, _, _, rfl, rfl, fun _ => rfl, fun z1 z2 => absurd z1 k1, fun z1 z2 z3 => absurd z1 k1, fun z1 z2 z3 => absurd z1 k1⟩) dX6_readStep_41
    · skip
      exact absurd c28 (nI_nm1 (by omega))
