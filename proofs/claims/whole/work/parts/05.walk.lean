set_option maxHeartbeats 4000000 in
set_option maxRecDepth 100000 in
theorem c_X8_within (l : Launch) (E : EX) (x : Int32) (lo : Int32) (hh : Int32) : Ct l E yX8_within cX8_within 3 (some .boolean) (rmL 1 0 0) [.int x, .int lo, .int hh] [] (fun (rv_ : Option Value) (rw_ : va_W) => rv_ = some (.int (bI (lo ≤ x ∧ x ≤ hh))) ∧ rw_ = []) 0 0 := by
  refine Ct_of (by decide) (Nat.le_of_ble_eq_true rfl) ?_
  intro k hkl hnl C hR hin_
  subst hkl
  show G k E 0 0 0 [some (.int x), some (.int lo), some (.int hh)] [] []
  refine g_iload_n C dX8_within_0 rfl ?_
  refine g_iload_n C dX8_within_1 rfl ?_
  refine g_icmp_lt (tgt := 14) C dX8_within_2 (by decide) (fun c2 => ?_) (fun c2 => ?_)
  · skip
    refine g_iconst (v := 0) C dX8_within_14 (by decide) ?_
    exact g_zret C hR (by first | exact Or.inl rfl | exact Or.inr rfl | exact bI01 _) (⟨by first | (rw [bI_t ⟨Int32.not_lt.mp c2, Int32.not_lt.mp c7⟩]; done) | (rw [bI_f (fun q => Int32.not_le.mpr c2 q.1)]; done) | (rw [bI_f (fun q => Int32.not_le.mpr c7 q.2)]; done), rfl⟩) dX8_within_15
  · skip
    refine g_iload_n C dX8_within_5 rfl ?_
    refine g_iload_n C dX8_within_6 rfl ?_
    refine g_icmp_gt (tgt := 14) C dX8_within_7 (by decide) (fun c7 => ?_) (fun c7 => ?_)
    · skip
      refine g_iconst (v := 0) C dX8_within_14 (by decide) ?_
      exact g_zret C hR (by first | exact Or.inl rfl | exact Or.inr rfl | exact bI01 _) (⟨by first | (rw [bI_t ⟨Int32.not_lt.mp c2, Int32.not_lt.mp c7⟩]; done) | (rw [bI_f (fun q => Int32.not_le.mpr c2 q.1)]; done) | (rw [bI_f (fun q => Int32.not_le.mpr c7 q.2)]; done), rfl⟩) dX8_within_15
    · skip
      refine g_iconst (v := 1) C dX8_within_10 (by decide) ?_
      refine g_goto (tgt := 15) C dX8_within_11 (by decide) ?_
      exact g_zret C hR (by first | exact Or.inl rfl | exact Or.inr rfl | exact bI01 _) (⟨by first | (rw [bI_t ⟨Int32.not_lt.mp c2, Int32.not_lt.mp c7⟩]; done) | (rw [bI_f (fun q => Int32.not_le.mpr c2 q.1)]; done) | (rw [bI_f (fun q => Int32.not_le.mpr c7 q.2)]; done), rfl⟩) dX8_within_15

set_option maxHeartbeats 4000000 in
set_option maxRecDepth 100000 in
theorem c_X8_asVigour (l : Launch) (E : EX) (x : Int32) : Ct l E yX8_asVigour cX8_asVigour 1 (some .int) (rmL 1 0 0) [.int x] [] (fun (rv_ : Option Value) (rw_ : va_W) => rv_ = some (.int (asV x)) ∧ rw_ = []) 0 0 := by
  refine Ct_of (by decide) (Nat.le_of_ble_eq_true rfl) ?_
  intro k hkl hnl C hR hin_
  subst hkl
  show G k E 0 0 0 [some (.int x)] [] []
  refine g_iload_n C dX8_asVigour_0 rfl ?_
  refine g_if_ge (tgt := 6) C dX8_asVigour_1 (by decide) (fun c1 => ?_) (fun c1 => ?_)
  · skip
    refine g_iload_n C dX8_asVigour_6 rfl ?_
    refine g_bipush (v := 99) C dX8_asVigour_7 (by decide) ?_
    refine g_icmp_le (tgt := 17) C dX8_asVigour_9 (by decide) (fun c9 => ?_) (fun c9 => ?_)
    · skip
      refine g_iload_n C dX8_asVigour_17 rfl ?_
      exact g_iret C hR (⟨by first | (rw [asV, if_neg (Int32.not_lt.mpr c1), if_neg (Int32.not_lt.mpr c9)]; done) | (rw [asV, if_neg (Int32.not_lt.mpr c1), if_pos (Int32.not_le.mp c9)]; done), rfl⟩) dX8_asVigour_18
    · skip
      refine g_bipush (v := 99) C dX8_asVigour_12 (by decide) ?_
      refine g_goto (tgt := 18) C dX8_asVigour_14 (by decide) ?_
      exact g_iret C hR (⟨by first | (rw [asV, if_neg (Int32.not_lt.mpr c1), if_neg (Int32.not_lt.mpr c9)]; done) | (rw [asV, if_neg (Int32.not_lt.mpr c1), if_pos (Int32.not_le.mp c9)]; done), rfl⟩) dX8_asVigour_18
  · skip
    refine g_iconst (v := 0) C dX8_asVigour_4 (by decide) ?_
    exact g_iret C hR (⟨by rw [asV, if_pos (Int32.not_le.mp c1)], rfl⟩) dX8_asVigour_5

set_option maxHeartbeats 4000000 in
set_option maxRecDepth 100000 in
theorem c_X8_tenTimes (l : Launch) (E : EX) (x : Int32) (y : Int32) : Ct l E yX8_tenTimes cX8_tenTimes 2 (some .int) (rmL 1 0 0) [.int x, .int y] [] (fun (rv_ : Option Value) (rw_ : va_W) => rv_ = some (.int (10 * x + y)) ∧ rw_ = []) 0 0 := by
  refine Ct_of (by decide) (Nat.le_of_ble_eq_true rfl) ?_
  intro k hkl hnl C hR hin_
  subst hkl
  show G k E 0 0 0 [some (.int x), some (.int y)] [] []
  refine g_bipush (v := 10) C dX8_tenTimes_0 (by decide) ?_
  refine g_iload_n C dX8_tenTimes_2 rfl ?_
  refine g_imul C dX8_tenTimes_3 ?_
  refine g_iload_n C dX8_tenTimes_4 rfl ?_
  refine g_iadd C dX8_tenTimes_5 ?_
  exact g_iret C hR (⟨rfl, rfl⟩) dX8_tenTimes_6

set_option maxHeartbeats 4000000 in
set_option maxRecDepth 100000 in
theorem c_X5_has (l : Launch) (E : EX) (p : Nat) (ph : Nat) (pd : Nat) (pm : Nat) (n0 : Int32) (lg : Int32) (sf : Int32) (dg : Int32) (x : Int32) : Ct l E yX5_has cX5_has 2 (some .boolean) (rmL 2 0 0) [.ref p, .int x] [(p, .inr (5, [.ref ph, .ref pd, .ref pm, .int n0, .int lg, .int sf, .int dg]))] (fun (rv_ : Option Value) (rw_ : va_W) => rv_ = some (.int (bI (0 ≤ x ∧ x ≤ n0 - 1))) ∧ rw_ = [(p, .inr (5, [.ref ph, .ref pd, .ref pm, .int n0, .int lg, .int sf, .int dg]))]) 0 0 := by
  refine Ct_of (by decide) (Nat.le_of_ble_eq_true rfl) ?_
  intro k hkl hnl C hR hin_
  subst hkl
  show G k E 0 0 0 [some (.ref p), some (.int x)] [] [(p, .inr (5, [.ref ph, .ref pd, .ref pm, .int n0, .int lg, .int sf, .int dg]))]
  refine g_iload_n C dX5_has_0 rfl ?_
  refine g_iconst (v := 0) C dX5_has_1 (by decide) ?_
  refine g_aload_n C dX5_has_2 rfl ?_
  refine g_get C kwX5 0 rfl rfl 3 (by decide) kfX5_24 rfl dX5_has_3 ?_
  refine g_iconst (v := 1) C dX5_has_6 (by decide) ?_
  refine g_isub C dX5_has_7 ?_
  refine g_callSN C (c_X8_within k.l E x 0 (n0 - 1)) kcX8_within (by decide) knX8 ktX8_within ⟨rfl, rfl⟩ kdX8_within ⟨by decide, by decide⟩ ⟨by decide, by decide⟩ [] [0] rfl (wr := [(p, .inr (5, [.ref ph, .ref pd, .ref pm, .int n0, .int lg, .int sf, .int dg]))]) rfl (by decide +kernel) (by decide +kernel) (by decide +kernel) rfl (As := [.int x, .int 0, .int (n0 - 1)]) (rest := []) rfl (Nat.le_of_ble_eq_true rfl) dX5_has_8 (fun rv_ rw_ hp_ => ?_)
  obtain ⟨rfl, rfl⟩ := hp_
  refine g_rep [0] (ws' := [(p, .inr (5, [.ref ph, .ref pd, .ref pm, .int n0, .int lg, .int sf, .int dg]))]) (st' := [.int (bI (0 ≤ x ∧ x ≤ (n0 - 1)))]) (n' := 0) (z' := 0) (pc' := 11) rfl rfl rfl rfl (by decide +kernel) rfl ?_
  exact g_zret C hR (by first | exact Or.inl rfl | exact Or.inr rfl | exact bI01 _) (⟨rfl, rfl⟩) dX5_has_11

set_option maxHeartbeats 4000000 in
set_option maxRecDepth 100000 in
theorem c_X5_hasPlace (l : Launch) (E : EX) (p : Nat) (ph : Nat) (pd : Nat) (pm : Nat) (n0 : Int32) (lg : Int32) (sf : Int32) (dg : Int32) (x : Int32) : Ct l E yX5_hasPlace cX5_hasPlace 2 (some .boolean) (rmL 2 0 0) [.ref p, .int x] [(p, .inr (5, [.ref ph, .ref pd, .ref pm, .int n0, .int lg, .int sf, .int dg]))] (fun (rv_ : Option Value) (rw_ : va_W) => rv_ = some (.int (bI (0 ≤ x ∧ x ≤ n0))) ∧ rw_ = [(p, .inr (5, [.ref ph, .ref pd, .ref pm, .int n0, .int lg, .int sf, .int dg]))]) 0 0 := by
  refine Ct_of (by decide) (Nat.le_of_ble_eq_true rfl) ?_
  intro k hkl hnl C hR hin_
  subst hkl
  show G k E 0 0 0 [some (.ref p), some (.int x)] [] [(p, .inr (5, [.ref ph, .ref pd, .ref pm, .int n0, .int lg, .int sf, .int dg]))]
  refine g_iload_n C dX5_hasPlace_0 rfl ?_
  refine g_iconst (v := 0) C dX5_hasPlace_1 (by decide) ?_
  refine g_aload_n C dX5_hasPlace_2 rfl ?_
  refine g_get C kwX5 0 rfl rfl 3 (by decide) kfX5_24 rfl dX5_hasPlace_3 ?_
  refine g_callSN C (c_X8_within k.l E x 0 n0) kcX8_within (by decide) knX8 ktX8_within ⟨rfl, rfl⟩ kdX8_within ⟨by decide, by decide⟩ ⟨by decide, by decide⟩ [] [0] rfl (wr := [(p, .inr (5, [.ref ph, .ref pd, .ref pm, .int n0, .int lg, .int sf, .int dg]))]) rfl (by decide +kernel) (by decide +kernel) (by decide +kernel) rfl (As := [.int x, .int 0, .int n0]) (rest := []) rfl (Nat.le_of_ble_eq_true rfl) dX5_hasPlace_6 (fun rv_ rw_ hp_ => ?_)
  obtain ⟨rfl, rfl⟩ := hp_
  refine g_rep [0] (ws' := [(p, .inr (5, [.ref ph, .ref pd, .ref pm, .int n0, .int lg, .int sf, .int dg]))]) (st' := [.int (bI (0 ≤ x ∧ x ≤ n0))]) (n' := 0) (z' := 0) (pc' := 9) rfl rfl rfl rfl (by decide +kernel) rfl ?_
  exact g_zret C hR (by first | exact Or.inl rfl | exact Or.inr rfl | exact bI01 _) (⟨rfl, rfl⟩) dX5_hasPlace_9

set_option maxHeartbeats 4000000 in
set_option maxRecDepth 100000 in
theorem c_X5_empty (l : Launch) (E : EX) (p : Nat) (ph : Nat) (pd : Nat) (pm : Nat) (n0 : Int32) (lg : Int32) (sf : Int32) (dg : Int32) : Ct l E yX5_empty cX5_empty 1 none (rmL 1 0 0) [.ref p] [(p, .inr (5, [.ref ph, .ref pd, .ref pm, .int n0, .int lg, .int sf, .int dg]))] (fun (rv_ : Option Value) (rw_ : va_W) => rv_ = none ∧ rw_ = [(p, .inr (5, [.ref ph, .ref pd, .ref pm, .int 0, .int 4, .int 3, .int 1]))]) 0 0 := by
  refine Ct_of (by decide) (Nat.le_of_ble_eq_true rfl) ?_
  intro k hkl hnl C hR hin_
  subst hkl
  show G k E 0 0 0 [some (.ref p)] [] [(p, .inr (5, [.ref ph, .ref pd, .ref pm, .int n0, .int lg, .int sf, .int dg]))]
  refine g_aload_n C dX5_empty_0 rfl ?_
  refine g_iconst (v := 0) C dX5_empty_1 (by decide) ?_
  refine g_put (ws' := [(p, .inr (5, [.ref ph, .ref pd, .ref pm, .int 0, .int lg, .int sf, .int dg]))]) C kwX5 tyX5 tyX5_ok nmX5 0 rfl rfl 3 (by decide) kfX5_24 rfl rfl rfl (Nat.le_of_ble_eq_true rfl) rfl dX5_empty_2 ?_
  refine g_aload_n C dX5_empty_5 rfl ?_
  refine g_iconst (v := 4) C dX5_empty_6 (by decide) ?_
  refine g_put (ws' := [(p, .inr (5, [.ref ph, .ref pd, .ref pm, .int 0, .int 4, .int sf, .int dg]))]) C kwX5 tyX5 tyX5_ok nmX5 0 rfl rfl 4 (by decide) kfX5_28 rfl rfl rfl (Nat.le_of_ble_eq_true rfl) rfl dX5_empty_7 ?_
  refine g_aload_n C dX5_empty_10 rfl ?_
  refine g_iconst (v := 3) C dX5_empty_11 (by decide) ?_
  refine g_put (ws' := [(p, .inr (5, [.ref ph, .ref pd, .ref pm, .int 0, .int 4, .int 3, .int dg]))]) C kwX5 tyX5 tyX5_ok nmX5 0 rfl rfl 5 (by decide) kfX5_31 rfl rfl rfl (Nat.le_of_ble_eq_true rfl) rfl dX5_empty_12 ?_
  refine g_aload_n C dX5_empty_15 rfl ?_
  refine g_iconst (v := 1) C dX5_empty_16 (by decide) ?_
  refine g_put (ws' := [(p, .inr (5, [.ref ph, .ref pd, .ref pm, .int 0, .int 4, .int 3, .int 1]))]) C kwX5 tyX5 tyX5_ok nmX5 0 rfl rfl 6 (by decide) kfX5_34 rfl rfl rfl (Nat.le_of_ble_eq_true rfl) rfl dX5_empty_17 ?_
  exact g_vret C hR (⟨rfl, rfl⟩) dX5_empty_20

set_option maxHeartbeats 4000000 in
set_option maxRecDepth 100000 in
theorem c_X5_addStep (l : Launch) (E : EX) (p : Nat) (ph : Nat) (pd : Nat) (pm : Nat) (n : Nat) (lg : Int32) (sf : Int32) (dg : Int32) (hi : Nat → Int32) (de : Nat → Int32) (pma : Nat → Int32) (x : Int32) (y : Int32) (z0 : Int32) (hn : n < 9) : Ct l E yX5_addStep cX5_addStep 4 none (rmL 1 0 0) [.ref p, .int x, .int y, .int z0] [(p, .inr (5, [.ref ph, .ref pd, .ref pm, .int (nI n), .int lg, .int sf, .int dg])), aI E ph 9 hi, aI E pd 9 de, aI E pm 9 pma] (fun (rv_ : Option Value) (rw_ : va_W) => rv_ = none ∧ rw_ = [(p, .inr (5, [.ref ph, .ref pd, .ref pm, .int (nI (n + 1)), .int lg, .int sf, .int dg])), aI E ph 9 (upd hi n x), aI E pd 9 (upd de n y), aI E pm 9 (upd pma n z0)]) 0 0 := by
  refine Ct_of (by decide) (Nat.le_of_ble_eq_true rfl) ?_
  intro k hkl hnl C hR hin_
  subst hkl
  show G k E 0 0 0 [some (.ref p), some (.int x), some (.int y), some (.int z0)] [] [(p, .inr (5, [.ref ph, .ref pd, .ref pm, .int (nI n), .int lg, .int sf, .int dg])), aI E ph 9 hi, aI E pd 9 de, aI E pm 9 pma]
  refine g_aload_n C dX5_addStep_0 rfl ?_
  refine g_get C kwX5 0 rfl rfl 3 (by decide) kfX5_24 rfl dX5_addStep_1 ?_
  refine g_bipush (v := 9) C dX5_addStep_4 (by decide) ?_
  refine g_icmp_ge (tgt := 49) C dX5_addStep_6 (by decide) (fun c6 => ?_) (fun c6 => ?_)
  · skip
    exact absurd ((nI_leI (a := 9) (by decide) (by omega)).mp c6) (by omega)
  · skip
    refine g_aload_n C dX5_addStep_9 rfl ?_
    refine g_get C kwX5 0 rfl rfl 0 (by decide) kfX5_9 rfl dX5_addStep_10 ?_
    refine g_aload_n C dX5_addStep_13 rfl ?_
    refine g_get C kwX5 0 rfl rfl 3 (by decide) kfX5_24 rfl dX5_addStep_14 ?_
    refine g_iload_n C dX5_addStep_17 rfl ?_
    refine g_iast (ws' := [(p, .inr (5, [.ref ph, .ref pd, .ref pm, .int (nI n), .int lg, .int sf, .int dg])), aI E ph 9 (upd hi n x), aI E pd 9 de, aI E pm 9 pma]) C 1 n rfl (rfl) (by omega) (by decide) rfl dX5_addStep_18 ?_
    refine g_aload_n C dX5_addStep_19 rfl ?_
    refine g_get C kwX5 0 rfl rfl 1 (by decide) kfX5_15 rfl dX5_addStep_20 ?_
    refine g_aload_n C dX5_addStep_23 rfl ?_
    refine g_get C kwX5 0 rfl rfl 3 (by decide) kfX5_24 rfl dX5_addStep_24 ?_
    refine g_iload_n C dX5_addStep_27 rfl ?_
    refine g_iast (ws' := [(p, .inr (5, [.ref ph, .ref pd, .ref pm, .int (nI n), .int lg, .int sf, .int dg])), aI E ph 9 (upd hi n x), aI E pd 9 (upd de n y), aI E pm 9 pma]) C 2 n rfl (rfl) (by omega) (by decide) rfl dX5_addStep_28 ?_
    refine g_aload_n C dX5_addStep_29 rfl ?_
    refine g_get C kwX5 0 rfl rfl 2 (by decide) kfX5_18 rfl dX5_addStep_30 ?_
    refine g_aload_n C dX5_addStep_33 rfl ?_
    refine g_get C kwX5 0 rfl rfl 3 (by decide) kfX5_24 rfl dX5_addStep_34 ?_
    refine g_iload_n C dX5_addStep_37 rfl ?_
    refine g_iast (ws' := [(p, .inr (5, [.ref ph, .ref pd, .ref pm, .int (nI n), .int lg, .int sf, .int dg])), aI E ph 9 (upd hi n x), aI E pd 9 (upd de n y), aI E pm 9 (upd pma n z0)]) C 3 n rfl (rfl) (by omega) (by decide) rfl dX5_addStep_38 ?_
    refine g_aload_n C dX5_addStep_39 rfl ?_
    refine g_dup C dX5_addStep_40 rfl ?_
    refine g_get C kwX5 0 rfl rfl 3 (by decide) kfX5_24 rfl dX5_addStep_41 ?_
    refine g_iconst (v := 1) C dX5_addStep_44 (by decide) ?_
    refine g_iadd C dX5_addStep_45 ?_
    refine g_topi (v := nI (n + 1)) (nI_1 n) ?_
    refine g_put (ws' := [(p, .inr (5, [.ref ph, .ref pd, .ref pm, .int (nI (n + 1)), .int lg, .int sf, .int dg])), aI E ph 9 (upd hi n x), aI E pd 9 (upd de n y), aI E pm 9 (upd pma n z0)]) C kwX5 tyX5 tyX5_ok nmX5 0 rfl rfl 3 (by decide) kfX5_24 rfl rfl rfl (Nat.le_of_ble_eq_true rfl) rfl dX5_addStep_46 ?_
    exact g_vret C hR (⟨rfl, rfl⟩) dX5_addStep_49

set_option maxHeartbeats 4000000 in
set_option maxRecDepth 100000 in
theorem c_X5_copy (l : Launch) (E : EX) (p : Nat) (ph : Nat) (pd : Nat) (pm : Nat) (n0 : Int32) (lg : Int32) (sf : Int32) (dg : Int32) (hi : Nat → Int32) (de : Nat → Int32) (pma : Nat → Int32) (p2 : Nat) (ph2 : Nat) (pd2 : Nat) (pm2 : Nat) (n2 : Int32) (lg2 : Int32) (sf2 : Int32) (dg2 : Int32) (hi2 : Nat → Int32) (de2 : Nat → Int32) (pma2 : Nat → Int32) : Ct l E yX5_copy cX5_copy 2 none (rmL 1 0 0) [.ref p, .ref p2] [(p, .inr (5, [.ref ph, .ref pd, .ref pm, .int n0, .int lg, .int sf, .int dg])), aI E ph 9 hi, aI E pd 9 de, aI E pm 9 pma, (p2, .inr (5, [.ref ph2, .ref pd2, .ref pm2, .int n2, .int lg2, .int sf2, .int dg2])), aI E ph2 9 hi2, aI E pd2 9 de2, aI E pm2 9 pma2] (fun (rv_ : Option Value) (rw_ : va_W) => rv_ = none ∧ rw_ = [(p, .inr (5, [.ref ph, .ref pd, .ref pm, .int n2, .int lg2, .int sf2, .int dg2])), aI E ph 9 (va_cpy hi2 hi 0 0 9), aI E pd 9 (va_cpy de2 de 0 0 9), aI E pm 9 (va_cpy pma2 pma 0 0 9), (p2, .inr (5, [.ref ph2, .ref pd2, .ref pm2, .int n2, .int lg2, .int sf2, .int dg2])), aI E ph2 9 hi2, aI E pd2 9 de2, aI E pm2 9 pma2]) 0 0 := by
  refine Ct_of (by decide) (Nat.le_of_ble_eq_true rfl) ?_
  intro k hkl hnl C hR hin_
  subst hkl
  show G k E 0 0 0 [some (.ref p), some (.ref p2)] [] [(p, .inr (5, [.ref ph, .ref pd, .ref pm, .int n0, .int lg, .int sf, .int dg])), aI E ph 9 hi, aI E pd 9 de, aI E pm 9 pma, (p2, .inr (5, [.ref ph2, .ref pd2, .ref pm2, .int n2, .int lg2, .int sf2, .int dg2])), aI E ph2 9 hi2, aI E pd2 9 de2, aI E pm2 9 pma2]
  refine g_aload_n C dX5_copy_0 rfl ?_
  refine g_get C kwX5 4 rfl rfl 0 (by decide) kfX5_9 rfl dX5_copy_1 ?_
  refine g_iconst (v := 0) C dX5_copy_4 (by decide) ?_
  refine g_aload_n C dX5_copy_5 rfl ?_
  refine g_get C kwX5 0 rfl rfl 0 (by decide) kfX5_9 rfl dX5_copy_6 ?_
  refine g_iconst (v := 0) C dX5_copy_9 (by decide) ?_
  refine g_bipush (v := 9) C dX5_copy_10 (by decide) ?_
  refine g_copy (ws' := [(p, .inr (5, [.ref ph, .ref pd, .ref pm, .int n0, .int lg, .int sf, .int dg])), aI E ph 9 (va_cpy hi2 hi 0 0 9), aI E pd 9 de, aI E pm 9 pma, (p2, .inr (5, [.ref ph2, .ref pd2, .ref pm2, .int n2, .int lg2, .int sf2, .int dg2])), aI E ph2 9 hi2, aI E pd2 9 de2, aI E pm2 9 pma2]) C kmX5_37 5 1 rfl rfl 9 rfl (by decide) (by decide) (by decide) rfl (by decide) (Nat.le_of_ble_eq_true rfl) dX5_copy_12 ?_
  refine g_aload_n C dX5_copy_15 rfl ?_
  refine g_get C kwX5 4 rfl rfl 1 (by decide) kfX5_15 rfl dX5_copy_16 ?_
  refine g_iconst (v := 0) C dX5_copy_19 (by decide) ?_
  refine g_aload_n C dX5_copy_20 rfl ?_
  refine g_get C kwX5 0 rfl rfl 1 (by decide) kfX5_15 rfl dX5_copy_21 ?_
  refine g_iconst (v := 0) C dX5_copy_24 (by decide) ?_
  refine g_bipush (v := 9) C dX5_copy_25 (by decide) ?_
  refine g_copy (ws' := [(p, .inr (5, [.ref ph, .ref pd, .ref pm, .int n0, .int lg, .int sf, .int dg])), aI E ph 9 (va_cpy hi2 hi 0 0 9), aI E pd 9 (va_cpy de2 de 0 0 9), aI E pm 9 pma, (p2, .inr (5, [.ref ph2, .ref pd2, .ref pm2, .int n2, .int lg2, .int sf2, .int dg2])), aI E ph2 9 hi2, aI E pd2 9 de2, aI E pm2 9 pma2]) C kmX5_37 6 2 rfl rfl 9 rfl (by decide) (by decide) (by decide) rfl (by decide) (Nat.le_of_ble_eq_true rfl) dX5_copy_27 ?_
  refine g_aload_n C dX5_copy_30 rfl ?_
  refine g_get C kwX5 4 rfl rfl 2 (by decide) kfX5_18 rfl dX5_copy_31 ?_
  refine g_iconst (v := 0) C dX5_copy_34 (by decide) ?_
  refine g_aload_n C dX5_copy_35 rfl ?_
  refine g_get C kwX5 0 rfl rfl 2 (by decide) kfX5_18 rfl dX5_copy_36 ?_
  refine g_iconst (v := 0) C dX5_copy_39 (by decide) ?_
  refine g_bipush (v := 9) C dX5_copy_40 (by decide) ?_
  refine g_copy (ws' := [(p, .inr (5, [.ref ph, .ref pd, .ref pm, .int n0, .int lg, .int sf, .int dg])), aI E ph 9 (va_cpy hi2 hi 0 0 9), aI E pd 9 (va_cpy de2 de 0 0 9), aI E pm 9 (va_cpy pma2 pma 0 0 9), (p2, .inr (5, [.ref ph2, .ref pd2, .ref pm2, .int n2, .int lg2, .int sf2, .int dg2])), aI E ph2 9 hi2, aI E pd2 9 de2, aI E pm2 9 pma2]) C kmX5_37 7 3 rfl rfl 9 rfl (by decide) (by decide) (by decide) rfl (by decide) (Nat.le_of_ble_eq_true rfl) dX5_copy_42 ?_
  refine g_aload_n C dX5_copy_45 rfl ?_
  refine g_aload_n C dX5_copy_46 rfl ?_
  refine g_get C kwX5 4 rfl rfl 3 (by decide) kfX5_24 rfl dX5_copy_47 ?_
  refine g_put (ws' := [(p, .inr (5, [.ref ph, .ref pd, .ref pm, .int n2, .int lg, .int sf, .int dg])), aI E ph 9 (va_cpy hi2 hi 0 0 9), aI E pd 9 (va_cpy de2 de 0 0 9), aI E pm 9 (va_cpy pma2 pma 0 0 9), (p2, .inr (5, [.ref ph2, .ref pd2, .ref pm2, .int n2, .int lg2, .int sf2, .int dg2])), aI E ph2 9 hi2, aI E pd2 9 de2, aI E pm2 9 pma2]) C kwX5 tyX5 tyX5_ok nmX5 0 rfl rfl 3 (by decide) kfX5_24 rfl rfl rfl (Nat.le_of_ble_eq_true rfl) rfl dX5_copy_50 ?_
  refine g_aload_n C dX5_copy_53 rfl ?_
  refine g_aload_n C dX5_copy_54 rfl ?_
  refine g_get C kwX5 4 rfl rfl 4 (by decide) kfX5_28 rfl dX5_copy_55 ?_
  refine g_put (ws' := [(p, .inr (5, [.ref ph, .ref pd, .ref pm, .int n2, .int lg2, .int sf, .int dg])), aI E ph 9 (va_cpy hi2 hi 0 0 9), aI E pd 9 (va_cpy de2 de 0 0 9), aI E pm 9 (va_cpy pma2 pma 0 0 9), (p2, .inr (5, [.ref ph2, .ref pd2, .ref pm2, .int n2, .int lg2, .int sf2, .int dg2])), aI E ph2 9 hi2, aI E pd2 9 de2, aI E pm2 9 pma2]) C kwX5 tyX5 tyX5_ok nmX5 0 rfl rfl 4 (by decide) kfX5_28 rfl rfl rfl (Nat.le_of_ble_eq_true rfl) rfl dX5_copy_58 ?_
  refine g_aload_n C dX5_copy_61 rfl ?_
  refine g_aload_n C dX5_copy_62 rfl ?_
  refine g_get C kwX5 4 rfl rfl 5 (by decide) kfX5_31 rfl dX5_copy_63 ?_
  refine g_put (ws' := [(p, .inr (5, [.ref ph, .ref pd, .ref pm, .int n2, .int lg2, .int sf2, .int dg])), aI E ph 9 (va_cpy hi2 hi 0 0 9), aI E pd 9 (va_cpy de2 de 0 0 9), aI E pm 9 (va_cpy pma2 pma 0 0 9), (p2, .inr (5, [.ref ph2, .ref pd2, .ref pm2, .int n2, .int lg2, .int sf2, .int dg2])), aI E ph2 9 hi2, aI E pd2 9 de2, aI E pm2 9 pma2]) C kwX5 tyX5 tyX5_ok nmX5 0 rfl rfl 5 (by decide) kfX5_31 rfl rfl rfl (Nat.le_of_ble_eq_true rfl) rfl dX5_copy_66 ?_
  refine g_aload_n C dX5_copy_69 rfl ?_
  refine g_aload_n C dX5_copy_70 rfl ?_
  refine g_get C kwX5 4 rfl rfl 6 (by decide) kfX5_34 rfl dX5_copy_71 ?_
  refine g_put (ws' := [(p, .inr (5, [.ref ph, .ref pd, .ref pm, .int n2, .int lg2, .int sf2, .int dg2])), aI E ph 9 (va_cpy hi2 hi 0 0 9), aI E pd 9 (va_cpy de2 de 0 0 9), aI E pm 9 (va_cpy pma2 pma 0 0 9), (p2, .inr (5, [.ref ph2, .ref pd2, .ref pm2, .int n2, .int lg2, .int sf2, .int dg2])), aI E ph2 9 hi2, aI E pd2 9 de2, aI E pm2 9 pma2]) C kwX5 tyX5 tyX5_ok nmX5 0 rfl rfl 6 (by decide) kfX5_34 rfl rfl rfl (Nat.le_of_ble_eq_true rfl) rfl dX5_copy_74 ?_
  exact g_vret C hR (⟨rfl, rfl⟩) dX5_copy_77

set_option maxHeartbeats 4000000 in
set_option maxRecDepth 100000 in
theorem c_X4_begin (l : Launch) (E : EX) (o : Nat) (om : Nat) (pl : Int32) (vg : Int32) (fp : Int32) (ma : Nat → Int32) (p : Nat) (ph : Nat) (pd : Nat) (pm : Nat) (n0 : Int32) (lg : Int32) (sf : Int32) (dg : Int32) (pma : Nat → Int32) : Ct l E yX4_begin cX4_begin 2 none (rmL 1 0 0) [.ref o, .ref p] [(o, .inr (4, [.ref om, .int pl, .int vg, .int fp])), aI E om 9 ma, (p, .inr (5, [.ref ph, .ref pd, .ref pm, .int n0, .int lg, .int sf, .int dg])), aI E pm 9 pma] (fun (rv_ : Option Value) (rw_ : va_W) => rv_ = none ∧ rw_ = [(o, .inr (4, [.ref om, .int 0, .int 0, .int 0])), aI E om 9 (va_cpy pma ma 0 0 9), (p, .inr (5, [.ref ph, .ref pd, .ref pm, .int n0, .int lg, .int sf, .int dg])), aI E pm 9 pma]) 0 0 := by
  refine Ct_of (by decide) (Nat.le_of_ble_eq_true rfl) ?_
  intro k hkl hnl C hR hin_
  subst hkl
  show G k E 0 0 0 [some (.ref o), some (.ref p)] [] [(o, .inr (4, [.ref om, .int pl, .int vg, .int fp])), aI E om 9 ma, (p, .inr (5, [.ref ph, .ref pd, .ref pm, .int n0, .int lg, .int sf, .int dg])), aI E pm 9 pma]
  refine g_aload_n C dX4_begin_0 rfl ?_
  refine g_get C kwX5 2 rfl rfl 2 (by decide) kfX4_15 rfl dX4_begin_1 ?_
  refine g_iconst (v := 0) C dX4_begin_4 (by decide) ?_
  refine g_aload_n C dX4_begin_5 rfl ?_
  refine g_get C kwX4 0 rfl rfl 0 (by decide) kfX4_9 rfl dX4_begin_6 ?_
  refine g_iconst (v := 0) C dX4_begin_9 (by decide) ?_
  refine g_bipush (v := 9) C dX4_begin_10 (by decide) ?_
  refine g_copy (ws' := [(o, .inr (4, [.ref om, .int pl, .int vg, .int fp])), aI E om 9 (va_cpy pma ma 0 0 9), (p, .inr (5, [.ref ph, .ref pd, .ref pm, .int n0, .int lg, .int sf, .int dg])), aI E pm 9 pma]) C kmX4_18 3 1 rfl rfl 9 rfl (by decide) (by decide) (by decide) rfl (by decide) (Nat.le_of_ble_eq_true rfl) dX4_begin_12 ?_
  refine g_aload_n C dX4_begin_15 rfl ?_
  refine g_iconst (v := 0) C dX4_begin_16 (by decide) ?_
  refine g_put (ws' := [(o, .inr (4, [.ref om, .int 0, .int vg, .int fp])), aI E om 9 (va_cpy pma ma 0 0 9), (p, .inr (5, [.ref ph, .ref pd, .ref pm, .int n0, .int lg, .int sf, .int dg])), aI E pm 9 pma]) C kwX4 tyX4 tyX4_ok nmX4 0 rfl rfl 1 (by decide) kfX4_24 rfl rfl rfl (Nat.le_of_ble_eq_true rfl) rfl dX4_begin_17 ?_
  refine g_aload_n C dX4_begin_20 rfl ?_
  refine g_iconst (v := 0) C dX4_begin_21 (by decide) ?_
  refine g_put (ws' := [(o, .inr (4, [.ref om, .int 0, .int 0, .int fp])), aI E om 9 (va_cpy pma ma 0 0 9), (p, .inr (5, [.ref ph, .ref pd, .ref pm, .int n0, .int lg, .int sf, .int dg])), aI E pm 9 pma]) C kwX4 tyX4 tyX4_ok nmX4 0 rfl rfl 2 (by decide) kfX4_28 rfl rfl rfl (Nat.le_of_ble_eq_true rfl) rfl dX4_begin_22 ?_
  refine g_aload_n C dX4_begin_25 rfl ?_
  refine g_iconst (v := 0) C dX4_begin_26 (by decide) ?_
  refine g_put (ws' := [(o, .inr (4, [.ref om, .int 0, .int 0, .int 0])), aI E om 9 (va_cpy pma ma 0 0 9), (p, .inr (5, [.ref ph, .ref pd, .ref pm, .int n0, .int lg, .int sf, .int dg])), aI E pm 9 pma]) C kwX4 tyX4 tyX4_ok nmX4 0 rfl rfl 3 (by decide) kfX4_31 rfl rfl rfl (Nat.le_of_ble_eq_true rfl) rfl dX4_begin_27 ?_
  exact g_vret C hR (⟨rfl, rfl⟩) dX4_begin_30

set_option maxHeartbeats 4000000 in
set_option maxRecDepth 100000 in
theorem c_X4_copy (l : Launch) (E : EX) (o : Nat) (om : Nat) (pl : Int32) (vg : Int32) (fp : Int32) (ma : Nat → Int32) (o2 : Nat) (om2 : Nat) (pl2 : Int32) (vg2 : Int32) (fp2 : Int32) (ma2 : Nat → Int32) : Ct l E yX4_copy cX4_copy 2 none (rmL 1 0 0) [.ref o, .ref o2] [(o, .inr (4, [.ref om, .int pl, .int vg, .int fp])), aI E om 9 ma, (o2, .inr (4, [.ref om2, .int pl2, .int vg2, .int fp2])), aI E om2 9 ma2] (fun (rv_ : Option Value) (rw_ : va_W) => rv_ = none ∧ rw_ = [(o, .inr (4, [.ref om, .int pl2, .int vg2, .int fp2])), aI E om 9 (va_cpy ma2 ma 0 0 9), (o2, .inr (4, [.ref om2, .int pl2, .int vg2, .int fp2])), aI E om2 9 ma2]) 0 0 := by
  refine Ct_of (by decide) (Nat.le_of_ble_eq_true rfl) ?_
  intro k hkl hnl C hR hin_
  subst hkl
  show G k E 0 0 0 [some (.ref o), some (.ref o2)] [] [(o, .inr (4, [.ref om, .int pl, .int vg, .int fp])), aI E om 9 ma, (o2, .inr (4, [.ref om2, .int pl2, .int vg2, .int fp2])), aI E om2 9 ma2]
  refine g_aload_n C dX4_copy_0 rfl ?_
  refine g_get C kwX4 2 rfl rfl 0 (by decide) kfX4_9 rfl dX4_copy_1 ?_
  refine g_iconst (v := 0) C dX4_copy_4 (by decide) ?_
  refine g_aload_n C dX4_copy_5 rfl ?_
  refine g_get C kwX4 0 rfl rfl 0 (by decide) kfX4_9 rfl dX4_copy_6 ?_
  refine g_iconst (v := 0) C dX4_copy_9 (by decide) ?_
  refine g_bipush (v := 9) C dX4_copy_10 (by decide) ?_
  refine g_copy (ws' := [(o, .inr (4, [.ref om, .int pl, .int vg, .int fp])), aI E om 9 (va_cpy ma2 ma 0 0 9), (o2, .inr (4, [.ref om2, .int pl2, .int vg2, .int fp2])), aI E om2 9 ma2]) C kmX4_18 3 1 rfl rfl 9 rfl (by decide) (by decide) (by decide) rfl (by decide) (Nat.le_of_ble_eq_true rfl) dX4_copy_12 ?_
  refine g_aload_n C dX4_copy_15 rfl ?_
  refine g_aload_n C dX4_copy_16 rfl ?_
  refine g_get C kwX4 2 rfl rfl 1 (by decide) kfX4_24 rfl dX4_copy_17 ?_
  refine g_put (ws' := [(o, .inr (4, [.ref om, .int pl2, .int vg, .int fp])), aI E om 9 (va_cpy ma2 ma 0 0 9), (o2, .inr (4, [.ref om2, .int pl2, .int vg2, .int fp2])), aI E om2 9 ma2]) C kwX4 tyX4 tyX4_ok nmX4 0 rfl rfl 1 (by decide) kfX4_24 rfl rfl rfl (Nat.le_of_ble_eq_true rfl) rfl dX4_copy_20 ?_
  refine g_aload_n C dX4_copy_23 rfl ?_
  refine g_aload_n C dX4_copy_24 rfl ?_
  refine g_get C kwX4 2 rfl rfl 2 (by decide) kfX4_28 rfl dX4_copy_25 ?_
  refine g_put (ws' := [(o, .inr (4, [.ref om, .int pl2, .int vg2, .int fp])), aI E om 9 (va_cpy ma2 ma 0 0 9), (o2, .inr (4, [.ref om2, .int pl2, .int vg2, .int fp2])), aI E om2 9 ma2]) C kwX4 tyX4 tyX4_ok nmX4 0 rfl rfl 2 (by decide) kfX4_28 rfl rfl rfl (Nat.le_of_ble_eq_true rfl) rfl dX4_copy_28 ?_
  refine g_aload_n C dX4_copy_31 rfl ?_
  refine g_aload_n C dX4_copy_32 rfl ?_
  refine g_get C kwX4 2 rfl rfl 3 (by decide) kfX4_31 rfl dX4_copy_33 ?_
  refine g_put (ws' := [(o, .inr (4, [.ref om, .int pl2, .int vg2, .int fp2])), aI E om 9 (va_cpy ma2 ma 0 0 9), (o2, .inr (4, [.ref om2, .int pl2, .int vg2, .int fp2])), aI E om2 9 ma2]) C kwX4 tyX4 tyX4_ok nmX4 0 rfl rfl 3 (by decide) kfX4_31 rfl rfl rfl (Nat.le_of_ble_eq_true rfl) rfl dX4_copy_36 ?_
  exact g_vret C hR (⟨rfl, rfl⟩) dX4_copy_39

set_option maxHeartbeats 4000000 in
set_option maxRecDepth 100000 in
theorem c_X7_prepare (l : Launch) (E : EX) (w : Nat) (p : Nat) (wm : Nat) (st : Int32) (dr : Int32) (a0 : Int32) (v : Int32) (fl : Int32) (sl : Int32) (ph : Nat) (pd : Nat) (pm : Nat) (n0 : Int32) (lg : Int32) (sf : Int32) (dg : Int32) (o : Nat) (om : Nat) (pl : Int32) (vg : Int32) (fp : Int32) (ma : Nat → Int32) (wma : Nat → Int32) : Ct l E yX7_prepare cX7_prepare 2 none (rmL 1 0 0) [.ref w, .ref o] [(w, .inr (7, [.ref p, .ref wm, .int st, .int dr, .int a0, .int v, .int fl, .int sl])), aI E wm 9 wma, (p, .inr (5, [.ref ph, .ref pd, .ref pm, .int n0, .int lg, .int sf, .int dg])), (o, .inr (4, [.ref om, .int pl, .int vg, .int fp])), aI E om 9 ma] (fun (rv_ : Option Value) (rw_ : va_W) => rv_ = none ∧ rw_ = [(w, .inr (7, [.ref p, .ref wm, .int sf, .int dg, .int a0, .int v, .int fl, .int sl])), aI E wm 9 (va_cpy ma wma 0 0 9), (p, .inr (5, [.ref ph, .ref pd, .ref pm, .int n0, .int lg, .int sf, .int dg])), (o, .inr (4, [.ref om, .int pl, .int vg, .int fp])), aI E om 9 ma]) 0 0 := by
  refine Ct_of (by decide) (Nat.le_of_ble_eq_true rfl) ?_
  intro k hkl hnl C hR hin_
  subst hkl
  show G k E 0 0 0 [some (.ref w), some (.ref o)] [] [(w, .inr (7, [.ref p, .ref wm, .int st, .int dr, .int a0, .int v, .int fl, .int sl])), aI E wm 9 wma, (p, .inr (5, [.ref ph, .ref pd, .ref pm, .int n0, .int lg, .int sf, .int dg])), (o, .inr (4, [.ref om, .int pl, .int vg, .int fp])), aI E om 9 ma]
  refine g_aload_n C dX7_prepare_0 rfl ?_
  refine g_get C kwX4 3 rfl rfl 0 (by decide) kfX7_19 rfl dX7_prepare_1 ?_
  refine g_iconst (v := 0) C dX7_prepare_4 (by decide) ?_
  refine g_aload_n C dX7_prepare_5 rfl ?_
  refine g_get C kwX7 0 rfl rfl 1 (by decide) kfX7_9 rfl dX7_prepare_6 ?_
  refine g_iconst (v := 0) C dX7_prepare_9 (by decide) ?_
  refine g_bipush (v := 9) C dX7_prepare_10 (by decide) ?_
  refine g_copy (ws' := [(w, .inr (7, [.ref p, .ref wm, .int st, .int dr, .int a0, .int v, .int fl, .int sl])), aI E wm 9 (va_cpy ma wma 0 0 9), (p, .inr (5, [.ref ph, .ref pd, .ref pm, .int n0, .int lg, .int sf, .int dg])), (o, .inr (4, [.ref om, .int pl, .int vg, .int fp])), aI E om 9 ma]) C kmX7_22 4 1 rfl rfl 9 rfl (by decide) (by decide) (by decide) rfl (by decide) (Nat.le_of_ble_eq_true rfl) dX7_prepare_12 ?_
  refine g_aload_n C dX7_prepare_15 rfl ?_
  refine g_aload_n C dX7_prepare_16 rfl ?_
  refine g_get C kwX7 0 rfl rfl 0 (by decide) kfX7_15 rfl dX7_prepare_17 ?_
  refine g_get C kwX5 2 rfl rfl 5 (by decide) kfX7_28 rfl dX7_prepare_20 ?_
  refine g_put (ws' := [(w, .inr (7, [.ref p, .ref wm, .int sf, .int dr, .int a0, .int v, .int fl, .int sl])), aI E wm 9 (va_cpy ma wma 0 0 9), (p, .inr (5, [.ref ph, .ref pd, .ref pm, .int n0, .int lg, .int sf, .int dg])), (o, .inr (4, [.ref om, .int pl, .int vg, .int fp])), aI E om 9 ma]) C kwX7 tyX7 tyX7_ok nmX7 0 rfl rfl 2 (by decide) kfX7_34 rfl rfl rfl (Nat.le_of_ble_eq_true rfl) rfl dX7_prepare_23 ?_
  refine g_aload_n C dX7_prepare_26 rfl ?_
  refine g_aload_n C dX7_prepare_27 rfl ?_
  refine g_get C kwX7 0 rfl rfl 0 (by decide) kfX7_15 rfl dX7_prepare_28 ?_
  refine g_get C kwX5 2 rfl rfl 6 (by decide) kfX7_35 rfl dX7_prepare_31 ?_
  refine g_put (ws' := [(w, .inr (7, [.ref p, .ref wm, .int sf, .int dg, .int a0, .int v, .int fl, .int sl])), aI E wm 9 (va_cpy ma wma 0 0 9), (p, .inr (5, [.ref ph, .ref pd, .ref pm, .int n0, .int lg, .int sf, .int dg])), (o, .inr (4, [.ref om, .int pl, .int vg, .int fp])), aI E om 9 ma]) C kwX7 tyX7 tyX7_ok nmX7 0 rfl rfl 3 (by decide) kfX7_38 rfl rfl rfl (Nat.le_of_ble_eq_true rfl) rfl dX7_prepare_34 ?_
  exact g_vret C hR (⟨rfl, rfl⟩) dX7_prepare_37

set_option maxHeartbeats 4000000 in
set_option maxRecDepth 100000 in
theorem c_X7_stand (l : Launch) (E : EX) (w : Nat) (p : Nat) (wm : Nat) (st : Int32) (dr : Int32) (a0 : Int32) (v : Int32) (fl : Int32) (sl : Int32) (x : Int32) (y : Int32) : Ct l E yX7_stand cX7_stand 3 none (rmL 1 0 0) [.ref w, .int x, .int y] [(w, .inr (7, [.ref p, .ref wm, .int st, .int dr, .int a0, .int v, .int fl, .int sl]))] (fun (rv_ : Option Value) (rw_ : va_W) => rv_ = none ∧ rw_ = [(w, .inr (7, [.ref p, .ref wm, .int st, .int dr, .int x, .int y, .int 0, .int 0]))]) 0 0 := by
  refine Ct_of (by decide) (Nat.le_of_ble_eq_true rfl) ?_
  intro k hkl hnl C hR hin_
  subst hkl
  show G k E 0 0 0 [some (.ref w), some (.int x), some (.int y)] [] [(w, .inr (7, [.ref p, .ref wm, .int st, .int dr, .int a0, .int v, .int fl, .int sl]))]
  refine g_aload_n C dX7_stand_0 rfl ?_
  refine g_iload_n C dX7_stand_1 rfl ?_
  refine g_put (ws' := [(w, .inr (7, [.ref p, .ref wm, .int st, .int dr, .int x, .int v, .int fl, .int sl]))]) C kwX7 tyX7 tyX7_ok nmX7 0 rfl rfl 4 (by decide) kfX7_39 rfl rfl rfl (Nat.le_of_ble_eq_true rfl) rfl dX7_stand_2 ?_
  refine g_aload_n C dX7_stand_5 rfl ?_
  refine g_iload_n C dX7_stand_6 rfl ?_
  refine g_put (ws' := [(w, .inr (7, [.ref p, .ref wm, .int st, .int dr, .int x, .int y, .int fl, .int sl]))]) C kwX7 tyX7 tyX7_ok nmX7 0 rfl rfl 5 (by decide) kfX7_42 rfl rfl rfl (Nat.le_of_ble_eq_true rfl) rfl dX7_stand_7 ?_
  refine g_aload_n C dX7_stand_10 rfl ?_
  refine g_iconst (v := 0) C dX7_stand_11 (by decide) ?_
  refine g_put (ws' := [(w, .inr (7, [.ref p, .ref wm, .int st, .int dr, .int x, .int y, .int 0, .int sl]))]) C kwX7 tyX7 tyX7_ok nmX7 0 rfl rfl 6 (by decide) kfX7_45 rfl rfl rfl (Nat.le_of_ble_eq_true rfl) rfl dX7_stand_12 ?_
  refine g_aload_n C dX7_stand_15 rfl ?_
  refine g_iconst (v := 0) C dX7_stand_16 (by decide) ?_
  refine g_put (ws' := [(w, .inr (7, [.ref p, .ref wm, .int st, .int dr, .int x, .int y, .int 0, .int 0]))]) C kwX7 tyX7 tyX7_ok nmX7 0 rfl rfl 7 (by decide) kfX7_48 rfl rfl rfl (Nat.le_of_ble_eq_true rfl) rfl dX7_stand_17 ?_
  exact g_vret C hR (⟨rfl, rfl⟩) dX7_stand_20

set_option maxHeartbeats 4000000 in
set_option maxRecDepth 100000 in
theorem lp_X7_land {k : KX} {E : EX} (C : Cx k E cX7_land RX7 (rmL 2 0 0)) (hnl : ∀ j : Nat, j < 2 → j < k.nL) {w : Nat} {p : Nat} {wm : Nat} {st : Int32} {dr : Int32} {fl : Int32} {ph : Nat} {pd : Nat} {pm : Nat} {n : Nat} {lg : Int32} {sf : Int32} {dg : Int32} {hi : Nat → Int32} {de : Nat → Int32} {ma : Nat → Int32} (hn : n ≤ 9) {t : Nat × Int32 × Int32} (hR : Rt k E (fun (rv_ : Option Value) (rw_ : va_W) => rv_ = none ∧ rw_ = [(w, .inr (7, [.ref p, .ref wm, .int st, .int dr, .int (nI (t).1), .int ((t).2.1), .int fl, .int ((t).2.2)])), (p, .inr (5, [.ref ph, .ref pd, .ref pm, .int (nI n), .int lg, .int sf, .int dg])), aI E ph 9 hi, aI E pd 9 de, aI E wm 9 ma]) 0 0 none) : ∀ (f a : Nat) (v sl : Int32), a + f = n → landF hi de ma lg dr f a v sl = t → G k E 0 0 5 [some (.ref w), some (.int (nI a))] [] [(w, .inr (7, [.ref p, .ref wm, .int st, .int dr, .int (nI a), .int v, .int fl, .int sl])), (p, .inr (5, [.ref ph, .ref pd, .ref pm, .int (nI n), .int lg, .int sf, .int dg])), aI E ph 9 hi, aI E pd 9 de, aI E wm 9 ma] := by
  intro f
  induction f with
  | zero =>
    intro a v sl hf ht
    refine g_iload_n C dX7_land_5 rfl ?_
    refine g_aload_n C dX7_land_6 rfl ?_
    refine g_get C kwX7 0 rfl rfl 0 (by decide) kfX7_15 rfl dX7_land_7 ?_
    refine g_get C kwX5 1 rfl rfl 3 (by decide) kfX7_65 rfl dX7_land_10 ?_
    refine g_icmp_ge (tgt := 114) C dX7_land_13 (by decide) (fun c13 => ?_) (fun c13 => ?_)
    · skip
      refine g_aload_n C dX7_land_114 rfl ?_
      refine g_iconst (v := 0) C dX7_land_115 (by decide) ?_
      refine g_put (ws' := [(w, .inr (7, [.ref p, .ref wm, .int st, .int dr, .int (nI a), .int 0, .int fl, .int sl])), (p, .inr (5, [.ref ph, .ref pd, .ref pm, .int (nI n), .int lg, .int sf, .int dg])), aI E ph 9 hi, aI E pd 9 de, aI E wm 9 ma]) C kwX7 tyX7 tyX7_ok nmX7 0 rfl rfl 5 (by decide) kfX7_42 rfl rfl rfl (Nat.le_of_ble_eq_true rfl) rfl dX7_land_116 ?_
      exact g_vret C hR (⟨rfl, by rw [← ht]; rfl⟩) dX7_land_119
    · skip
      exact absurd ((nI_leI (by omega) (by omega)).mpr (by omega)) c13
  | succ f ih =>
    intro a v sl hf ht
    unfold landF at ht
    refine g_iload_n C dX7_land_5 rfl ?_
    refine g_aload_n C dX7_land_6 rfl ?_
    refine g_get C kwX7 0 rfl rfl 0 (by decide) kfX7_15 rfl dX7_land_7 ?_
    refine g_get C kwX5 1 rfl rfl 3 (by decide) kfX7_65 rfl dX7_land_10 ?_
    refine g_icmp_ge (tgt := 114) C dX7_land_13 (by decide) (fun c13 => ?_) (fun c13 => ?_)
    · skip
      exact absurd (nx_ge (by omega) (by omega) c13) (by omega)
    · skip
      refine g_aload_n C dX7_land_16 rfl ?_
      refine g_aload_n C dX7_land_17 rfl ?_
      refine g_get C kwX7 0 rfl rfl 5 (by decide) kfX7_42 rfl dX7_land_18 ?_
      refine g_aload_n C dX7_land_21 rfl ?_
      refine g_get C kwX7 0 rfl rfl 1 (by decide) kfX7_9 rfl dX7_land_22 ?_
      refine g_iload_n C dX7_land_25 rfl ?_
      refine g_iald C 4 a rfl (rfl) (by omega) (by decide) dX7_land_26 ?_
      refine g_isub C dX7_land_27 ?_
      refine g_callSN C (c_X8_asVigour k.l E (v - (ma a))) kcX8_asVigour (by decide) knX8 ktX8_asVigour ⟨rfl, rfl⟩ kdX8_asVigour ⟨by decide, by decide⟩ ⟨by decide, by decide⟩ [] [0, 1, 2, 3, 4] rfl (wr := [(w, .inr (7, [.ref p, .ref wm, .int st, .int dr, .int (nI a), .int v, .int fl, .int sl])), (p, .inr (5, [.ref ph, .ref pd, .ref pm, .int (nI n), .int lg, .int sf, .int dg])), aI E ph 9 hi, aI E pd 9 de, aI E wm 9 ma]) rfl (by decide +kernel) (by decide +kernel) (by decide +kernel) rfl (As := [.int (v - (ma a))]) (rest := [.ref w]) rfl (Nat.le_of_ble_eq_true rfl) dX7_land_28 (fun rv_ rw_ hp_ => ?_)
      obtain ⟨rfl, rfl⟩ := hp_
      refine g_rep [0, 1, 2, 3, 4] (ws' := [(w, .inr (7, [.ref p, .ref wm, .int st, .int dr, .int (nI a), .int v, .int fl, .int sl])), (p, .inr (5, [.ref ph, .ref pd, .ref pm, .int (nI n), .int lg, .int sf, .int dg])), aI E ph 9 hi, aI E pd 9 de, aI E wm 9 ma]) (st' := [.int (asV (v - (ma a))), .ref w]) (n' := 0) (z' := 0) (pc' := 31) rfl rfl rfl rfl (by decide +kernel) rfl ?_
      refine g_put (ws' := [(w, .inr (7, [.ref p, .ref wm, .int st, .int dr, .int (nI a), .int (asV (v - (ma a))), .int fl, .int sl])), (p, .inr (5, [.ref ph, .ref pd, .ref pm, .int (nI n), .int lg, .int sf, .int dg])), aI E ph 9 hi, aI E pd 9 de, aI E wm 9 ma]) C kwX7 tyX7 tyX7_ok nmX7 0 rfl rfl 5 (by decide) kfX7_42 rfl rfl rfl (Nat.le_of_ble_eq_true rfl) rfl dX7_land_31 ?_
      refine g_aload_n C dX7_land_34 rfl ?_
      refine g_get C kwX7 0 rfl rfl 5 (by decide) kfX7_42 rfl dX7_land_35 ?_
      refine g_aload_n C dX7_land_38 rfl ?_
      refine g_get C kwX7 0 rfl rfl 0 (by decide) kfX7_15 rfl dX7_land_39 ?_
      refine g_get C kwX5 1 rfl rfl 4 (by decide) kfX7_68 rfl dX7_land_42 ?_
      refine g_aload_n C dX7_land_45 rfl ?_
      refine g_get C kwX7 0 rfl rfl 0 (by decide) kfX7_15 rfl dX7_land_46 ?_
      refine g_get C kwX5 1 rfl rfl 1 (by decide) kfX7_71 rfl dX7_land_49 ?_
      refine g_iload_n C dX7_land_52 rfl ?_
      refine g_iald C 3 a rfl (rfl) (by omega) (by decide) dX7_land_53 ?_
      refine g_iadd C dX7_land_54 ?_
      refine g_icmp_gt (tgt := 59) C dX7_land_55 (by decide) (fun c55 => ?_) (fun c55 => ?_)
      · skip
        refine g_aload_n C dX7_land_59 rfl ?_
        refine g_dup C dX7_land_60 rfl ?_
        refine g_get C kwX7 0 rfl rfl 7 (by decide) kfX7_48 rfl dX7_land_61 ?_
        refine g_iconst (v := 1) C dX7_land_64 (by decide) ?_
        refine g_iload_n C dX7_land_65 rfl ?_
        refine g_ishl C dX7_land_66 ?_
        refine g_ior C dX7_land_67 ?_
        refine g_put (ws' := [(w, .inr (7, [.ref p, .ref wm, .int st, .int dr, .int (nI a), .int (asV (v - (ma a))), .int fl, .int (sl ||| (1 <<< ((nI a) &&& 31)))])), (p, .inr (5, [.ref ph, .ref pd, .ref pm, .int (nI n), .int lg, .int sf, .int dg])), aI E ph 9 hi, aI E pd 9 de, aI E wm 9 ma]) C kwX7 tyX7 tyX7_ok nmX7 0 rfl rfl 7 (by decide) kfX7_48 rfl rfl rfl (Nat.le_of_ble_eq_true rfl) rfl dX7_land_68 ?_
        refine g_aload_n C dX7_land_71 rfl ?_
        refine g_aload_n C dX7_land_72 rfl ?_
        refine g_get C kwX7 0 rfl rfl 5 (by decide) kfX7_42 rfl dX7_land_73 ?_
        refine g_aload_n C dX7_land_76 rfl ?_
        refine g_get C kwX7 0 rfl rfl 0 (by decide) kfX7_15 rfl dX7_land_77 ?_
        refine g_get C kwX5 1 rfl rfl 0 (by decide) kfX7_55 rfl dX7_land_80 ?_
        refine g_iload_n C dX7_land_83 rfl ?_
        refine g_iald C 2 a rfl (rfl) (by omega) (by decide) dX7_land_84 ?_
        refine g_iadd C dX7_land_85 ?_
        refine g_iconst (v := 2) C dX7_land_86 (by decide) ?_
        refine g_aload_n C dX7_land_87 rfl ?_
        refine g_get C kwX7 0 rfl rfl 3 (by decide) kfX7_38 rfl dX7_land_88 ?_
        refine g_imul C dX7_land_91 ?_
        refine g_isub C dX7_land_92 ?_
        refine g_iconst (v := 1) C dX7_land_93 (by decide) ?_
        refine g_isub C dX7_land_94 ?_
        refine g_callSN C (c_X8_asVigour k.l E ((((asV (v - (ma a))) + (hi a)) - (2 * dr)) - 1)) kcX8_asVigour (by decide) knX8 ktX8_asVigour ⟨rfl, rfl⟩ kdX8_asVigour ⟨by decide, by decide⟩ ⟨by decide, by decide⟩ [] [0, 1, 2, 3, 4] rfl (wr := [(w, .inr (7, [.ref p, .ref wm, .int st, .int dr, .int (nI a), .int (asV (v - (ma a))), .int fl, .int (sl ||| (1 <<< ((nI a) &&& 31)))])), (p, .inr (5, [.ref ph, .ref pd, .ref pm, .int (nI n), .int lg, .int sf, .int dg])), aI E ph 9 hi, aI E pd 9 de, aI E wm 9 ma]) rfl (by decide +kernel) (by decide +kernel) (by decide +kernel) rfl (As := [.int ((((asV (v - (ma a))) + (hi a)) - (2 * dr)) - 1)]) (rest := [.ref w]) rfl (Nat.le_of_ble_eq_true rfl) dX7_land_95 (fun rv_ rw_ hp_ => ?_)
        obtain ⟨rfl, rfl⟩ := hp_
        refine g_rep [0, 1, 2, 3, 4] (ws' := [(w, .inr (7, [.ref p, .ref wm, .int st, .int dr, .int (nI a), .int (asV (v - (ma a))), .int fl, .int (sl ||| (1 <<< ((nI a) &&& 31)))])), (p, .inr (5, [.ref ph, .ref pd, .ref pm, .int (nI n), .int lg, .int sf, .int dg])), aI E ph 9 hi, aI E pd 9 de, aI E wm 9 ma]) (st' := [.int (asV ((((asV (v - (ma a))) + (hi a)) - (2 * dr)) - 1)), .ref w]) (n' := 0) (z' := 0) (pc' := 98) rfl rfl rfl rfl (by decide +kernel) rfl ?_
        refine g_put (ws' := [(w, .inr (7, [.ref p, .ref wm, .int st, .int dr, .int (nI a), .int (asV ((((asV (v - (ma a))) + (hi a)) - (2 * dr)) - 1)), .int fl, .int (sl ||| (1 <<< ((nI a) &&& 31)))])), (p, .inr (5, [.ref ph, .ref pd, .ref pm, .int (nI n), .int lg, .int sf, .int dg])), aI E ph 9 hi, aI E pd 9 de, aI E wm 9 ma]) C kwX7 tyX7 tyX7_ok nmX7 0 rfl rfl 5 (by decide) kfX7_42 rfl rfl rfl (Nat.le_of_ble_eq_true rfl) rfl dX7_land_98 ?_
        refine g_aload_n C dX7_land_101 rfl ?_
        refine g_iload_n C dX7_land_102 rfl ?_
        refine g_iconst (v := 1) C dX7_land_103 (by decide) ?_
        refine g_iadd C dX7_land_104 ?_
        refine g_topi (v := nI (a + 1)) (nI_1 a) ?_
        refine g_put (ws' := [(w, .inr (7, [.ref p, .ref wm, .int st, .int dr, .int (nI (a + 1)), .int (asV ((((asV (v - (ma a))) + (hi a)) - (2 * dr)) - 1)), .int fl, .int (sl ||| (1 <<< ((nI a) &&& 31)))])), (p, .inr (5, [.ref ph, .ref pd, .ref pm, .int (nI n), .int lg, .int sf, .int dg])), aI E ph 9 hi, aI E pd 9 de, aI E wm 9 ma]) C kwX7 tyX7 tyX7_ok nmX7 0 rfl rfl 4 (by decide) kfX7_39 rfl rfl rfl (Nat.le_of_ble_eq_true rfl) rfl dX7_land_105 ?_
        refine g_iinc (v := nI (a + 1)) (lv' := [some (.ref w), some (.int (nI (a + 1)))]) C dX7_land_108 rfl (nI_add _ 1) (hnl 1 (by decide)) rfl rfl ?_
        refine g_goto (tgt := 5) C dX7_land_111 (by decide) ?_
        refine ih (a + 1) _ _ (by omega) ?_
        rw [if_neg (Int32.not_le.mpr c55)] at ht
        exact ht
      · skip
        exact g_vret C hR (⟨rfl, by rw [← ht, if_pos (Int32.not_lt.mp c55)]⟩) dX7_land_58

set_option maxHeartbeats 4000000 in
set_option maxRecDepth 100000 in
theorem c_X7_land (l : Launch) (E : EX) (w : Nat) (p : Nat) (wm : Nat) (st : Int32) (dr : Int32) (a : Nat) (v : Int32) (fl : Int32) (sl : Int32) (ph : Nat) (pd : Nat) (pm : Nat) (n : Nat) (lg : Int32) (sf : Int32) (dg : Int32) (hi : Nat → Int32) (de : Nat → Int32) (ma : Nat → Int32) (hn : n ≤ 9) (ha : a ≤ n) : Ct l E yX7_land cX7_land 2 none (rmL 2 0 0) [.ref w] [(w, .inr (7, [.ref p, .ref wm, .int st, .int dr, .int (nI a), .int v, .int fl, .int sl])), (p, .inr (5, [.ref ph, .ref pd, .ref pm, .int (nI n), .int lg, .int sf, .int dg])), aI E ph 9 hi, aI E pd 9 de, aI E wm 9 ma] (fun (rv_ : Option Value) (rw_ : va_W) => rv_ = none ∧ rw_ = [(w, .inr (7, [.ref p, .ref wm, .int st, .int dr, .int (nI (landF hi de ma lg dr (n - a) a v sl).1), .int ((landF hi de ma lg dr (n - a) a v sl).2.1), .int fl, .int ((landF hi de ma lg dr (n - a) a v sl).2.2)])), (p, .inr (5, [.ref ph, .ref pd, .ref pm, .int (nI n), .int lg, .int sf, .int dg])), aI E ph 9 hi, aI E pd 9 de, aI E wm 9 ma]) 0 0 := by
  refine Ct_of (by decide) (Nat.le_of_ble_eq_true rfl) ?_
  intro k hkl hnl C hR hin_
  subst hkl
  show G k E 0 0 0 [some (.ref w), none] [] [(w, .inr (7, [.ref p, .ref wm, .int st, .int dr, .int (nI a), .int v, .int fl, .int sl])), (p, .inr (5, [.ref ph, .ref pd, .ref pm, .int (nI n), .int lg, .int sf, .int dg])), aI E ph 9 hi, aI E pd 9 de, aI E wm 9 ma]
  refine g_aload_n C dX7_land_0 rfl ?_
  refine g_get C kwX7 0 rfl rfl 4 (by decide) kfX7_39 rfl dX7_land_1 ?_
  refine g_istore_n (lv' := [some (.ref w), some (.int (nI a))]) C dX7_land_4 (hnl 1 (by decide)) rfl rfl ?_
  exact lp_X7_land C hnl hn hR (n - a) a v sl (by omega) rfl

set_option maxHeartbeats 4000000 in
set_option maxRecDepth 100000 in
theorem c_X7_turn (l : Launch) (E : EX) (w : Nat) (p : Nat) (wm : Nat) (st : Int32) (dr : Int32) (a : Nat) (v : Int32) (fl : Int32) (sl : Int32) (ph : Nat) (pd : Nat) (pm : Nat) (n : Nat) (lg : Int32) (sf : Int32) (dg : Int32) (hi : Nat → Int32) (de : Nat → Int32) (ma : Nat → Int32) (hn : n ≤ 9) (ha : a < n) : Ct l E yX7_turn cX7_turn 1 none (rmL 3 0 0) [.ref w] [(w, .inr (7, [.ref p, .ref wm, .int st, .int dr, .int (nI a), .int v, .int fl, .int sl])), (p, .inr (5, [.ref ph, .ref pd, .ref pm, .int (nI n), .int lg, .int sf, .int dg])), aI E ph 9 hi, aI E pd 9 de, aI E wm 9 ma] (fun (rv_ : Option Value) (rw_ : va_W) => rv_ = none ∧ rw_ = [(w, .inr (7, [.ref p, .ref wm, .int st, .int dr, .int (nI (turnF n hi de ma lg st dr a v sl).1), .int ((turnF n hi de ma lg st dr a v sl).2.1), .int (fl + 1), .int ((turnF n hi de ma lg st dr a v sl).2.2)])), (p, .inr (5, [.ref ph, .ref pd, .ref pm, .int (nI n), .int lg, .int sf, .int dg])), aI E ph 9 hi, aI E pd 9 de, aI E wm 9 ma]) 0 0 := by
  refine Ct_of (by decide) (Nat.le_of_ble_eq_true rfl) ?_
  intro k hkl hnl C hR hin_
  subst hkl
  show G k E 0 0 0 [some (.ref w)] [] [(w, .inr (7, [.ref p, .ref wm, .int st, .int dr, .int (nI a), .int v, .int fl, .int sl])), (p, .inr (5, [.ref ph, .ref pd, .ref pm, .int (nI n), .int lg, .int sf, .int dg])), aI E ph 9 hi, aI E pd 9 de, aI E wm 9 ma]
  refine g_aload_n C dX7_turn_0 rfl ?_
  refine g_get C kwX7 0 rfl rfl 0 (by decide) kfX7_15 rfl dX7_turn_1 ?_
  refine g_aload_n C dX7_turn_4 rfl ?_
  refine g_get C kwX7 0 rfl rfl 4 (by decide) kfX7_39 rfl dX7_turn_5 ?_
  refine g_callV C (c_X5_has k.l E p ph pd pm (nI n) lg sf dg (nI a)) kmX7_51 kiX5_has ksX5_has knX5 kcX5_has ⟨rfl, rfl⟩ ⟨rfl, kdX5_has⟩ ⟨by decide, by decide⟩ ⟨by decide, by decide⟩ [1] [0, 2, 3, 4] rfl (wr := [(w, .inr (7, [.ref p, .ref wm, .int st, .int dr, .int (nI a), .int v, .int fl, .int sl])), aI E ph 9 hi, aI E pd 9 de, aI E wm 9 ma]) rfl (by decide +kernel) (by decide +kernel) (by decide +kernel) 1 5 rfl rfl rfl (As := [.int (nI a)]) (rest := []) rfl (Nat.le_of_ble_eq_true rfl) dX7_turn_8 (fun rv_ rw_ hp_ => ?_)
  obtain ⟨rfl, rfl⟩ := hp_
  refine g_rep [0, 4, 1, 2, 3] (ws' := [(w, .inr (7, [.ref p, .ref wm, .int st, .int dr, .int (nI a), .int v, .int fl, .int sl])), (p, .inr (5, [.ref ph, .ref pd, .ref pm, .int (nI n), .int lg, .int sf, .int dg])), aI E ph 9 hi, aI E pd 9 de, aI E wm 9 ma]) (st' := [.int (bI (0 ≤ (nI a) ∧ (nI a) ≤ (nI n) - 1))]) (n' := 0) (z' := 0) (pc' := 11) rfl rfl rfl rfl (by decide +kernel) rfl ?_
  refine g_if_ne (tgt := 15) C dX7_turn_11 (by decide) (fun c11 => ?_) (fun c11 => ?_)
  · skip
    refine g_aload_n C dX7_turn_15 rfl ?_
    refine g_dup C dX7_turn_16 rfl ?_
    refine g_get C kwX7 0 rfl rfl 6 (by decide) kfX7_45 rfl dX7_turn_17 ?_
    refine g_iconst (v := 1) C dX7_turn_20 (by decide) ?_
    refine g_iadd C dX7_turn_21 ?_
    refine g_put (ws' := [(w, .inr (7, [.ref p, .ref wm, .int st, .int dr, .int (nI a), .int v, .int (fl + 1), .int sl])), (p, .inr (5, [.ref ph, .ref pd, .ref pm, .int (nI n), .int lg, .int sf, .int dg])), aI E ph 9 hi, aI E pd 9 de, aI E wm 9 ma]) C kwX7 tyX7 tyX7_ok nmX7 0 rfl rfl 6 (by decide) kfX7_45 rfl rfl rfl (Nat.le_of_ble_eq_true rfl) rfl dX7_turn_22 ?_
    refine g_aload_n C dX7_turn_25 rfl ?_
    refine g_get C kwX7 0 rfl rfl 5 (by decide) kfX7_42 rfl dX7_turn_26 ?_
    refine g_aload_n C dX7_turn_29 rfl ?_
    refine g_get C kwX7 0 rfl rfl 2 (by decide) kfX7_34 rfl dX7_turn_30 ?_
    refine g_icmp_ge (tgt := 42) C dX7_turn_33 (by decide) (fun c33 => ?_) (fun c33 => ?_)
    · skip
      refine g_aload_n C dX7_turn_42 rfl ?_
      refine g_aload_n C dX7_turn_43 rfl ?_
      refine g_get C kwX7 0 rfl rfl 5 (by decide) kfX7_42 rfl dX7_turn_44 ?_
      refine g_aload_n C dX7_turn_47 rfl ?_
      refine g_get C kwX7 0 rfl rfl 2 (by decide) kfX7_34 rfl dX7_turn_48 ?_
      refine g_isub C dX7_turn_51 ?_
      refine g_aload_n C dX7_turn_52 rfl ?_
      refine g_get C kwX7 0 rfl rfl 0 (by decide) kfX7_15 rfl dX7_turn_53 ?_
      refine g_get C kwX5 1 rfl rfl 0 (by decide) kfX7_55 rfl dX7_turn_56 ?_
      refine g_aload_n C dX7_turn_59 rfl ?_
      refine g_get C kwX7 0 rfl rfl 4 (by decide) kfX7_39 rfl dX7_turn_60 ?_
      refine g_iald C 2 a rfl (rfl) (by omega) (by decide) dX7_turn_63 ?_
      refine g_iadd C dX7_turn_64 ?_
      refine g_aload_n C dX7_turn_65 rfl ?_
      refine g_get C kwX7 0 rfl rfl 3 (by decide) kfX7_38 rfl dX7_turn_66 ?_
      refine g_isub C dX7_turn_69 ?_
      refine g_callSN C (c_X8_asVigour k.l E (((v - st) + (hi a)) - dr)) kcX8_asVigour (by decide) knX8 ktX8_asVigour ⟨rfl, rfl⟩ kdX8_asVigour ⟨by decide, by decide⟩ ⟨by decide, by decide⟩ [] [0, 1, 2, 3, 4] rfl (wr := [(w, .inr (7, [.ref p, .ref wm, .int st, .int dr, .int (nI a), .int v, .int (fl + 1), .int sl])), (p, .inr (5, [.ref ph, .ref pd, .ref pm, .int (nI n), .int lg, .int sf, .int dg])), aI E ph 9 hi, aI E pd 9 de, aI E wm 9 ma]) rfl (by decide +kernel) (by decide +kernel) (by decide +kernel) rfl (As := [.int (((v - st) + (hi a)) - dr)]) (rest := [.ref w]) rfl (Nat.le_of_ble_eq_true rfl) dX7_turn_70 (fun rv_ rw_ hp_ => ?_)
      obtain ⟨rfl, rfl⟩ := hp_
      refine g_rep [0, 1, 2, 3, 4] (ws' := [(w, .inr (7, [.ref p, .ref wm, .int st, .int dr, .int (nI a), .int v, .int (fl + 1), .int sl])), (p, .inr (5, [.ref ph, .ref pd, .ref pm, .int (nI n), .int lg, .int sf, .int dg])), aI E ph 9 hi, aI E pd 9 de, aI E wm 9 ma]) (st' := [.int (asV (((v - st) + (hi a)) - dr)), .ref w]) (n' := 0) (z' := 0) (pc' := 73) rfl rfl rfl rfl (by decide +kernel) rfl ?_
      refine g_put (ws' := [(w, .inr (7, [.ref p, .ref wm, .int st, .int dr, .int (nI a), .int (asV (((v - st) + (hi a)) - dr)), .int (fl + 1), .int sl])), (p, .inr (5, [.ref ph, .ref pd, .ref pm, .int (nI n), .int lg, .int sf, .int dg])), aI E ph 9 hi, aI E pd 9 de, aI E wm 9 ma]) C kwX7 tyX7 tyX7_ok nmX7 0 rfl rfl 5 (by decide) kfX7_42 rfl rfl rfl (Nat.le_of_ble_eq_true rfl) rfl dX7_turn_73 ?_
      refine g_aload_n C dX7_turn_76 rfl ?_
      refine g_dup C dX7_turn_77 rfl ?_
      refine g_get C kwX7 0 rfl rfl 4 (by decide) kfX7_39 rfl dX7_turn_78 ?_
      refine g_iconst (v := 1) C dX7_turn_81 (by decide) ?_
      refine g_iadd C dX7_turn_82 ?_
      refine g_topi (v := nI (a + 1)) (nI_1 a) ?_
      refine g_put (ws' := [(w, .inr (7, [.ref p, .ref wm, .int st, .int dr, .int (nI (a + 1)), .int (asV (((v - st) + (hi a)) - dr)), .int (fl + 1), .int sl])), (p, .inr (5, [.ref ph, .ref pd, .ref pm, .int (nI n), .int lg, .int sf, .int dg])), aI E ph 9 hi, aI E pd 9 de, aI E wm 9 ma]) C kwX7 tyX7 tyX7_ok nmX7 0 rfl rfl 4 (by decide) kfX7_39 rfl rfl rfl (Nat.le_of_ble_eq_true rfl) rfl dX7_turn_83 ?_
      refine g_aload_n C dX7_turn_86 rfl ?_
      refine g_callV C (c_X7_land k.l E w p wm st dr (a + 1) (asV (((v - st) + (hi a)) - dr)) (fl + 1) sl ph pd pm n lg sf dg hi de ma (by first | assumption | omega) (by first | assumption | omega)) kmX7_62 kiX7_land ksX7_land knX7 kcX7_land ⟨rfl, rfl⟩ ⟨rfl, kdX7_land⟩ ⟨by decide, by decide⟩ ⟨by decide, by decide⟩ [0, 1, 2, 3, 4] [] rfl (wr := []) rfl (by decide +kernel) (by decide +kernel) (by decide +kernel) 0 7 rfl rfl rfl (As := []) (rest := []) rfl (Nat.le_of_ble_eq_true rfl) dX7_turn_87 (fun rv_ rw_ hp_ => ?_)
      obtain ⟨rfl, rfl⟩ := hp_
      refine g_rep [0, 1, 2, 3, 4] (ws' := [(w, .inr (7, [.ref p, .ref wm, .int st, .int dr, .int (nI (landF hi de ma lg dr (n - (a + 1)) (a + 1) (asV (((v - st) + (hi a)) - dr)) sl).1), .int ((landF hi de ma lg dr (n - (a + 1)) (a + 1) (asV (((v - st) + (hi a)) - dr)) sl).2.1), .int (fl + 1), .int ((landF hi de ma lg dr (n - (a + 1)) (a + 1) (asV (((v - st) + (hi a)) - dr)) sl).2.2)])), (p, .inr (5, [.ref ph, .ref pd, .ref pm, .int (nI n), .int lg, .int sf, .int dg])), aI E ph 9 hi, aI E pd 9 de, aI E wm 9 ma]) (st' := []) (n' := 0) (z' := 0) (pc' := 90) rfl rfl rfl rfl (by decide +kernel) rfl ?_
      exact g_vret C hR (⟨rfl, by simp only [turnF, if_pos c33]⟩) dX7_turn_90
    · skip
      refine g_aload_n C dX7_turn_36 rfl ?_
      refine g_iconst (v := 0) C dX7_turn_37 (by decide) ?_
      refine g_put (ws' := [(w, .inr (7, [.ref p, .ref wm, .int st, .int dr, .int (nI a), .int 0, .int (fl + 1), .int sl])), (p, .inr (5, [.ref ph, .ref pd, .ref pm, .int (nI n), .int lg, .int sf, .int dg])), aI E ph 9 hi, aI E pd 9 de, aI E wm 9 ma]) C kwX7 tyX7 tyX7_ok nmX7 0 rfl rfl 5 (by decide) kfX7_42 rfl rfl rfl (Nat.le_of_ble_eq_true rfl) rfl dX7_turn_38 ?_
      exact g_vret C hR (⟨rfl, by simp only [turnF, if_neg c33]⟩) dX7_turn_41
  · skip
    exact absurd (has_t ha (by omega)) (bI_0 c11)

set_option maxHeartbeats 4000000 in
set_option maxRecDepth 100000 in
theorem lp_X7_run {k : KX} {E : EX} (C : Cx k E cX7_run RX7 (rmL 4 0 0)) (hnl : ∀ j : Nat, j < 4 → j < k.nL) {w : Nat} {p : Nat} {wm : Nat} {st : Int32} {dr : Int32} {ph : Nat} {pd : Nat} {pm : Nat} {n : Nat} {lg : Int32} {sf : Int32} {dg : Int32} {hi : Nat → Int32} {de : Nat → Int32} {ma : Nat → Int32} {b : Nat} {y : Int32} (hn : n ≤ 9) {t : Nat × Int32 × Int32 × Int32} (hR : Rt k E (fun (rv_ : Option Value) (rw_ : va_W) => rv_ = some (.int (nI t.1)) ∧ rw_ = [(w, .inr (7, [.ref p, .ref wm, .int st, .int dr, .int (nI (t).1), .int ((t).2.1), .int ((t).2.2.2), .int ((t).2.2.1)])), (p, .inr (5, [.ref ph, .ref pd, .ref pm, .int (nI n), .int lg, .int sf, .int dg])), aI E ph 9 hi, aI E pd 9 de, aI E wm 9 ma]) 0 0 (some .int)) : ∀ (f i a : Nat) (v sl fl : Int32), i + f = 9 → a ≤ n → runF n hi de ma lg st dr f a v sl fl = t → G k E 0 0 8 [some (.ref w), some (.int (nI b)), some (.int y), some (.int (nI i))] [] [(w, .inr (7, [.ref p, .ref wm, .int st, .int dr, .int (nI a), .int v, .int fl, .int sl])), (p, .inr (5, [.ref ph, .ref pd, .ref pm, .int (nI n), .int lg, .int sf, .int dg])), aI E ph 9 hi, aI E pd 9 de, aI E wm 9 ma] := by
  intro f
  induction f with
  | zero =>
    intro i a v sl fl hi9 ha ht
    refine g_iload_n C dX7_run_8 rfl ?_
    refine g_bipush (v := 9) C dX7_run_9 (by decide) ?_
    refine g_icmp_ge (tgt := 45) C dX7_run_11 (by decide) (fun c11 => ?_) (fun c11 => ?_)
    · skip
      refine g_aload_n C dX7_run_45 rfl ?_
      refine g_get C kwX7 0 rfl rfl 4 (by decide) kfX7_39 rfl dX7_run_46 ?_
      exact g_iret C hR (⟨by rw [← ht]; rfl, by rw [← ht]; rfl⟩) dX7_run_49
    · skip
      exact absurd ((nI_leI (a := 9) (by decide) (by omega)).mpr (by omega)) c11
  | succ f ih =>
    intro i a v sl fl hi9 ha ht
    unfold runF at ht
    refine g_iload_n C dX7_run_8 rfl ?_
    refine g_bipush (v := 9) C dX7_run_9 (by decide) ?_
    refine g_icmp_ge (tgt := 45) C dX7_run_11 (by decide) (fun c11 => ?_) (fun c11 => ?_)
    · skip
      exact absurd ((nI_leI (a := 9) (by decide) (by omega)).mp c11) (by omega)
    · skip
      refine g_aload_n C dX7_run_14 rfl ?_
      refine g_get C kwX7 0 rfl rfl 5 (by decide) kfX7_42 rfl dX7_run_15 ?_
      refine g_if_le (tgt := 45) C dX7_run_18 (by decide) (fun c18 => ?_) (fun c18 => ?_)
      · skip
        rw [if_neg (fun q => Int32.not_le.mpr q.1 c18)] at ht
        refine g_aload_n C dX7_run_45 rfl ?_
        refine g_get C kwX7 0 rfl rfl 4 (by decide) kfX7_39 rfl dX7_run_46 ?_
        exact g_iret C hR (⟨by rw [← ht], by rw [← ht]⟩) dX7_run_49
      · skip
        refine g_aload_n C dX7_run_21 rfl ?_
        refine g_get C kwX7 0 rfl rfl 0 (by decide) kfX7_15 rfl dX7_run_22 ?_
        refine g_aload_n C dX7_run_25 rfl ?_
        refine g_get C kwX7 0 rfl rfl 4 (by decide) kfX7_39 rfl dX7_run_26 ?_
        refine g_callV C (c_X5_has k.l E p ph pd pm (nI n) lg sf dg (nI a)) kmX7_51 kiX5_has ksX5_has knX5 kcX5_has ⟨rfl, rfl⟩ ⟨rfl, kdX5_has⟩ ⟨by decide, by decide⟩ ⟨by decide, by decide⟩ [1] [0, 2, 3, 4] rfl (wr := [(w, .inr (7, [.ref p, .ref wm, .int st, .int dr, .int (nI a), .int v, .int fl, .int sl])), aI E ph 9 hi, aI E pd 9 de, aI E wm 9 ma]) rfl (by decide +kernel) (by decide +kernel) (by decide +kernel) 1 5 rfl rfl rfl (As := [.int (nI a)]) (rest := []) rfl (Nat.le_of_ble_eq_true rfl) dX7_run_29 (fun rv_ rw_ hp_ => ?_)
        obtain ⟨rfl, rfl⟩ := hp_
        refine g_rep [0, 4, 1, 2, 3] (ws' := [(w, .inr (7, [.ref p, .ref wm, .int st, .int dr, .int (nI a), .int v, .int fl, .int sl])), (p, .inr (5, [.ref ph, .ref pd, .ref pm, .int (nI n), .int lg, .int sf, .int dg])), aI E ph 9 hi, aI E pd 9 de, aI E wm 9 ma]) (st' := [.int (bI (0 ≤ (nI a) ∧ (nI a) ≤ (nI n) - 1))]) (n' := 0) (z' := 0) (pc' := 32) rfl rfl rfl rfl (by decide +kernel) rfl ?_
        refine g_if_eq (tgt := 45) C dX7_run_32 (by decide) (fun c32 => ?_) (fun c32 => ?_)
        · skip
          rw [if_neg (fun q => bI_0 c32 (has_t q.2 (by omega)))] at ht
          refine g_aload_n C dX7_run_45 rfl ?_
          refine g_get C kwX7 0 rfl rfl 4 (by decide) kfX7_39 rfl dX7_run_46 ?_
          exact g_iret C hR (⟨by rw [← ht], by rw [← ht]⟩) dX7_run_49
        · skip
          have ha2 := has_nat (by omega) (by omega) (bI_1 c32)
          rw [if_pos ⟨Int32.not_le.mp c18, ha2⟩] at ht
          refine g_aload_n C dX7_run_35 rfl ?_
          refine g_callV C (c_X7_turn k.l E w p wm st dr a v fl sl ph pd pm n lg sf dg hi de ma (by first | assumption | omega) (ha2)) kmX7_78 kiX7_turn ksX7_turn knX7 kcX7_turn ⟨rfl, rfl⟩ ⟨rfl, kdX7_turn⟩ ⟨by decide, by decide⟩ ⟨by decide, by decide⟩ [0, 1, 2, 3, 4] [] rfl (wr := []) rfl (by decide +kernel) (by decide +kernel) (by decide +kernel) 0 7 rfl rfl rfl (As := []) (rest := []) rfl (Nat.le_of_ble_eq_true rfl) dX7_run_36 (fun rv_ rw_ hp_ => ?_)
          obtain ⟨rfl, rfl⟩ := hp_
          refine g_rep [0, 1, 2, 3, 4] (ws' := [(w, .inr (7, [.ref p, .ref wm, .int st, .int dr, .int (nI (turnF n hi de ma lg st dr a v sl).1), .int ((turnF n hi de ma lg st dr a v sl).2.1), .int (fl + 1), .int ((turnF n hi de ma lg st dr a v sl).2.2)])), (p, .inr (5, [.ref ph, .ref pd, .ref pm, .int (nI n), .int lg, .int sf, .int dg])), aI E ph 9 hi, aI E pd 9 de, aI E wm 9 ma]) (st' := []) (n' := 0) (z' := 0) (pc' := 39) rfl rfl rfl rfl (by decide +kernel) rfl ?_
          refine g_iinc (v := nI (i + 1)) (lv' := [some (.ref w), some (.int (nI b)), some (.int y), some (.int (nI (i + 1)))]) C dX7_run_39 rfl (nI_add _ 1) (hnl 3 (by decide)) rfl rfl ?_
          refine g_goto (tgt := 8) C dX7_run_42 (by decide) ?_
          exact ih (i + 1) _ _ _ _ (by omega) (turnF_le ha2).2 ht

set_option maxHeartbeats 4000000 in
set_option maxRecDepth 100000 in
theorem c_X7_run (l : Launch) (E : EX) (w : Nat) (p : Nat) (wm : Nat) (st : Int32) (dr : Int32) (a0 : Int32) (v : Int32) (fl : Int32) (sl : Int32) (ph : Nat) (pd : Nat) (pm : Nat) (n : Nat) (lg : Int32) (sf : Int32) (dg : Int32) (hi : Nat → Int32) (de : Nat → Int32) (ma : Nat → Int32) (b : Nat) (y : Int32) (hn : n ≤ 9) (hb : b ≤ n) : Ct l E yX7_run cX7_run 4 (some .int) (rmL 4 0 0) [.ref w, .int (nI b), .int y] [(w, .inr (7, [.ref p, .ref wm, .int st, .int dr, .int a0, .int v, .int fl, .int sl])), (p, .inr (5, [.ref ph, .ref pd, .ref pm, .int (nI n), .int lg, .int sf, .int dg])), aI E ph 9 hi, aI E pd 9 de, aI E wm 9 ma] (fun (rv_ : Option Value) (rw_ : va_W) => rv_ = some (.int (nI (runF n hi de ma lg st dr 9 b y 0 0).1)) ∧ rw_ = [(w, .inr (7, [.ref p, .ref wm, .int st, .int dr, .int (nI (runF n hi de ma lg st dr 9 b y 0 0).1), .int ((runF n hi de ma lg st dr 9 b y 0 0).2.1), .int ((runF n hi de ma lg st dr 9 b y 0 0).2.2.2), .int ((runF n hi de ma lg st dr 9 b y 0 0).2.2.1)])), (p, .inr (5, [.ref ph, .ref pd, .ref pm, .int (nI n), .int lg, .int sf, .int dg])), aI E ph 9 hi, aI E pd 9 de, aI E wm 9 ma]) 0 0 := by
  refine Ct_of (by decide) (Nat.le_of_ble_eq_true rfl) ?_
  intro k hkl hnl C hR hin_
  subst hkl
  show G k E 0 0 0 [some (.ref w), some (.int (nI b)), some (.int y), none] [] [(w, .inr (7, [.ref p, .ref wm, .int st, .int dr, .int a0, .int v, .int fl, .int sl])), (p, .inr (5, [.ref ph, .ref pd, .ref pm, .int (nI n), .int lg, .int sf, .int dg])), aI E ph 9 hi, aI E pd 9 de, aI E wm 9 ma]
  refine g_aload_n C dX7_run_0 rfl ?_
  refine g_iload_n C dX7_run_1 rfl ?_
  refine g_iload_n C dX7_run_2 rfl ?_
  refine g_callV C (c_X7_stand k.l E w p wm st dr a0 v fl sl (nI b) y) kmX7_74 kiX7_stand ksX7_stand knX7 kcX7_stand ⟨rfl, rfl⟩ ⟨rfl, kdX7_stand⟩ ⟨by decide, by decide⟩ ⟨by decide, by decide⟩ [0] [1, 2, 3, 4] rfl (wr := [(p, .inr (5, [.ref ph, .ref pd, .ref pm, .int (nI n), .int lg, .int sf, .int dg])), aI E ph 9 hi, aI E pd 9 de, aI E wm 9 ma]) rfl (by decide +kernel) (by decide +kernel) (by decide +kernel) 0 7 rfl rfl rfl (As := [.int (nI b), .int y]) (rest := []) rfl (Nat.le_of_ble_eq_true rfl) dX7_run_3 (fun rv_ rw_ hp_ => ?_)
  obtain ⟨rfl, rfl⟩ := hp_
  refine g_rep [4, 0, 1, 2, 3] (ws' := [(w, .inr (7, [.ref p, .ref wm, .int st, .int dr, .int (nI b), .int y, .int 0, .int 0])), (p, .inr (5, [.ref ph, .ref pd, .ref pm, .int (nI n), .int lg, .int sf, .int dg])), aI E ph 9 hi, aI E pd 9 de, aI E wm 9 ma]) (st' := []) (n' := 0) (z' := 0) (pc' := 6) rfl rfl rfl rfl (by decide +kernel) rfl ?_
  refine g_iconst (v := 0) C dX7_run_6 (by decide) ?_
  refine g_istore_n (lv' := [some (.ref w), some (.int (nI b)), some (.int y), some (.int 0)]) C dX7_run_7 (hnl 3 (by decide)) rfl rfl ?_
  exact lp_X7_run C hnl hn hR 9 0 b y 0 0 (by omega) hb rfl
