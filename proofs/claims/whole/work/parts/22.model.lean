theorem cpyR_0 (rf : Nat → Int32) (f t : Nat) : va_cpy rf rf f t 0 = rf := by
  funext i
  exact pk_cpy_out (by omega)
theorem cpyR_1 {rf : Nat → Int32} {f t j : Nat} (h : t ≤ f ∨ f + j < t) : upd (va_cpy rf rf f t j) (t + j) (va_cpy rf rf f t j (f + j)) = va_cpy rf rf f t (j + 1) := by
  rw [pk_cpy_out (f := rf) (g := rf) (sp := f) (dp := t) (n := j) (j := f + j) (by omega)]
  funext i
  unfold upd
  by_cases e : i = t + j
  · subst e
    rw [if_pos rfl, pk_cpy_in (by omega) (by omega)]
    congr 1
    omega
  · rw [if_neg e]
    by_cases q : t ≤ i ∧ i < t + j
    · rw [pk_cpy_in q.1 q.2, pk_cpy_in q.1 (by omega)]
    · rw [pk_cpy_out (by omega), pk_cpy_out (by omega)]
theorem cpyR_in {rf : Nat → Int32} {f t n i : Nat} (h : i < n) : va_cpy rf rf f t n (t + i) = rf (f + i) := by
  rw [pk_cpy_in (by omega) (by omega)]
  congr 1
  omega
theorem cpyR_out {rf : Nat → Int32} {f t n i : Nat} (h : i < t ∨ t + n ≤ i) : va_cpy rf rf f t n i = rf i := pk_cpy_out h

set_option maxHeartbeats 4000000 in
set_option maxRecDepth 100000 in
theorem c_X9_in (l : Launch) (E : EX) (x : Int32) (lo : Int32) (hh : Int32) : Ct l E yX9_in cX9_in 3 (some .boolean) (rmL 1 0 0) [.int x, .int lo, .int hh] [] (fun (rv_ : Option Value) (rw_ : va_W) => rv_ = some (.int (bI (lo ≤ x ∧ x ≤ hh))) ∧ rw_ = []) 0 0 := by
  refine Ct_of (by decide) (Nat.le_of_ble_eq_true rfl) ?_
  intro k hkl hnl C hR hin_
  subst hkl
  show G k E 0 0 0 [some (.int x), some (.int lo), some (.int hh)] [] []
  refine g_iload_n C dX9_in_0 rfl ?_
  refine g_iload_n C dX9_in_1 rfl ?_
  refine g_icmp_lt (tgt := 14) C dX9_in_2 (by decide) (fun c2 => ?_) (fun c2 => ?_)
  · skip
    refine g_iconst (v := 0) C dX9_in_14 (by decide) ?_
    exact g_zret C hR (by first | exact Or.inl rfl | exact Or.inr rfl | exact bI01 _) (⟨by first | (rw [bI_t ⟨Int32.not_lt.mp c2, Int32.not_lt.mp c7⟩]; done) | (rw [bI_f (fun q => Int32.not_le.mpr c2 q.1)]; done) | (rw [bI_f (fun q => Int32.not_le.mpr c7 q.2)]; done), rfl⟩) dX9_in_15
  · skip
    refine g_iload_n C dX9_in_5 rfl ?_
    refine g_iload_n C dX9_in_6 rfl ?_
    refine g_icmp_gt (tgt := 14) C dX9_in_7 (by decide) (fun c7 => ?_) (fun c7 => ?_)
    · skip
      refine g_iconst (v := 0) C dX9_in_14 (by decide) ?_
      exact g_zret C hR (by first | exact Or.inl rfl | exact Or.inr rfl | exact bI01 _) (⟨by first | (rw [bI_t ⟨Int32.not_lt.mp c2, Int32.not_lt.mp c7⟩]; done) | (rw [bI_f (fun q => Int32.not_le.mpr c2 q.1)]; done) | (rw [bI_f (fun q => Int32.not_le.mpr c7 q.2)]; done), rfl⟩) dX9_in_15
    · skip
      refine g_iconst (v := 1) C dX9_in_10 (by decide) ?_
      refine g_goto (tgt := 15) C dX9_in_11 (by decide) ?_
      exact g_zret C hR (by first | exact Or.inl rfl | exact Or.inr rfl | exact bI01 _) (⟨by first | (rw [bI_t ⟨Int32.not_lt.mp c2, Int32.not_lt.mp c7⟩]; done) | (rw [bI_f (fun q => Int32.not_le.mpr c2 q.1)]; done) | (rw [bI_f (fun q => Int32.not_le.mpr c7 q.2)]; done), rfl⟩) dX9_in_15

set_option maxHeartbeats 4000000 in
set_option maxRecDepth 100000 in
theorem c_X9_bound (l : Launch) (E : EX) (x : Int32) : Ct l E yX9_bound cX9_bound 1 (some .int) (rmL 1 0 0) [.int x] [] (fun (rv_ : Option Value) (rw_ : va_W) => rv_ = some (.int (asV x)) ∧ rw_ = []) 0 0 := by
  refine Ct_of (by decide) (Nat.le_of_ble_eq_true rfl) ?_
  intro k hkl hnl C hR hin_
  subst hkl
  show G k E 0 0 0 [some (.int x)] [] []
  refine g_iload_n C dX9_bound_0 rfl ?_
  refine g_if_ge (tgt := 8) C dX9_bound_1 (by decide) (fun c1 => ?_) (fun c1 => ?_)
  · skip
    refine g_iload_n C dX9_bound_8 rfl ?_
    refine g_bipush (v := 99) C dX9_bound_9 (by decide) ?_
    refine g_icmp_le (tgt := 19) C dX9_bound_11 (by decide) (fun c11 => ?_) (fun c11 => ?_)
    · skip
      refine g_iload_n C dX9_bound_19 rfl ?_
      exact g_iret C hR (⟨by first | (rw [asV, if_pos (Int32.not_le.mp c1)]; done) | (rw [asV, if_neg (Int32.not_lt.mpr c1), if_neg (Int32.not_lt.mpr c11)]; done) | (rw [asV, if_neg (Int32.not_lt.mpr c1), if_pos (Int32.not_le.mp c11)]; done), rfl⟩) dX9_bound_20
    · skip
      refine g_bipush (v := 99) C dX9_bound_14 (by decide) ?_
      refine g_goto (tgt := 20) C dX9_bound_16 (by decide) ?_
      exact g_iret C hR (⟨by first | (rw [asV, if_pos (Int32.not_le.mp c1)]; done) | (rw [asV, if_neg (Int32.not_lt.mpr c1), if_neg (Int32.not_lt.mpr c11)]; done) | (rw [asV, if_neg (Int32.not_lt.mpr c1), if_pos (Int32.not_le.mp c11)]; done), rfl⟩) dX9_bound_20
  · skip
    refine g_iconst (v := 0) C dX9_bound_4 (by decide) ?_
    refine g_goto (tgt := 20) C dX9_bound_5 (by decide) ?_
    exact g_iret C hR (⟨by first | (rw [asV, if_pos (Int32.not_le.mp c1)]; done) | (rw [asV, if_neg (Int32.not_lt.mpr c1), if_neg (Int32.not_lt.mpr c11)]; done) | (rw [asV, if_neg (Int32.not_lt.mpr c1), if_pos (Int32.not_le.mp c11)]; done), rfl⟩) dX9_bound_20

set_option maxHeartbeats 4000000 in
set_option maxRecDepth 100000 in
theorem c_X9_isStep (l : Launch) (E : EX) (mo : Nat) (rw : Nat) (mh : Nat) (md : Nat) (mk : Nat) (mt : Nat) (z1 : Nat) (z2 : Nat) (z3 : Nat) (y1 : Nat) (y2 : Nat) (y3 : Nat) (y4 : Nat) (ya : Nat) (yw : Nat) (yp : Nat) (st0 : Int32) (lg : Int32) (sf : Int32) (dg : Int32) (un : Int32) (le : Int32) (sm : Int32) (tr : Int64) (at_ : Int32) (be : Int32) (rs : Int32) (nu : Int32) (os : Int32) (od : Int32) (sl : Int32) (fpu : Int32) (wn : Int32) (x : Int32) : Ct l E yX9_isStep cX9_isStep 2 (some .boolean) (rmL 2 0 0) [.ref mo, .int x] [(mo, .inr (9, [.ref rw, .int st0, .int lg, .int sf, .int dg, .ref mh, .ref md, .int un, .ref mk, .ref mt, .int le, .int sm, .ref z1, .ref z2, .ref z3, .long tr, .int at_, .int be, .int rs, .ref y1, .ref y2, .ref y3, .ref y4, .int nu, .int os, .int od, .int sl, .ref ya, .int fpu, .ref yw, .int wn, .ref yp]))] (fun (rv_ : Option Value) (rw_ : va_W) => rv_ = some (.int (bI (0 ≤ x ∧ x ≤ st0 - 1))) ∧ rw_ = [(mo, .inr (9, [.ref rw, .int st0, .int lg, .int sf, .int dg, .ref mh, .ref md, .int un, .ref mk, .ref mt, .int le, .int sm, .ref z1, .ref z2, .ref z3, .long tr, .int at_, .int be, .int rs, .ref y1, .ref y2, .ref y3, .ref y4, .int nu, .int os, .int od, .int sl, .ref ya, .int fpu, .ref yw, .int wn, .ref yp]))]) 0 0 := by
  refine Ct_of (by decide) (Nat.le_of_ble_eq_true rfl) ?_
  intro k hkl hnl C hR hin_
  subst hkl
  show G k E 0 0 0 [some (.ref mo), some (.int x)] [] [(mo, .inr (9, [.ref rw, .int st0, .int lg, .int sf, .int dg, .ref mh, .ref md, .int un, .ref mk, .ref mt, .int le, .int sm, .ref z1, .ref z2, .ref z3, .long tr, .int at_, .int be, .int rs, .ref y1, .ref y2, .ref y3, .ref y4, .int nu, .int os, .int od, .int sl, .ref ya, .int fpu, .ref yw, .int wn, .ref yp]))]
  refine g_iload_n C dX9_isStep_0 rfl ?_
  refine g_iconst (v := 0) C dX9_isStep_1 (by decide) ?_
  refine g_aload_n C dX9_isStep_2 rfl ?_
  refine g_get C kwX9 0 rfl rfl 1 (by decide) kfX9_66 rfl dX9_isStep_3 ?_
  refine g_iconst (v := 1) C dX9_isStep_6 (by decide) ?_
  refine g_isub C dX9_isStep_7 ?_
  refine g_callS C (c_X9_in k.l E x 0 (st0 - 1)) kmX9_69 ktX9_in knX9 kcX9_in ⟨rfl, rfl⟩ kdX9_in ⟨by decide, by decide⟩ ⟨by decide, by decide⟩ [] [0] rfl (wr := [(mo, .inr (9, [.ref rw, .int st0, .int lg, .int sf, .int dg, .ref mh, .ref md, .int un, .ref mk, .ref mt, .int le, .int sm, .ref z1, .ref z2, .ref z3, .long tr, .int at_, .int be, .int rs, .ref y1, .ref y2, .ref y3, .ref y4, .int nu, .int os, .int od, .int sl, .ref ya, .int fpu, .ref yw, .int wn, .ref yp]))]) rfl (by decide +kernel) (by decide +kernel) (by decide +kernel) rfl (As := [.int x, .int 0, .int (st0 - 1)]) (rest := []) rfl (Nat.le_of_ble_eq_true rfl) dX9_isStep_8 (fun rv_ rw_ hp_ => ?_)
  obtain ⟨rfl, rfl⟩ := hp_
  refine g_rep [0] (ws' := [(mo, .inr (9, [.ref rw, .int st0, .int lg, .int sf, .int dg, .ref mh, .ref md, .int un, .ref mk, .ref mt, .int le, .int sm, .ref z1, .ref z2, .ref z3, .long tr, .int at_, .int be, .int rs, .ref y1, .ref y2, .ref y3, .ref y4, .int nu, .int os, .int od, .int sl, .ref ya, .int fpu, .ref yw, .int wn, .ref yp]))]) (st' := [.int (bI (0 ≤ x ∧ x ≤ (st0 - 1)))]) (n' := 0) (z' := 0) (pc' := 11) rfl rfl rfl rfl (by decide +kernel) rfl ?_
  exact g_zret C hR (by first | exact Or.inl rfl | exact Or.inr rfl | exact bI01 _) (⟨rfl, rfl⟩) dX9_isStep_11

set_option maxHeartbeats 4000000 in
set_option maxRecDepth 100000 in
theorem c_X9_asItIs (l : Launch) (E : EX) (mo : Nat) (rw : Nat) (mh : Nat) (md : Nat) (mk : Nat) (mt : Nat) (z1 : Nat) (z2 : Nat) (z3 : Nat) (y1 : Nat) (y2 : Nat) (y3 : Nat) (y4 : Nat) (ya : Nat) (yw : Nat) (yp : Nat) (st0 : Int32) (lg : Int32) (sf : Int32) (dg : Int32) (un : Int32) (le : Int32) (sm : Int32) (tr : Int64) (at_ : Int32) (be : Int32) (rs : Int32) (nu : Int32) (os : Int32) (od : Int32) (sl : Int32) (fpu : Int32) (wn : Int32) : Ct l E yX9_asItIs cX9_asItIs 1 none (rmL 1 0 0) [.ref mo] [(mo, .inr (9, [.ref rw, .int st0, .int lg, .int sf, .int dg, .ref mh, .ref md, .int un, .ref mk, .ref mt, .int le, .int sm, .ref z1, .ref z2, .ref z3, .long tr, .int at_, .int be, .int rs, .ref y1, .ref y2, .ref y3, .ref y4, .int nu, .int os, .int od, .int sl, .ref ya, .int fpu, .ref yw, .int wn, .ref yp]))] (fun (rv_ : Option Value) (rw_ : va_W) => rv_ = none ∧ rw_ = [(mo, .inr (9, [.ref rw, .int st0, .int lg, .int sf, .int dg, .ref mh, .ref md, .int un, .ref mk, .ref mt, .int le, .int sm, .ref z1, .ref z2, .ref z3, .long tr, .int at_, .int be, .int rs, .ref y1, .ref y2, .ref y3, .ref y4, .int nu, .int sf, .int dg, .int 0, .ref ya, .int fpu, .ref yw, .int wn, .ref yp]))]) 0 0 := by
  refine Ct_of (by decide) (Nat.le_of_ble_eq_true rfl) ?_
  intro k hkl hnl C hR hin_
  subst hkl
  show G k E 0 0 0 [some (.ref mo)] [] [(mo, .inr (9, [.ref rw, .int st0, .int lg, .int sf, .int dg, .ref mh, .ref md, .int un, .ref mk, .ref mt, .int le, .int sm, .ref z1, .ref z2, .ref z3, .long tr, .int at_, .int be, .int rs, .ref y1, .ref y2, .ref y3, .ref y4, .int nu, .int os, .int od, .int sl, .ref ya, .int fpu, .ref yw, .int wn, .ref yp]))]
  refine g_aload_n C dX9_asItIs_0 rfl ?_
  refine g_aload_n C dX9_asItIs_1 rfl ?_
  refine g_get C kwX9 0 rfl rfl 3 (by decide) kfX9_17 rfl dX9_asItIs_2 ?_
  refine g_put (ws' := [(mo, .inr (9, [.ref rw, .int st0, .int lg, .int sf, .int dg, .ref mh, .ref md, .int un, .ref mk, .ref mt, .int le, .int sm, .ref z1, .ref z2, .ref z3, .long tr, .int at_, .int be, .int rs, .ref y1, .ref y2, .ref y3, .ref y4, .int nu, .int sf, .int od, .int sl, .ref ya, .int fpu, .ref yw, .int wn, .ref yp]))]) C kwX9 tyX9 tyX9_ok nmX9 0 rfl rfl 24 (by decide) kfX9_125 rfl rfl rfl (Nat.le_of_ble_eq_true rfl) rfl dX9_asItIs_5 ?_
  refine g_aload_n C dX9_asItIs_8 rfl ?_
  refine g_aload_n C dX9_asItIs_9 rfl ?_
  refine g_get C kwX9 0 rfl rfl 4 (by decide) kfX9_20 rfl dX9_asItIs_10 ?_
  refine g_put (ws' := [(mo, .inr (9, [.ref rw, .int st0, .int lg, .int sf, .int dg, .ref mh, .ref md, .int un, .ref mk, .ref mt, .int le, .int sm, .ref z1, .ref z2, .ref z3, .long tr, .int at_, .int be, .int rs, .ref y1, .ref y2, .ref y3, .ref y4, .int nu, .int sf, .int dg, .int sl, .ref ya, .int fpu, .ref yw, .int wn, .ref yp]))]) C kwX9 tyX9 tyX9_ok nmX9 0 rfl rfl 25 (by decide) kfX9_128 rfl rfl rfl (Nat.le_of_ble_eq_true rfl) rfl dX9_asItIs_13 ?_
  refine g_aload_n C dX9_asItIs_16 rfl ?_
  refine g_iconst (v := 0) C dX9_asItIs_17 (by decide) ?_
  refine g_put (ws' := [(mo, .inr (9, [.ref rw, .int st0, .int lg, .int sf, .int dg, .ref mh, .ref md, .int un, .ref mk, .ref mt, .int le, .int sm, .ref z1, .ref z2, .ref z3, .long tr, .int at_, .int be, .int rs, .ref y1, .ref y2, .ref y3, .ref y4, .int nu, .int sf, .int dg, .int 0, .ref ya, .int fpu, .ref yw, .int wn, .ref yp]))]) C kwX9 tyX9 tyX9_ok nmX9 0 rfl rfl 26 (by decide) kfX9_131 rfl rfl rfl (Nat.le_of_ble_eq_true rfl) rfl dX9_asItIs_18 ?_
  exact g_vret C hR (⟨rfl, rfl⟩) dX9_asItIs_21

set_option maxHeartbeats 4000000 in
set_option maxRecDepth 100000 in
theorem lp_X9_copy {k : KX} {E : EX} (C : Cx k E cX9_copyRow RX9 (rmL 1 0 0)) (hnl : ∀ j : Nat, j < 4 → j < k.nL) {mo : Nat} {rw : Nat} {mh : Nat} {md : Nat} {mk : Nat} {mt : Nat} {z1 : Nat} {z2 : Nat} {z3 : Nat} {y1 : Nat} {y2 : Nat} {y3 : Nat} {y4 : Nat} {ya : Nat} {yw : Nat} {yp : Nat} {st0 : Int32} {lg : Int32} {sf : Int32} {dg : Int32} {un : Int32} {le : Int32} {sm : Int32} {tr : Int64} {at_ : Int32} {be : Int32} {rs : Int32} {nu : Int32} {os : Int32} {od : Int32} {sl : Int32} {fpu : Int32} {wn : Int32} {rf : Nat → Int32} {f : Nat} {t : Nat} (hf : f + 12 ≤ 168) (ht : t + 12 ≤ 168) (hft : t ≤ f ∨ f + 12 ≤ t) (hR : Rt k E (fun (rv_ : Option Value) (rw_ : va_W) => rv_ = none ∧ rw_ = [(mo, .inr (9, [.ref rw, .int st0, .int lg, .int sf, .int dg, .ref mh, .ref md, .int un, .ref mk, .ref mt, .int le, .int sm, .ref z1, .ref z2, .ref z3, .long tr, .int at_, .int be, .int rs, .ref y1, .ref y2, .ref y3, .ref y4, .int nu, .int os, .int od, .int sl, .ref ya, .int fpu, .ref yw, .int wn, .ref yp])), aI E rw 168 (va_cpy rf rf f t 12)]) 0 0 none) : ∀ (g j : Nat), j + g = 12 → G k E 0 0 2 [some (.ref mo), some (.int (nI f)), some (.int (nI t)), some (.int (nI j))] [] [(mo, .inr (9, [.ref rw, .int st0, .int lg, .int sf, .int dg, .ref mh, .ref md, .int un, .ref mk, .ref mt, .int le, .int sm, .ref z1, .ref z2, .ref z3, .long tr, .int at_, .int be, .int rs, .ref y1, .ref y2, .ref y3, .ref y4, .int nu, .int os, .int od, .int sl, .ref ya, .int fpu, .ref yw, .int wn, .ref yp])), aI E rw 168 (va_cpy rf rf f t j)] := by
  intro g
  induction g with
  | zero =>
    intro j hj
    have e : j = 12 := by omega
    subst e
    refine g_iload_n C dX9_copyRow_2 rfl ?_
    refine g_bipush (v := 12) C dX9_copyRow_3 (by decide) ?_
    refine g_icmp_ge (tgt := 30) C dX9_copyRow_5 (by decide) (fun c5 => ?_) (fun c5 => ?_)
    · skip
      exact g_vret C hR (⟨rfl, rfl⟩) dX9_copyRow_30
    · skip
      exact absurd (by decide) c5
  | succ g ih =>
    intro j hj
    refine g_iload_n C dX9_copyRow_2 rfl ?_
    refine g_bipush (v := 12) C dX9_copyRow_3 (by decide) ?_
    refine g_icmp_ge (tgt := 30) C dX9_copyRow_5 (by decide) (fun c5 => ?_) (fun c5 => ?_)
    · skip
      exact absurd ((nI_leI (a := 12) (by decide) (by omega)).mp c5) (by omega)
    · skip
      refine g_aload_n C dX9_copyRow_8 rfl ?_
      refine g_get C kwX9 0 rfl rfl 0 (by decide) kfX9_7 rfl dX9_copyRow_9 ?_
      refine g_iload_n C dX9_copyRow_12 rfl ?_
      refine g_iload_n C dX9_copyRow_13 rfl ?_
      refine g_iadd C dX9_copyRow_14 ?_
      refine g_topi (v := nI (t + j)) (nI_add _ _) ?_
      refine g_aload_n C dX9_copyRow_15 rfl ?_
      refine g_get C kwX9 0 rfl rfl 0 (by decide) kfX9_7 rfl dX9_copyRow_16 ?_
      refine g_iload_n C dX9_copyRow_19 rfl ?_
      refine g_iload_n C dX9_copyRow_20 rfl ?_
      refine g_iadd C dX9_copyRow_21 ?_
      refine g_topi (v := nI (f + j)) (nI_add _ _) ?_
      refine g_iald C 1 (f + j) rfl (rfl) (by omega) (by decide) dX9_copyRow_22 ?_
      refine g_iast (ws' := [(mo, .inr (9, [.ref rw, .int st0, .int lg, .int sf, .int dg, .ref mh, .ref md, .int un, .ref mk, .ref mt, .int le, .int sm, .ref z1, .ref z2, .ref z3, .long tr, .int at_, .int be, .int rs, .ref y1, .ref y2, .ref y3, .ref y4, .int nu, .int os, .int od, .int sl, .ref ya, .int fpu, .ref yw, .int wn, .ref yp])), aI E rw 168 (va_cpy rf rf f t (j + 1))]) C 1 (t + j) rfl (rfl) (by omega) (by decide) (by rw [← cpyR_1 (by omega)]; rfl) dX9_copyRow_23 ?_
      refine g_iinc (v := nI (j + 1)) (lv' := [some (.ref mo), some (.int (nI f)), some (.int (nI t)), some (.int (nI (j + 1)))]) C dX9_copyRow_24 rfl (nI_add _ 1) (hnl 3 (by decide)) rfl rfl ?_
      refine g_goto (tgt := 2) C dX9_copyRow_27 (by decide) ?_
      exact ih (j + 1) (by omega)

set_option maxHeartbeats 4000000 in
set_option maxRecDepth 100000 in
theorem c_X9_copyRow (l : Launch) (E : EX) (mo : Nat) (rw : Nat) (mh : Nat) (md : Nat) (mk : Nat) (mt : Nat) (z1 : Nat) (z2 : Nat) (z3 : Nat) (y1 : Nat) (y2 : Nat) (y3 : Nat) (y4 : Nat) (ya : Nat) (yw : Nat) (yp : Nat) (st0 : Int32) (lg : Int32) (sf : Int32) (dg : Int32) (un : Int32) (le : Int32) (sm : Int32) (tr : Int64) (at_ : Int32) (be : Int32) (rs : Int32) (nu : Int32) (os : Int32) (od : Int32) (sl : Int32) (fpu : Int32) (wn : Int32) (rf : Nat → Int32) (f : Nat) (t : Nat) (hf : f + 12 ≤ 168) (ht : t + 12 ≤ 168) (hft : t ≤ f ∨ f + 12 ≤ t) : Ct l E yX9_copyRow cX9_copyRow 4 none (rmL 1 0 0) [.ref mo, .int (nI f), .int (nI t)] [(mo, .inr (9, [.ref rw, .int st0, .int lg, .int sf, .int dg, .ref mh, .ref md, .int un, .ref mk, .ref mt, .int le, .int sm, .ref z1, .ref z2, .ref z3, .long tr, .int at_, .int be, .int rs, .ref y1, .ref y2, .ref y3, .ref y4, .int nu, .int os, .int od, .int sl, .ref ya, .int fpu, .ref yw, .int wn, .ref yp])), aI E rw 168 rf] (fun (rv_ : Option Value) (rw_ : va_W) => rv_ = none ∧ rw_ = [(mo, .inr (9, [.ref rw, .int st0, .int lg, .int sf, .int dg, .ref mh, .ref md, .int un, .ref mk, .ref mt, .int le, .int sm, .ref z1, .ref z2, .ref z3, .long tr, .int at_, .int be, .int rs, .ref y1, .ref y2, .ref y3, .ref y4, .int nu, .int os, .int od, .int sl, .ref ya, .int fpu, .ref yw, .int wn, .ref yp])), aI E rw 168 (va_cpy rf rf f t 12)]) 0 0 := by
  refine Ct_of (by decide) (Nat.le_of_ble_eq_true rfl) ?_
  intro k hkl hnl C hR hin_
  subst hkl
  show G k E 0 0 0 [some (.ref mo), some (.int (nI f)), some (.int (nI t)), none] [] [(mo, .inr (9, [.ref rw, .int st0, .int lg, .int sf, .int dg, .ref mh, .ref md, .int un, .ref mk, .ref mt, .int le, .int sm, .ref z1, .ref z2, .ref z3, .long tr, .int at_, .int be, .int rs, .ref y1, .ref y2, .ref y3, .ref y4, .int nu, .int os, .int od, .int sl, .ref ya, .int fpu, .ref yw, .int wn, .ref yp])), aI E rw 168 rf]
  refine g_iconst (v := 0) C dX9_copyRow_0 (by decide) ?_
  refine g_istore_n (lv' := [some (.ref mo), some (.int (nI f)), some (.int (nI t)), some (.int 0)]) C dX9_copyRow_1 (hnl 3 (by decide)) rfl rfl ?_
  have h0 := lp_X9_copy (rf := rf) C hnl hf ht hft hR 12 0 (by omega)
  rw [cpyR_0] at h0
  exact h0

set_option maxHeartbeats 4000000 in
set_option maxRecDepth 100000 in
theorem c_X9_layTried (l : Launch) (E : EX) (mo : Nat) (rw : Nat) (mh : Nat) (md : Nat) (mk : Nat) (mt : Nat) (z1 : Nat) (z2 : Nat) (z3 : Nat) (y1 : Nat) (y2 : Nat) (y3 : Nat) (y4 : Nat) (ya : Nat) (yw : Nat) (yp : Nat) (st0 : Int32) (lg : Int32) (sf : Int32) (dg : Int32) (un : Int32) (le : Int32) (sm : Int32) (tr : Int64) (at_ : Int32) (be : Int32) (rs : Int32) (nu : Int32) (os : Int32) (od : Int32) (sl : Int32) (fpu : Int32) (wn : Int32) (rf : Nat → Int32) : Ct l E yX9_layTried cX9_layTried 1 none (rmL 2 0 0) [.ref mo] [(mo, .inr (9, [.ref rw, .int st0, .int lg, .int sf, .int dg, .ref mh, .ref md, .int un, .ref mk, .ref mt, .int le, .int sm, .ref z1, .ref z2, .ref z3, .long tr, .int at_, .int be, .int rs, .ref y1, .ref y2, .ref y3, .ref y4, .int nu, .int os, .int od, .int sl, .ref ya, .int fpu, .ref yw, .int wn, .ref yp])), aI E rw 168 rf] (fun (rv_ : Option Value) (rw_ : va_W) => rv_ = none ∧ rw_ = [(mo, .inr (9, [.ref rw, .int st0, .int lg, .int sf, .int dg, .ref mh, .ref md, .int un, .ref mk, .ref mt, .int le, .int sm, .ref z1, .ref z2, .ref z3, .long tr, .int at_, .int be, .int rs, .ref y1, .ref y2, .ref y3, .ref y4, .int nu, .int sf, .int dg, .int 0, .ref ya, .int fpu, .ref yw, .int wn, .ref yp])), aI E rw 168 (va_cpy rf rf 0 156 12)]) 0 0 := by
  refine Ct_of (by decide) (Nat.le_of_ble_eq_true rfl) ?_
  intro k hkl hnl C hR hin_
  subst hkl
  show G k E 0 0 0 [some (.ref mo)] [] [(mo, .inr (9, [.ref rw, .int st0, .int lg, .int sf, .int dg, .ref mh, .ref md, .int un, .ref mk, .ref mt, .int le, .int sm, .ref z1, .ref z2, .ref z3, .long tr, .int at_, .int be, .int rs, .ref y1, .ref y2, .ref y3, .ref y4, .int nu, .int os, .int od, .int sl, .ref ya, .int fpu, .ref yw, .int wn, .ref yp])), aI E rw 168 rf]
  refine g_aload_n C dX9_layTried_0 rfl ?_
  refine g_iconst (v := 0) C dX9_layTried_1 (by decide) ?_
  refine g_sipush (v := 156) C dX9_layTried_2 (by decide) ?_
  refine g_callV C (c_X9_copyRow k.l E mo rw mh md mk mt z1 z2 z3 y1 y2 y3 y4 ya yw yp st0 lg sf dg un le sm tr at_ be rs nu os od sl fpu wn rf 0 156 (by decide) (by decide) (Or.inr (by decide))) kmX9_145 kiX9_copyRow ksX9_copyRow knX9 kcX9_copyRow ⟨rfl, rfl⟩ ⟨rfl, kdX9_copyRow⟩ ⟨by decide, by decide⟩ ⟨by decide, by decide⟩ [0, 1] [] rfl (wr := []) rfl (by decide +kernel) (by decide +kernel) (by decide +kernel) 0 9 rfl rfl rfl (As := [.int 0, .int 156]) (rest := []) rfl (Nat.le_of_ble_eq_true rfl) dX9_layTried_5 (fun rv_ rw_ hp_ => ?_)
  obtain ⟨rfl, rfl⟩ := hp_
  refine g_rep [0, 1] (ws' := [(mo, .inr (9, [.ref rw, .int st0, .int lg, .int sf, .int dg, .ref mh, .ref md, .int un, .ref mk, .ref mt, .int le, .int sm, .ref z1, .ref z2, .ref z3, .long tr, .int at_, .int be, .int rs, .ref y1, .ref y2, .ref y3, .ref y4, .int nu, .int os, .int od, .int sl, .ref ya, .int fpu, .ref yw, .int wn, .ref yp])), aI E rw 168 (va_cpy rf rf 0 156 12)]) (st' := []) (n' := 0) (z' := 0) (pc' := 8) rfl rfl rfl rfl (by decide +kernel) rfl ?_
  refine g_aload_n C dX9_layTried_8 rfl ?_
  refine g_callV C (c_X9_asItIs k.l E mo rw mh md mk mt z1 z2 z3 y1 y2 y3 y4 ya yw yp st0 lg sf dg un le sm tr at_ be rs nu os od sl fpu wn) kmX9_149 kiX9_asItIs ksX9_asItIs knX9 kcX9_asItIs ⟨rfl, rfl⟩ ⟨rfl, kdX9_asItIs⟩ ⟨by decide, by decide⟩ ⟨by decide, by decide⟩ [0] [1] rfl (wr := [aI E rw 168 (va_cpy rf rf 0 156 12)]) rfl (by decide +kernel) (by decide +kernel) (by decide +kernel) 0 9 rfl rfl rfl (As := []) (rest := []) rfl (Nat.le_of_ble_eq_true rfl) dX9_layTried_9 (fun rv_ rw_ hp_ => ?_)
  obtain ⟨rfl, rfl⟩ := hp_
  refine g_rep [1, 0] (ws' := [(mo, .inr (9, [.ref rw, .int st0, .int lg, .int sf, .int dg, .ref mh, .ref md, .int un, .ref mk, .ref mt, .int le, .int sm, .ref z1, .ref z2, .ref z3, .long tr, .int at_, .int be, .int rs, .ref y1, .ref y2, .ref y3, .ref y4, .int nu, .int sf, .int dg, .int 0, .ref ya, .int fpu, .ref yw, .int wn, .ref yp])), aI E rw 168 (va_cpy rf rf 0 156 12)]) (st' := []) (n' := 0) (z' := 0) (pc' := 12) rfl rfl rfl rfl (by decide +kernel) rfl ?_
  exact g_vret C hR (⟨rfl, rfl⟩) dX9_layTried_12

set_option maxHeartbeats 4000000 in
set_option maxRecDepth 100000 in
theorem lpx_X9_lands {k : KX} {E : EX} (C : Cx k E cX9_lands RX9 (rmL 2 0 0)) (hnl : ∀ j : Nat, j < 5 → j < k.nL) {mo : Nat} {rw : Nat} {mh : Nat} {md : Nat} {mk : Nat} {mt : Nat} {z1 : Nat} {z2 : Nat} {z3 : Nat} {y1 : Nat} {y2 : Nat} {y3 : Nat} {y4 : Nat} {ya : Nat} {yw : Nat} {yp : Nat} {lg : Int32} {sf : Int32} {dg : Int32} {un : Int32} {le : Int32} {sm : Int32} {tr : Int64} {at_ : Int32} {be : Int32} {rs : Int32} {nu : Int32} {os : Int32} {od : Int32} {fpu : Int32} {wn : Int32} {n : Nat} {hi : Nat → Int32} {de : Nat → Int32} {mm : Nat → Int32} {B : Nat} (hn : n ≤ 9) (hB : B + 12 ≤ 168) {rz : Nat → Int32} {t : Nat × Int32 × Int32} (hR : Rt k E (fun (rv_ : Option Value) (rw_ : va_W) => ∃ (rf2 : Nat → Int32), rv_ = none ∧ rw_ = [(mo, .inr (9, [.ref rw, .int (nI n), .int lg, .int sf, .int dg, .ref mh, .ref md, .int un, .ref mk, .ref mt, .int le, .int sm, .ref z1, .ref z2, .ref z3, .long tr, .int at_, .int be, .int rs, .ref y1, .ref y2, .ref y3, .ref y4, .int nu, .int os, .int od, .int t.2.2, .ref ya, .int fpu, .ref yw, .int wn, .ref yp])), aI E rw 168 rf2, aI E mh 9 hi, aI E md 9 de] ∧ (rf2 B = nI (t).1) ∧ (rf2 (B + 1) = (t).2.1) ∧ (∀ i, ¬ i = B → ¬ i = B + 1 → rf2 i = rz i)) 0 0 none) : ∀ (rf : Nat → Int32) {sl : Int32}, rf B = nI t.1 → rf (B + 1) = t.2.1 → (∀ i, ¬ i = B → ¬ i = B + 1 → rf i = rz i) → sl = t.2.2 → G k E 0 0 2 [some (.ref mo), some (.int (nI B)), some (.int 0), none, none] [] [(mo, .inr (9, [.ref rw, .int (nI n), .int lg, .int sf, .int dg, .ref mh, .ref md, .int un, .ref mk, .ref mt, .int le, .int sm, .ref z1, .ref z2, .ref z3, .long tr, .int at_, .int be, .int rs, .ref y1, .ref y2, .ref y3, .ref y4, .int nu, .int os, .int od, .int sl, .ref ya, .int fpu, .ref yw, .int wn, .ref yp])), aI E rw 168 rf, aI E mh 9 hi, aI E md 9 de] := by
  intro rf sl g0 g1 g2 gs
  subst gs
  refine g_iload_n C dX9_lands_2 rfl ?_
  refine g_if_eq (tgt := 163) C dX9_lands_3 (by decide) (fun c3 => ?_) (fun c3 => ?_)
  · skip
    exact g_vret C hR (⟨_, rfl, rfl, g0, g1, g2⟩) dX9_lands_163
  · skip
    exact absurd rfl c3

set_option maxHeartbeats 4000000 in
set_option maxRecDepth 100000 in
theorem lp_X9_lands {k : KX} {E : EX} (C : Cx k E cX9_lands RX9 (rmL 2 0 0)) (hnl : ∀ j : Nat, j < 5 → j < k.nL) {mo : Nat} {rw : Nat} {mh : Nat} {md : Nat} {mk : Nat} {mt : Nat} {z1 : Nat} {z2 : Nat} {z3 : Nat} {y1 : Nat} {y2 : Nat} {y3 : Nat} {y4 : Nat} {ya : Nat} {yw : Nat} {yp : Nat} {lg : Int32} {sf : Int32} {dg : Int32} {un : Int32} {le : Int32} {sm : Int32} {tr : Int64} {at_ : Int32} {be : Int32} {rs : Int32} {nu : Int32} {os : Int32} {od : Int32} {fpu : Int32} {wn : Int32} {n : Nat} {hi : Nat → Int32} {de : Nat → Int32} {mm : Nat → Int32} {B : Nat} (hn : n ≤ 9) (hB : B + 12 ≤ 168) {rz : Nat → Int32} {t : Nat × Int32 × Int32} (hR : Rt k E (fun (rv_ : Option Value) (rw_ : va_W) => ∃ (rf2 : Nat → Int32), rv_ = none ∧ rw_ = [(mo, .inr (9, [.ref rw, .int (nI n), .int lg, .int sf, .int dg, .ref mh, .ref md, .int un, .ref mk, .ref mt, .int le, .int sm, .ref z1, .ref z2, .ref z3, .long tr, .int at_, .int be, .int rs, .ref y1, .ref y2, .ref y3, .ref y4, .int nu, .int os, .int od, .int t.2.2, .ref ya, .int fpu, .ref yw, .int wn, .ref yp])), aI E rw 168 rf2, aI E mh 9 hi, aI E md 9 de] ∧ (rf2 B = nI (t).1) ∧ (rf2 (B + 1) = (t).2.1) ∧ (∀ i, ¬ i = B → ¬ i = B + 1 → rf2 i = rz i)) 0 0 none) : ∀ (f a : Nat) (v sl : Int32) (rf : Nat → Int32), a + f = n → landF hi de mm lg od f a v sl = t → rf B = nI a → rf (B + 1) = v → (∀ s, s < 9 → rf (B + 3 + s) = mm s) → (∀ i, ¬ i = B → ¬ i = B + 1 → rf i = rz i) → G k E 0 0 2 [some (.ref mo), some (.int (nI B)), some (.int 1), none, none] [] [(mo, .inr (9, [.ref rw, .int (nI n), .int lg, .int sf, .int dg, .ref mh, .ref md, .int un, .ref mk, .ref mt, .int le, .int sm, .ref z1, .ref z2, .ref z3, .long tr, .int at_, .int be, .int rs, .ref y1, .ref y2, .ref y3, .ref y4, .int nu, .int os, .int od, .int sl, .ref ya, .int fpu, .ref yw, .int wn, .ref yp])), aI E rw 168 rf, aI E mh 9 hi, aI E md 9 de] := by
  intro f
  induction f with
  | zero =>
    intro a v sl rf hf ht h0 h1 hmm hrz
    have e : a = n := by omega
    subst e
    refine g_iload_n C dX9_lands_2 rfl ?_
    refine g_if_eq (tgt := 163) C dX9_lands_3 (by decide) (fun c3 => ?_) (fun c3 => ?_)
    · skip
      exact absurd c3 (by decide)
    · skip
      refine g_aload_n C dX9_lands_6 rfl ?_
      refine g_get C kwX9 0 rfl rfl 0 (by decide) kfX9_7 rfl dX9_lands_7 ?_
      refine g_iload_n C dX9_lands_10 rfl ?_
      refine g_iconst (v := 0) C dX9_lands_11 (by decide) ?_
      refine g_iadd C dX9_lands_12 ?_
      refine g_topi (v := nI B) (Int32.add_zero _) ?_
      refine g_iald C 1 B rfl (rfl) (by omega) (by decide) dX9_lands_13 ?_
      refine g_topi (v := nI a) (h0) ?_
      refine g_istore_n (lv' := [some (.ref mo), some (.int (nI B)), some (.int 1), some (.int (nI a)), none]) C dX9_lands_14 (hnl 3 (by decide)) rfl rfl ?_
      refine g_iconst (v := 0) C dX9_lands_15 (by decide) ?_
      refine g_istore_n (lv' := [some (.ref mo), some (.int (nI B)), some (.int 0), some (.int (nI a)), none]) C dX9_lands_16 (hnl 2 (by decide)) rfl rfl ?_
      refine g_iload_n C dX9_lands_17 rfl ?_
      refine g_aload_n C dX9_lands_18 rfl ?_
      refine g_get C kwX9 0 rfl rfl 1 (by decide) kfX9_66 rfl dX9_lands_19 ?_
      refine g_icmp_ne (tgt := 37) C dX9_lands_22 (by decide) (fun c22 => ?_) (fun c22 => ?_)
      · skip
        exact absurd rfl c22
      · skip
        refine g_aload_n C dX9_lands_25 rfl ?_
        refine g_get C kwX9 0 rfl rfl 0 (by decide) kfX9_7 rfl dX9_lands_26 ?_
        refine g_iload_n C dX9_lands_29 rfl ?_
        refine g_iconst (v := 1) C dX9_lands_30 (by decide) ?_
        refine g_iadd C dX9_lands_31 ?_
        refine g_topi (v := nI (B + 1)) (nI_add B 1) ?_
        refine g_iconst (v := 0) C dX9_lands_32 (by decide) ?_
        refine g_iast (ws' := [(mo, .inr (9, [.ref rw, .int (nI a), .int lg, .int sf, .int dg, .ref mh, .ref md, .int un, .ref mk, .ref mt, .int le, .int sm, .ref z1, .ref z2, .ref z3, .long tr, .int at_, .int be, .int rs, .ref y1, .ref y2, .ref y3, .ref y4, .int nu, .int os, .int od, .int sl, .ref ya, .int fpu, .ref yw, .int wn, .ref yp])), aI E rw 168 (upd rf (B + 1) 0), aI E mh 9 hi, aI E md 9 de]) C 1 (B + 1) rfl (rfl) (by omega) (by decide) rfl dX9_lands_33 ?_
        refine g_goto (tgt := 160) C dX9_lands_34 (by decide) ?_
        refine g_goto (tgt := 2) C dX9_lands_160 (by decide) ?_
        refine g_kill 3 (lv' := [some (.ref mo), some (.int (nI B)), some (.int 0), none, none]) rfl ?_
        exact lpx_X9_lands (mm := mm) C hnl hn hB hR _ (by rw [pk_un (by omega), h0, ← ht]; rfl) (by rw [pk_us, ← ht]; rfl) (fun i q1 q2 => by rw [pk_un q2]; exact hrz i q1 q2) (by rw [← ht]; rfl)
  | succ f ih =>
    intro a v sl rf hf ht h0 h1 hmm hrz
    unfold landF at ht
    refine g_iload_n C dX9_lands_2 rfl ?_
    refine g_if_eq (tgt := 163) C dX9_lands_3 (by decide) (fun c3 => ?_) (fun c3 => ?_)
    · skip
      exact absurd c3 (by decide)
    · skip
      refine g_aload_n C dX9_lands_6 rfl ?_
      refine g_get C kwX9 0 rfl rfl 0 (by decide) kfX9_7 rfl dX9_lands_7 ?_
      refine g_iload_n C dX9_lands_10 rfl ?_
      refine g_iconst (v := 0) C dX9_lands_11 (by decide) ?_
      refine g_iadd C dX9_lands_12 ?_
      refine g_topi (v := nI B) (Int32.add_zero _) ?_
      refine g_iald C 1 B rfl (rfl) (by omega) (by decide) dX9_lands_13 ?_
      refine g_topi (v := nI a) (h0) ?_
      refine g_istore_n (lv' := [some (.ref mo), some (.int (nI B)), some (.int 1), some (.int (nI a)), none]) C dX9_lands_14 (hnl 3 (by decide)) rfl rfl ?_
      refine g_iconst (v := 0) C dX9_lands_15 (by decide) ?_
      refine g_istore_n (lv' := [some (.ref mo), some (.int (nI B)), some (.int 0), some (.int (nI a)), none]) C dX9_lands_16 (hnl 2 (by decide)) rfl rfl ?_
      refine g_iload_n C dX9_lands_17 rfl ?_
      refine g_aload_n C dX9_lands_18 rfl ?_
      refine g_get C kwX9 0 rfl rfl 1 (by decide) kfX9_66 rfl dX9_lands_19 ?_
      refine g_icmp_ne (tgt := 37) C dX9_lands_22 (by decide) (fun c22 => ?_) (fun c22 => ?_)
      · skip
        refine g_aload_n C dX9_lands_37 rfl ?_
        refine g_get C kwX9 0 rfl rfl 0 (by decide) kfX9_7 rfl dX9_lands_38 ?_
        refine g_iload_n C dX9_lands_41 rfl ?_
        refine g_iconst (v := 1) C dX9_lands_42 (by decide) ?_
        refine g_iadd C dX9_lands_43 ?_
        refine g_topi (v := nI (B + 1)) (nI_add B 1) ?_
        refine g_iald C 1 (B + 1) rfl (rfl) (by omega) (by decide) dX9_lands_44 ?_
        refine g_topi (v := v) (h1) ?_
        refine g_aload_n C dX9_lands_45 rfl ?_
        refine g_get C kwX9 0 rfl rfl 0 (by decide) kfX9_7 rfl dX9_lands_46 ?_
        refine g_iload_n C dX9_lands_49 rfl ?_
        refine g_iconst (v := 3) C dX9_lands_50 (by decide) ?_
        refine g_iadd C dX9_lands_51 ?_
        refine g_topi (v := nI (B + 3)) (nI_add B 3) ?_
        refine g_iload_n C dX9_lands_52 rfl ?_
        refine g_iadd C dX9_lands_53 ?_
        refine g_topi (v := nI (B + 3 + a)) (nI_add _ _) ?_
        refine g_iald C 1 (B + 3 + a) rfl (rfl) (by omega) (by decide) dX9_lands_54 ?_
        refine g_topi (v := mm a) (hmm a (by omega)) ?_
        refine g_isub C dX9_lands_55 ?_
        refine g_callS C (c_X9_bound k.l E (v - (mm a))) kmX9_134 ktX9_bound knX9 kcX9_bound ⟨rfl, rfl⟩ kdX9_bound ⟨by decide, by decide⟩ ⟨by decide, by decide⟩ [] [0, 1, 2, 3] rfl (wr := [(mo, .inr (9, [.ref rw, .int (nI n), .int lg, .int sf, .int dg, .ref mh, .ref md, .int un, .ref mk, .ref mt, .int le, .int sm, .ref z1, .ref z2, .ref z3, .long tr, .int at_, .int be, .int rs, .ref y1, .ref y2, .ref y3, .ref y4, .int nu, .int os, .int od, .int sl, .ref ya, .int fpu, .ref yw, .int wn, .ref yp])), aI E rw 168 rf, aI E mh 9 hi, aI E md 9 de]) rfl (by decide +kernel) (by decide +kernel) (by decide +kernel) rfl (As := [.int (v - (mm a))]) (rest := []) rfl (Nat.le_of_ble_eq_true rfl) dX9_lands_56 (fun rv_ rw_ hp_ => ?_)
        obtain ⟨rfl, rfl⟩ := hp_
        refine g_rep [0, 1, 2, 3] (ws' := [(mo, .inr (9, [.ref rw, .int (nI n), .int lg, .int sf, .int dg, .ref mh, .ref md, .int un, .ref mk, .ref mt, .int le, .int sm, .ref z1, .ref z2, .ref z3, .long tr, .int at_, .int be, .int rs, .ref y1, .ref y2, .ref y3, .ref y4, .int nu, .int os, .int od, .int sl, .ref ya, .int fpu, .ref yw, .int wn, .ref yp])), aI E rw 168 rf, aI E mh 9 hi, aI E md 9 de]) (st' := [.int (asV (v - (mm a)))]) (n' := 0) (z' := 0) (pc' := 59) rfl rfl rfl rfl (by decide +kernel) rfl ?_
        refine g_istore (lv' := [some (.ref mo), some (.int (nI B)), some (.int 0), some (.int (nI a)), some (.int (asV (v - (mm a))))]) C dX9_lands_59 (hnl 4 (by decide)) rfl rfl ?_
        refine g_iload C dX9_lands_61 rfl ?_
        refine g_aload_n C dX9_lands_63 rfl ?_
        refine g_get C kwX9 0 rfl rfl 2 (by decide) kfX9_13 rfl dX9_lands_64 ?_
        refine g_aload_n C dX9_lands_67 rfl ?_
        refine g_get C kwX9 0 rfl rfl 6 (by decide) kfX9_26 rfl dX9_lands_68 ?_
        refine g_iload_n C dX9_lands_71 rfl ?_
        refine g_iald C 3 a rfl (rfl) (by omega) (by decide) dX9_lands_72 ?_
        refine g_iadd C dX9_lands_73 ?_
        refine g_icmp_le (tgt := 81) C dX9_lands_74 (by decide) (fun c74 => ?_) (fun c74 => ?_)
        · skip
          refine g_iconst (v := 0) C dX9_lands_81 (by decide) ?_
          refine g_istore_n (lv' := [some (.ref mo), some (.int (nI B)), some (.int 0), some (.int (nI a)), some (.int (asV (v - (mm a))))]) C dX9_lands_82 (hnl 2 (by decide)) rfl rfl ?_
          refine g_aload_n C dX9_lands_83 rfl ?_
          refine g_get C kwX9 0 rfl rfl 0 (by decide) kfX9_7 rfl dX9_lands_84 ?_
          refine g_iload_n C dX9_lands_87 rfl ?_
          refine g_iconst (v := 1) C dX9_lands_88 (by decide) ?_
          refine g_iadd C dX9_lands_89 ?_
          refine g_topi (v := nI (B + 1)) (nI_add B 1) ?_
          refine g_iload_n C dX9_lands_90 rfl ?_
          refine g_if_eq (tgt := 118) C dX9_lands_91 (by decide) (fun c91 => ?_) (fun c91 => ?_)
          · skip
            refine g_iload C dX9_lands_118 rfl ?_
            refine g_iast (ws' := [(mo, .inr (9, [.ref rw, .int (nI n), .int lg, .int sf, .int dg, .ref mh, .ref md, .int un, .ref mk, .ref mt, .int le, .int sm, .ref z1, .ref z2, .ref z3, .long tr, .int at_, .int be, .int rs, .ref y1, .ref y2, .ref y3, .ref y4, .int nu, .int os, .int od, .int sl, .ref ya, .int fpu, .ref yw, .int wn, .ref yp])), aI E rw 168 (upd rf (B + 1) (asV (v - (mm a)))), aI E mh 9 hi, aI E md 9 de]) C 1 (B + 1) rfl (rfl) (by omega) (by decide) rfl dX9_lands_120 ?_
            refine g_aload_n C dX9_lands_121 rfl ?_
            refine g_get C kwX9 0 rfl rfl 0 (by decide) kfX9_7 rfl dX9_lands_122 ?_
            refine g_iload_n C dX9_lands_125 rfl ?_
            refine g_iconst (v := 0) C dX9_lands_126 (by decide) ?_
            refine g_iadd C dX9_lands_127 ?_
            refine g_topi (v := nI B) (Int32.add_zero _) ?_
            refine g_iload_n C dX9_lands_128 rfl ?_
            refine g_if_eq (tgt := 138) C dX9_lands_129 (by decide) (fun c129 => ?_) (fun c129 => ?_)
            · skip
              refine g_iload_n C dX9_lands_138 rfl ?_
              refine g_iast (ws' := [(mo, .inr (9, [.ref rw, .int (nI n), .int lg, .int sf, .int dg, .ref mh, .ref md, .int un, .ref mk, .ref mt, .int le, .int sm, .ref z1, .ref z2, .ref z3, .long tr, .int at_, .int be, .int rs, .ref y1, .ref y2, .ref y3, .ref y4, .int nu, .int os, .int od, .int sl, .ref ya, .int fpu, .ref yw, .int wn, .ref yp])), aI E rw 168 (upd (upd rf (B + 1) (asV (v - (mm a)))) B (nI a)), aI E mh 9 hi, aI E md 9 de]) C 1 B rfl (rfl) (by omega) (by decide) rfl dX9_lands_139 ?_
              refine g_aload_n C dX9_lands_140 rfl ?_
              refine g_dup C dX9_lands_141 rfl ?_
              refine g_get C kwX9 0 rfl rfl 26 (by decide) kfX9_131 rfl dX9_lands_142 ?_
              refine g_iload_n C dX9_lands_145 rfl ?_
              refine g_if_eq (tgt := 155) C dX9_lands_146 (by decide) (fun c146 => ?_) (fun c146 => ?_)
              · skip
                refine g_iconst (v := 0) C dX9_lands_155 (by decide) ?_
                refine g_ior C dX9_lands_156 ?_
                refine g_put (ws' := [(mo, .inr (9, [.ref rw, .int (nI n), .int lg, .int sf, .int dg, .ref mh, .ref md, .int un, .ref mk, .ref mt, .int le, .int sm, .ref z1, .ref z2, .ref z3, .long tr, .int at_, .int be, .int rs, .ref y1, .ref y2, .ref y3, .ref y4, .int nu, .int os, .int od, .int (sl ||| 0), .ref ya, .int fpu, .ref yw, .int wn, .ref yp])), aI E rw 168 (upd (upd rf (B + 1) (asV (v - (mm a)))) B (nI a)), aI E mh 9 hi, aI E md 9 de]) C kwX9 tyX9 tyX9_ok nmX9 0 rfl rfl 26 (by decide) kfX9_131 rfl rfl rfl (Nat.le_of_ble_eq_true rfl) rfl dX9_lands_157 ?_
                refine g_goto (tgt := 2) C dX9_lands_160 (by decide) ?_
                refine g_kill 4 (lv' := [some (.ref mo), some (.int (nI B)), some (.int 0), some (.int (nI a)), none]) rfl ?_
                refine g_kill 3 (lv' := [some (.ref mo), some (.int (nI B)), some (.int 0), none, none]) rfl ?_
                exact lpx_X9_lands (mm := mm) C hnl hn hB hR _ (by rw [pk_us, ← ht, if_pos c74]) (by rw [pk_un (by omega), pk_us, ← ht, if_pos c74]) (fun i q1 q2 => by rw [pk_un q1, pk_un q2]; exact hrz i q1 q2) (by rw [← ht, if_pos c74]; simp)
              · skip
                exact absurd rfl c146
            · skip
              exact absurd rfl c129
          · skip
            exact absurd rfl c91
        · skip
          refine g_iconst (v := 1) C dX9_lands_77 (by decide) ?_
          refine g_goto (tgt := 82) C dX9_lands_78 (by decide) ?_
          refine g_istore_n (lv' := [some (.ref mo), some (.int (nI B)), some (.int 1), some (.int (nI a)), some (.int (asV (v - (mm a))))]) C dX9_lands_82 (hnl 2 (by decide)) rfl rfl ?_
          refine g_aload_n C dX9_lands_83 rfl ?_
          refine g_get C kwX9 0 rfl rfl 0 (by decide) kfX9_7 rfl dX9_lands_84 ?_
          refine g_iload_n C dX9_lands_87 rfl ?_
          refine g_iconst (v := 1) C dX9_lands_88 (by decide) ?_
          refine g_iadd C dX9_lands_89 ?_
          refine g_topi (v := nI (B + 1)) (nI_add B 1) ?_
          refine g_iload_n C dX9_lands_90 rfl ?_
          refine g_if_eq (tgt := 118) C dX9_lands_91 (by decide) (fun c91 => ?_) (fun c91 => ?_)
          · skip
            exact absurd c91 (by decide)
          · skip
            refine g_iload C dX9_lands_94 rfl ?_
            refine g_aload_n C dX9_lands_96 rfl ?_
            refine g_get C kwX9 0 rfl rfl 5 (by decide) kfX9_23 rfl dX9_lands_97 ?_
            refine g_iload_n C dX9_lands_100 rfl ?_
            refine g_iald C 2 a rfl (rfl) (by omega) (by decide) dX9_lands_101 ?_
            refine g_iadd C dX9_lands_102 ?_
            refine g_iconst (v := 2) C dX9_lands_103 (by decide) ?_
            refine g_aload_n C dX9_lands_104 rfl ?_
            refine g_get C kwX9 0 rfl rfl 25 (by decide) kfX9_128 rfl dX9_lands_105 ?_
            refine g_imul C dX9_lands_108 ?_
            refine g_isub C dX9_lands_109 ?_
            refine g_iconst (v := 1) C dX9_lands_110 (by decide) ?_
            refine g_isub C dX9_lands_111 ?_
            refine g_callS C (c_X9_bound k.l E ((((asV (v - (mm a))) + (hi a)) - (2 * od)) - 1)) kmX9_134 ktX9_bound knX9 kcX9_bound ⟨rfl, rfl⟩ kdX9_bound ⟨by decide, by decide⟩ ⟨by decide, by decide⟩ [] [0, 1, 2, 3] rfl (wr := [(mo, .inr (9, [.ref rw, .int (nI n), .int lg, .int sf, .int dg, .ref mh, .ref md, .int un, .ref mk, .ref mt, .int le, .int sm, .ref z1, .ref z2, .ref z3, .long tr, .int at_, .int be, .int rs, .ref y1, .ref y2, .ref y3, .ref y4, .int nu, .int os, .int od, .int sl, .ref ya, .int fpu, .ref yw, .int wn, .ref yp])), aI E rw 168 rf, aI E mh 9 hi, aI E md 9 de]) rfl (by decide +kernel) (by decide +kernel) (by decide +kernel) rfl (As := [.int ((((asV (v - (mm a))) + (hi a)) - (2 * od)) - 1)]) (rest := [.int (nI (B + 1)), .ref rw]) rfl (Nat.le_of_ble_eq_true rfl) dX9_lands_112 (fun rv_ rw_ hp_ => ?_)
            obtain ⟨rfl, rfl⟩ := hp_
            refine g_rep [0, 1, 2, 3] (ws' := [(mo, .inr (9, [.ref rw, .int (nI n), .int lg, .int sf, .int dg, .ref mh, .ref md, .int un, .ref mk, .ref mt, .int le, .int sm, .ref z1, .ref z2, .ref z3, .long tr, .int at_, .int be, .int rs, .ref y1, .ref y2, .ref y3, .ref y4, .int nu, .int os, .int od, .int sl, .ref ya, .int fpu, .ref yw, .int wn, .ref yp])), aI E rw 168 rf, aI E mh 9 hi, aI E md 9 de]) (st' := [.int (asV ((((asV (v - (mm a))) + (hi a)) - (2 * od)) - 1)), .int (nI (B + 1)), .ref rw]) (n' := 0) (z' := 0) (pc' := 115) rfl rfl rfl rfl (by decide +kernel) rfl ?_
            refine g_goto (tgt := 120) C dX9_lands_115 (by decide) ?_
            refine g_iast (ws' := [(mo, .inr (9, [.ref rw, .int (nI n), .int lg, .int sf, .int dg, .ref mh, .ref md, .int un, .ref mk, .ref mt, .int le, .int sm, .ref z1, .ref z2, .ref z3, .long tr, .int at_, .int be, .int rs, .ref y1, .ref y2, .ref y3, .ref y4, .int nu, .int os, .int od, .int sl, .ref ya, .int fpu, .ref yw, .int wn, .ref yp])), aI E rw 168 (upd rf (B + 1) (asV ((((asV (v - (mm a))) + (hi a)) - (2 * od)) - 1))), aI E mh 9 hi, aI E md 9 de]) C 1 (B + 1) rfl (rfl) (by omega) (by decide) rfl dX9_lands_120 ?_
            refine g_aload_n C dX9_lands_121 rfl ?_
            refine g_get C kwX9 0 rfl rfl 0 (by decide) kfX9_7 rfl dX9_lands_122 ?_
            refine g_iload_n C dX9_lands_125 rfl ?_
            refine g_iconst (v := 0) C dX9_lands_126 (by decide) ?_
            refine g_iadd C dX9_lands_127 ?_
            refine g_topi (v := nI B) (Int32.add_zero _) ?_
            refine g_iload_n C dX9_lands_128 rfl ?_
            refine g_if_eq (tgt := 138) C dX9_lands_129 (by decide) (fun c129 => ?_) (fun c129 => ?_)
            · skip
              exact absurd c129 (by decide)
            · skip
              refine g_iload_n C dX9_lands_132 rfl ?_
              refine g_iconst (v := 1) C dX9_lands_133 (by decide) ?_
              refine g_iadd C dX9_lands_134 ?_
              refine g_topi (v := nI (a + 1)) (nI_1 a) ?_
              refine g_goto (tgt := 139) C dX9_lands_135 (by decide) ?_
              refine g_iast (ws' := [(mo, .inr (9, [.ref rw, .int (nI n), .int lg, .int sf, .int dg, .ref mh, .ref md, .int un, .ref mk, .ref mt, .int le, .int sm, .ref z1, .ref z2, .ref z3, .long tr, .int at_, .int be, .int rs, .ref y1, .ref y2, .ref y3, .ref y4, .int nu, .int os, .int od, .int sl, .ref ya, .int fpu, .ref yw, .int wn, .ref yp])), aI E rw 168 (upd (upd rf (B + 1) (asV ((((asV (v - (mm a))) + (hi a)) - (2 * od)) - 1))) B (nI (a + 1))), aI E mh 9 hi, aI E md 9 de]) C 1 B rfl (rfl) (by omega) (by decide) rfl dX9_lands_139 ?_
              refine g_aload_n C dX9_lands_140 rfl ?_
              refine g_dup C dX9_lands_141 rfl ?_
              refine g_get C kwX9 0 rfl rfl 26 (by decide) kfX9_131 rfl dX9_lands_142 ?_
              refine g_iload_n C dX9_lands_145 rfl ?_
              refine g_if_eq (tgt := 155) C dX9_lands_146 (by decide) (fun c146 => ?_) (fun c146 => ?_)
              · skip
                exact absurd c146 (by decide)
              · skip
                refine g_iconst (v := 1) C dX9_lands_149 (by decide) ?_
                refine g_iload_n C dX9_lands_150 rfl ?_
                refine g_ishl C dX9_lands_151 ?_
                refine g_goto (tgt := 156) C dX9_lands_152 (by decide) ?_
                refine g_ior C dX9_lands_156 ?_
                refine g_put (ws' := [(mo, .inr (9, [.ref rw, .int (nI n), .int lg, .int sf, .int dg, .ref mh, .ref md, .int un, .ref mk, .ref mt, .int le, .int sm, .ref z1, .ref z2, .ref z3, .long tr, .int at_, .int be, .int rs, .ref y1, .ref y2, .ref y3, .ref y4, .int nu, .int os, .int od, .int (sl ||| (1 <<< ((nI a) &&& 31))), .ref ya, .int fpu, .ref yw, .int wn, .ref yp])), aI E rw 168 (upd (upd rf (B + 1) (asV ((((asV (v - (mm a))) + (hi a)) - (2 * od)) - 1))) B (nI (a + 1))), aI E mh 9 hi, aI E md 9 de]) C kwX9 tyX9 tyX9_ok nmX9 0 rfl rfl 26 (by decide) kfX9_131 rfl rfl rfl (Nat.le_of_ble_eq_true rfl) rfl dX9_lands_157 ?_
                refine g_goto (tgt := 2) C dX9_lands_160 (by decide) ?_
                refine g_kill 4 (lv' := [some (.ref mo), some (.int (nI B)), some (.int 1), some (.int (nI a)), none]) rfl ?_
                refine g_kill 3 (lv' := [some (.ref mo), some (.int (nI B)), some (.int 1), none, none]) rfl ?_
                exact ih (a + 1) _ _ _ (by omega) (by rw [if_neg c74] at ht; exact ht) (upd_self _ _ _) (by rw [pk_un (by omega), pk_us]) (fun s hs => by rw [pk_un (by omega), pk_un (by omega)]; exact hmm s hs) (fun i q1 q2 => by rw [pk_un q1, pk_un q2]; exact hrz i q1 q2)
      · skip
        exact absurd ((nI_eq (by omega) (by omega)).mp c22) (by omega)

set_option maxHeartbeats 4000000 in
set_option maxRecDepth 100000 in
theorem c_X9_lands (l : Launch) (E : EX) (mo : Nat) (rw : Nat) (mh : Nat) (md : Nat) (mk : Nat) (mt : Nat) (z1 : Nat) (z2 : Nat) (z3 : Nat) (y1 : Nat) (y2 : Nat) (y3 : Nat) (y4 : Nat) (ya : Nat) (yw : Nat) (yp : Nat) (lg : Int32) (sf : Int32) (dg : Int32) (un : Int32) (le : Int32) (sm : Int32) (tr : Int64) (at_ : Int32) (be : Int32) (rs : Int32) (nu : Int32) (os : Int32) (od : Int32) (sl : Int32) (fpu : Int32) (wn : Int32) (n : Nat) (hi : Nat → Int32) (de : Nat → Int32) (rf : Nat → Int32) (mm : Nat → Int32) (B : Nat) (a : Nat) (v : Int32) (hn : n ≤ 9) (ha : a ≤ n) (hB : B + 12 ≤ 168) (h0 : rf B = nI a) (h1 : rf (B + 1) = v) (hmm : ∀ s, s < 9 → rf (B + 3 + s) = mm s) : Ct l E yX9_lands cX9_lands 5 none (rmL 2 0 0) [.ref mo, .int (nI B)] [(mo, .inr (9, [.ref rw, .int (nI n), .int lg, .int sf, .int dg, .ref mh, .ref md, .int un, .ref mk, .ref mt, .int le, .int sm, .ref z1, .ref z2, .ref z3, .long tr, .int at_, .int be, .int rs, .ref y1, .ref y2, .ref y3, .ref y4, .int nu, .int os, .int od, .int sl, .ref ya, .int fpu, .ref yw, .int wn, .ref yp])), aI E rw 168 rf, aI E mh 9 hi, aI E md 9 de] (fun (rv_ : Option Value) (rw_ : va_W) => ∃ (rf2 : Nat → Int32), rv_ = none ∧ rw_ = [(mo, .inr (9, [.ref rw, .int (nI n), .int lg, .int sf, .int dg, .ref mh, .ref md, .int un, .ref mk, .ref mt, .int le, .int sm, .ref z1, .ref z2, .ref z3, .long tr, .int at_, .int be, .int rs, .ref y1, .ref y2, .ref y3, .ref y4, .int nu, .int os, .int od, .int ((landF hi de mm lg od (n - a) a v sl).2.2), .ref ya, .int fpu, .ref yw, .int wn, .ref yp])), aI E rw 168 rf2, aI E mh 9 hi, aI E md 9 de] ∧ (rf2 B = nI (landF hi de mm lg od (n - a) a v sl).1) ∧ (rf2 (B + 1) = (landF hi de mm lg od (n - a) a v sl).2.1) ∧ (∀ i, ¬ i = B → ¬ i = B + 1 → rf2 i = rf i)) 0 0 := by
  refine Ct_of (by decide) (Nat.le_of_ble_eq_true rfl) ?_
  intro k hkl hnl C hR hin_
  subst hkl
  show G k E 0 0 0 [some (.ref mo), some (.int (nI B)), none, none, none] [] [(mo, .inr (9, [.ref rw, .int (nI n), .int lg, .int sf, .int dg, .ref mh, .ref md, .int un, .ref mk, .ref mt, .int le, .int sm, .ref z1, .ref z2, .ref z3, .long tr, .int at_, .int be, .int rs, .ref y1, .ref y2, .ref y3, .ref y4, .int nu, .int os, .int od, .int sl, .ref ya, .int fpu, .ref yw, .int wn, .ref yp])), aI E rw 168 rf, aI E mh 9 hi, aI E md 9 de]
  refine g_iconst (v := 1) C dX9_lands_0 (by decide) ?_
  refine g_istore_n (lv' := [some (.ref mo), some (.int (nI B)), some (.int 1), none, none]) C dX9_lands_1 (hnl 2 (by decide)) rfl rfl ?_
  exact lp_X9_lands C hnl hn hB hR (n - a) a v sl rf (by omega) rfl h0 h1 hmm (fun _ _ _ => rfl)
