theorem in2_ {y : Int32} (h : 0 ≤ y ∧ y ≤ 2) (h0 : ¬ y = 0) (h1 : ¬ y = 1) : y = 2 := by
  obtain ⟨j, hj, rfl⟩ := (in_iff (n := 2) (by decide)).mp h
  match j, hj with
  | 0, _ => exact absurd rfl h0
  | 1, _ => exact absurd rfl h1
  | 2, _ => rfl
  | j + 3, q => omega
def kpF (rf : Nat → Int32) (w : Nat) : Nat → Int32 := if w < 10 then va_cpy rf rf 0 (12 + 12 * w) 12 else va_cpy (va_cpy rf rf 24 12 108) (va_cpy rf rf 24 12 108) 0 120 12
def kpN (w : Nat) : Nat := if w < 10 then w + 1 else 10
theorem kpF_low {rf : Nat → Int32} {w i : Nat} (h : i < 12) : kpF rf w i = rf i := by
  unfold kpF
  split
  · exact cpyR_out (by omega)
  · rw [cpyR_out (by omega), cpyR_out (by omega)]
theorem runF_ind {n : Nat} {hi de ma : Nat → Int32} {lg st dr : Int32} : ∀ (f a : Nat) (v sl c sl' c' : Int32), (runF n hi de ma lg st dr f a v sl c).1 = (runF n hi de ma lg st dr f a v sl' c').1
  | 0, a, v, sl, c, sl', c' => rfl
  | f + 1, a, v, sl, c, sl', c' => by
    unfold runF
    by_cases q : 0 < v ∧ a < n
    · rw [if_pos q, if_pos q]
      have h := turnF_sl (n := n) (hi := hi) (de := de) (ma := ma) (lg := lg) (st := st) (dr := dr) (a := a) (v := v) (sl := sl) (sl' := sl')
      rw [h.1, h.2]
      exact runF_ind f _ _ _ _ _ _
    · rw [if_neg q, if_neg q]
theorem runF_flo {n : Nat} {hi de ma : Nat → Int32} {lg st dr : Int32} {f a : Nat} {v sl c : Int32} (h : ¬ a < n) : (runF n hi de ma lg st dr f a v sl c).1 = a := by
  cases f with
  | zero => rfl
  | succ f => unfold runF; rw [if_neg (fun q => h q.2)]

set_option maxHeartbeats 4000000 in
set_option maxRecDepth 100000 in
theorem c_X9_typeB (l : Launch) (E : EX) (mo : Nat) (rw : Nat) (mh : Nat) (md : Nat) (mk : Nat) (mt : Nat) (z1 : Nat) (z2 : Nat) (z3 : Nat) (y1 : Nat) (y2 : Nat) (y3 : Nat) (y4 : Nat) (ya : Nat) (yw : Nat) (yp : Nat) (st0 : Int32) (lg : Int32) (sf : Int32) (dg : Int32) (un : Int32) (le : Int32) (sm : Int32) (tr : Int64) (at_ : Int32) (be : Int32) (rs : Int32) (nu : Int32) (os : Int32) (od : Int32) (sl : Int32) (fpu : Int32) (wn : Int32) (y : Int32) (hb : ¬ (0 ≤ y ∧ y ≤ 255)) : Ct l E yX9_type cX9_type 2 (some .int) (rmL 2 0 0) [.ref mo, .int y] [(mo, .inr (9, [.ref rw, .int st0, .int lg, .int sf, .int dg, .ref mh, .ref md, .int un, .ref mk, .ref mt, .int le, .int sm, .ref z1, .ref z2, .ref z3, .long tr, .int at_, .int be, .int rs, .ref y1, .ref y2, .ref y3, .ref y4, .int nu, .int os, .int od, .int sl, .ref ya, .int fpu, .ref yw, .int wn, .ref yp]))] (fun (rv_ : Option Value) (rw_ : va_W) => rv_ = some (.int (-1)) ∧ rw_ = [(mo, .inr (9, [.ref rw, .int st0, .int lg, .int sf, .int dg, .ref mh, .ref md, .int un, .ref mk, .ref mt, .int le, .int sm, .ref z1, .ref z2, .ref z3, .long tr, .int at_, .int be, .int rs, .ref y1, .ref y2, .ref y3, .ref y4, .int nu, .int os, .int od, .int sl, .ref ya, .int fpu, .ref yw, .int wn, .ref yp]))]) 0 0 := by
  refine Ct_of (by decide) (Nat.le_of_ble_eq_true rfl) ?_
  intro k hkl hnl C hR hin_
  subst hkl
  show G k E 0 0 0 [some (.ref mo), some (.int y)] [] [(mo, .inr (9, [.ref rw, .int st0, .int lg, .int sf, .int dg, .ref mh, .ref md, .int un, .ref mk, .ref mt, .int le, .int sm, .ref z1, .ref z2, .ref z3, .long tr, .int at_, .int be, .int rs, .ref y1, .ref y2, .ref y3, .ref y4, .int nu, .int os, .int od, .int sl, .ref ya, .int fpu, .ref yw, .int wn, .ref yp]))]
  refine g_iload_n C dX9_type_0 rfl ?_
  refine g_iconst (v := 0) C dX9_type_1 (by decide) ?_
  refine g_sipush (v := 255) C dX9_type_2 (by decide) ?_
  refine g_callS C (c_X9_in k.l E y 0 255) kmX9_69 ktX9_in knX9 kcX9_in ⟨rfl, rfl⟩ kdX9_in ⟨by decide, by decide⟩ ⟨by decide, by decide⟩ [] [0] rfl (wr := [(mo, .inr (9, [.ref rw, .int st0, .int lg, .int sf, .int dg, .ref mh, .ref md, .int un, .ref mk, .ref mt, .int le, .int sm, .ref z1, .ref z2, .ref z3, .long tr, .int at_, .int be, .int rs, .ref y1, .ref y2, .ref y3, .ref y4, .int nu, .int os, .int od, .int sl, .ref ya, .int fpu, .ref yw, .int wn, .ref yp]))]) rfl (by decide +kernel) (by decide +kernel) (by decide +kernel) rfl (As := [.int y, .int 0, .int 255]) (rest := []) rfl (Nat.le_of_ble_eq_true rfl) dX9_type_5 (fun rv_ rw_ hp_ => ?_)
  obtain ⟨rfl, rfl⟩ := hp_
  refine g_rep [0] (ws' := [(mo, .inr (9, [.ref rw, .int st0, .int lg, .int sf, .int dg, .ref mh, .ref md, .int un, .ref mk, .ref mt, .int le, .int sm, .ref z1, .ref z2, .ref z3, .long tr, .int at_, .int be, .int rs, .ref y1, .ref y2, .ref y3, .ref y4, .int nu, .int os, .int od, .int sl, .ref ya, .int fpu, .ref yw, .int wn, .ref yp]))]) (st' := [.int (bI (0 ≤ y ∧ y ≤ 255))]) (n' := 0) (z' := 0) (pc' := 8) rfl rfl rfl rfl (by decide +kernel) rfl ?_
  refine g_if_ne (tgt := 13) C dX9_type_8 (by decide) (fun c8 => ?_) (fun c8 => ?_)
  · skip
    exact absurd (bI_1 c8) hb
  · skip
    refine g_iconst (v := (-1)) C dX9_type_11 (by decide) ?_
    exact g_iret C hR (⟨rfl, rfl⟩) dX9_type_12

set_option maxHeartbeats 4000000 in
set_option maxRecDepth 100000 in
theorem c_X9_typeF (l : Launch) (E : EX) (mo : Nat) (rw : Nat) (mh : Nat) (md : Nat) (mk : Nat) (mt : Nat) (z1 : Nat) (z2 : Nat) (z3 : Nat) (y1 : Nat) (y2 : Nat) (y3 : Nat) (y4 : Nat) (ya : Nat) (yw : Nat) (yp : Nat) (st0 : Int32) (lg : Int32) (sf : Int32) (dg : Int32) (un : Int32) (sm : Int32) (tr : Int64) (at_ : Int32) (be : Int32) (rs : Int32) (nu : Int32) (os : Int32) (od : Int32) (sl : Int32) (fpu : Int32) (wn : Int32) (y : Int32) (hy : 0 ≤ y ∧ y ≤ 255) : Ct l E yX9_type cX9_type 2 (some .int) (rmL 2 0 0) [.ref mo, .int y] [(mo, .inr (9, [.ref rw, .int st0, .int lg, .int sf, .int dg, .ref mh, .ref md, .int un, .ref mk, .ref mt, .int (nI 100), .int sm, .ref z1, .ref z2, .ref z3, .long tr, .int at_, .int be, .int rs, .ref y1, .ref y2, .ref y3, .ref y4, .int nu, .int os, .int od, .int sl, .ref ya, .int fpu, .ref yw, .int wn, .ref yp]))] (fun (rv_ : Option Value) (rw_ : va_W) => rv_ = some (.int (-3)) ∧ rw_ = [(mo, .inr (9, [.ref rw, .int st0, .int lg, .int sf, .int dg, .ref mh, .ref md, .int un, .ref mk, .ref mt, .int (nI 100), .int sm, .ref z1, .ref z2, .ref z3, .long tr, .int at_, .int be, .int rs, .ref y1, .ref y2, .ref y3, .ref y4, .int nu, .int os, .int od, .int sl, .ref ya, .int fpu, .ref yw, .int wn, .ref yp]))]) 0 0 := by
  refine Ct_of (by decide) (Nat.le_of_ble_eq_true rfl) ?_
  intro k hkl hnl C hR hin_
  subst hkl
  show G k E 0 0 0 [some (.ref mo), some (.int y)] [] [(mo, .inr (9, [.ref rw, .int st0, .int lg, .int sf, .int dg, .ref mh, .ref md, .int un, .ref mk, .ref mt, .int (nI 100), .int sm, .ref z1, .ref z2, .ref z3, .long tr, .int at_, .int be, .int rs, .ref y1, .ref y2, .ref y3, .ref y4, .int nu, .int os, .int od, .int sl, .ref ya, .int fpu, .ref yw, .int wn, .ref yp]))]
  refine g_iload_n C dX9_type_0 rfl ?_
  refine g_iconst (v := 0) C dX9_type_1 (by decide) ?_
  refine g_sipush (v := 255) C dX9_type_2 (by decide) ?_
  refine g_callS C (c_X9_in k.l E y 0 255) kmX9_69 ktX9_in knX9 kcX9_in ⟨rfl, rfl⟩ kdX9_in ⟨by decide, by decide⟩ ⟨by decide, by decide⟩ [] [0] rfl (wr := [(mo, .inr (9, [.ref rw, .int st0, .int lg, .int sf, .int dg, .ref mh, .ref md, .int un, .ref mk, .ref mt, .int (nI 100), .int sm, .ref z1, .ref z2, .ref z3, .long tr, .int at_, .int be, .int rs, .ref y1, .ref y2, .ref y3, .ref y4, .int nu, .int os, .int od, .int sl, .ref ya, .int fpu, .ref yw, .int wn, .ref yp]))]) rfl (by decide +kernel) (by decide +kernel) (by decide +kernel) rfl (As := [.int y, .int 0, .int 255]) (rest := []) rfl (Nat.le_of_ble_eq_true rfl) dX9_type_5 (fun rv_ rw_ hp_ => ?_)
  obtain ⟨rfl, rfl⟩ := hp_
  refine g_rep [0] (ws' := [(mo, .inr (9, [.ref rw, .int st0, .int lg, .int sf, .int dg, .ref mh, .ref md, .int un, .ref mk, .ref mt, .int (nI 100), .int sm, .ref z1, .ref z2, .ref z3, .long tr, .int at_, .int be, .int rs, .ref y1, .ref y2, .ref y3, .ref y4, .int nu, .int os, .int od, .int sl, .ref ya, .int fpu, .ref yw, .int wn, .ref yp]))]) (st' := [.int (bI (0 ≤ y ∧ y ≤ 255))]) (n' := 0) (z' := 0) (pc' := 8) rfl rfl rfl rfl (by decide +kernel) rfl ?_
  refine g_if_ne (tgt := 13) C dX9_type_8 (by decide) (fun c8 => ?_) (fun c8 => ?_)
  · skip
    refine g_aload_n C dX9_type_13 rfl ?_
    refine g_get C kwX9 0 rfl rfl 10 (by decide) kfX9_73 rfl dX9_type_14 ?_
    refine g_bipush (v := 100) C dX9_type_17 (by decide) ?_
    refine g_icmp_ne (tgt := 25) C dX9_type_19 (by decide) (fun c19 => ?_) (fun c19 => ?_)
    · skip
      exact absurd rfl c19
    · skip
      refine g_bipush (v := (-3)) C dX9_type_22 (by decide) ?_
      exact g_iret C hR (⟨rfl, rfl⟩) dX9_type_24
  · skip
    exact absurd hy (bI_0 c8)

set_option maxHeartbeats 4000000 in
set_option maxRecDepth 100000 in
theorem c_X9_type (l : Launch) (E : EX) (mo : Nat) (rw : Nat) (mh : Nat) (md : Nat) (mk : Nat) (mt : Nat) (z1 : Nat) (z2 : Nat) (z3 : Nat) (y1 : Nat) (y2 : Nat) (y3 : Nat) (y4 : Nat) (ya : Nat) (yw : Nat) (yp : Nat) (st0 : Int32) (lg : Int32) (sf : Int32) (dg : Int32) (un : Int32) (sm : Int32) (tr : Int64) (at_ : Int32) (be : Int32) (rs : Int32) (nu : Int32) (os : Int32) (od : Int32) (sl : Int32) (fpu : Int32) (wn : Int32) (l0 : Nat) (tf : Nat → Int32) (y : Int32) (hy : 0 ≤ y ∧ y ≤ 255) (hle : l0 < 100) : Ct l E yX9_type cX9_type 2 (some .int) (rmL 2 0 0) [.ref mo, .int y] [(mo, .inr (9, [.ref rw, .int st0, .int lg, .int sf, .int dg, .ref mh, .ref md, .int un, .ref mk, .ref mt, .int (nI l0), .int sm, .ref z1, .ref z2, .ref z3, .long tr, .int at_, .int be, .int rs, .ref y1, .ref y2, .ref y3, .ref y4, .int nu, .int os, .int od, .int sl, .ref ya, .int fpu, .ref yw, .int wn, .ref yp])), aI E mt 100 tf] (fun (rv_ : Option Value) (rw_ : va_W) => rv_ = some (.int (nI (l0 + 1))) ∧ rw_ = [(mo, .inr (9, [.ref rw, .int st0, .int lg, .int sf, .int dg, .ref mh, .ref md, .int un, .ref mk, .ref mt, .int (nI (l0 + 1)), .int sm, .ref z1, .ref z2, .ref z3, .long tr, .int at_, .int be, .int rs, .ref y1, .ref y2, .ref y3, .ref y4, .int nu, .int os, .int od, .int sl, .ref ya, .int fpu, .ref yw, .int wn, .ref yp])), aI E mt 100 (upd tf l0 y)]) 0 0 := by
  refine Ct_of (by decide) (Nat.le_of_ble_eq_true rfl) ?_
  intro k hkl hnl C hR hin_
  subst hkl
  show G k E 0 0 0 [some (.ref mo), some (.int y)] [] [(mo, .inr (9, [.ref rw, .int st0, .int lg, .int sf, .int dg, .ref mh, .ref md, .int un, .ref mk, .ref mt, .int (nI l0), .int sm, .ref z1, .ref z2, .ref z3, .long tr, .int at_, .int be, .int rs, .ref y1, .ref y2, .ref y3, .ref y4, .int nu, .int os, .int od, .int sl, .ref ya, .int fpu, .ref yw, .int wn, .ref yp])), aI E mt 100 tf]
  refine g_iload_n C dX9_type_0 rfl ?_
  refine g_iconst (v := 0) C dX9_type_1 (by decide) ?_
  refine g_sipush (v := 255) C dX9_type_2 (by decide) ?_
  refine g_callS C (c_X9_in k.l E y 0 255) kmX9_69 ktX9_in knX9 kcX9_in ⟨rfl, rfl⟩ kdX9_in ⟨by decide, by decide⟩ ⟨by decide, by decide⟩ [] [0, 1] rfl (wr := [(mo, .inr (9, [.ref rw, .int st0, .int lg, .int sf, .int dg, .ref mh, .ref md, .int un, .ref mk, .ref mt, .int (nI l0), .int sm, .ref z1, .ref z2, .ref z3, .long tr, .int at_, .int be, .int rs, .ref y1, .ref y2, .ref y3, .ref y4, .int nu, .int os, .int od, .int sl, .ref ya, .int fpu, .ref yw, .int wn, .ref yp])), aI E mt 100 tf]) rfl (by decide +kernel) (by decide +kernel) (by decide +kernel) rfl (As := [.int y, .int 0, .int 255]) (rest := []) rfl (Nat.le_of_ble_eq_true rfl) dX9_type_5 (fun rv_ rw_ hp_ => ?_)
  obtain ⟨rfl, rfl⟩ := hp_
  refine g_rep [0, 1] (ws' := [(mo, .inr (9, [.ref rw, .int st0, .int lg, .int sf, .int dg, .ref mh, .ref md, .int un, .ref mk, .ref mt, .int (nI l0), .int sm, .ref z1, .ref z2, .ref z3, .long tr, .int at_, .int be, .int rs, .ref y1, .ref y2, .ref y3, .ref y4, .int nu, .int os, .int od, .int sl, .ref ya, .int fpu, .ref yw, .int wn, .ref yp])), aI E mt 100 tf]) (st' := [.int (bI (0 ≤ y ∧ y ≤ 255))]) (n' := 0) (z' := 0) (pc' := 8) rfl rfl rfl rfl (by decide +kernel) rfl ?_
  refine g_if_ne (tgt := 13) C dX9_type_8 (by decide) (fun c8 => ?_) (fun c8 => ?_)
  · skip
    refine g_aload_n C dX9_type_13 rfl ?_
    refine g_get C kwX9 0 rfl rfl 10 (by decide) kfX9_73 rfl dX9_type_14 ?_
    refine g_bipush (v := 100) C dX9_type_17 (by decide) ?_
    refine g_icmp_ne (tgt := 25) C dX9_type_19 (by decide) (fun c19 => ?_) (fun c19 => ?_)
    · skip
      refine g_aload_n C dX9_type_25 rfl ?_
      refine g_get C kwX9 0 rfl rfl 9 (by decide) kfX9_33 rfl dX9_type_26 ?_
      refine g_aload_n C dX9_type_29 rfl ?_
      refine g_get C kwX9 0 rfl rfl 10 (by decide) kfX9_73 rfl dX9_type_30 ?_
      refine g_iload_n C dX9_type_33 rfl ?_
      refine g_iast (ws' := [(mo, .inr (9, [.ref rw, .int st0, .int lg, .int sf, .int dg, .ref mh, .ref md, .int un, .ref mk, .ref mt, .int (nI l0), .int sm, .ref z1, .ref z2, .ref z3, .long tr, .int at_, .int be, .int rs, .ref y1, .ref y2, .ref y3, .ref y4, .int nu, .int os, .int od, .int sl, .ref ya, .int fpu, .ref yw, .int wn, .ref yp])), aI E mt 100 (upd tf l0 y)]) C 1 l0 rfl (rfl) (by omega) (by decide) rfl dX9_type_34 ?_
      refine g_aload_n C dX9_type_35 rfl ?_
      refine g_dup C dX9_type_36 rfl ?_
      refine g_get C kwX9 0 rfl rfl 10 (by decide) kfX9_73 rfl dX9_type_37 ?_
      refine g_iconst (v := 1) C dX9_type_40 (by decide) ?_
      refine g_iadd C dX9_type_41 ?_
      refine g_topi (v := nI (l0 + 1)) (nI_1 l0) ?_
      refine g_put (ws' := [(mo, .inr (9, [.ref rw, .int st0, .int lg, .int sf, .int dg, .ref mh, .ref md, .int un, .ref mk, .ref mt, .int (nI (l0 + 1)), .int sm, .ref z1, .ref z2, .ref z3, .long tr, .int at_, .int be, .int rs, .ref y1, .ref y2, .ref y3, .ref y4, .int nu, .int os, .int od, .int sl, .ref ya, .int fpu, .ref yw, .int wn, .ref yp])), aI E mt 100 (upd tf l0 y)]) C kwX9 tyX9 tyX9_ok nmX9 0 rfl rfl 10 (by decide) kfX9_73 rfl rfl rfl (Nat.le_of_ble_eq_true rfl) rfl dX9_type_42 ?_
      refine g_aload_n C dX9_type_45 rfl ?_
      refine g_get C kwX9 0 rfl rfl 10 (by decide) kfX9_73 rfl dX9_type_46 ?_
      exact g_iret C hR (⟨rfl, rfl⟩) dX9_type_49
    · skip
      exact absurd ((nI_eq (b := 100) (by omega) (by decide)).mp c19) (by omega)
  · skip
    exact absurd hy (bI_0 c8)

set_option maxHeartbeats 4000000 in
set_option maxRecDepth 100000 in
theorem c_X9_clear (l : Launch) (E : EX) (mo : Nat) (rw : Nat) (mh : Nat) (md : Nat) (mk : Nat) (mt : Nat) (z1 : Nat) (z2 : Nat) (z3 : Nat) (y1 : Nat) (y2 : Nat) (y3 : Nat) (y4 : Nat) (ya : Nat) (yw : Nat) (yp : Nat) (st0 : Int32) (lg : Int32) (sf : Int32) (dg : Int32) (un : Int32) (le : Int32) (sm : Int32) (tr : Int64) (at_ : Int32) (be : Int32) (rs : Int32) (nu : Int32) (os : Int32) (od : Int32) (sl : Int32) (fpu : Int32) (wn : Int32) : Ct l E yX9_clear cX9_clear 2 (some .int) (rmL 1 0 0) [.ref mo] [(mo, .inr (9, [.ref rw, .int st0, .int lg, .int sf, .int dg, .ref mh, .ref md, .int un, .ref mk, .ref mt, .int le, .int sm, .ref z1, .ref z2, .ref z3, .long tr, .int at_, .int be, .int rs, .ref y1, .ref y2, .ref y3, .ref y4, .int nu, .int os, .int od, .int sl, .ref ya, .int fpu, .ref yw, .int wn, .ref yp]))] (fun (rv_ : Option Value) (rw_ : va_W) => rv_ = some (.int le) ∧ rw_ = [(mo, .inr (9, [.ref rw, .int st0, .int lg, .int sf, .int dg, .ref mh, .ref md, .int un, .ref mk, .ref mt, .int 0, .int sm, .ref z1, .ref z2, .ref z3, .long tr, .int at_, .int be, .int rs, .ref y1, .ref y2, .ref y3, .ref y4, .int nu, .int os, .int od, .int sl, .ref ya, .int fpu, .ref yw, .int wn, .ref yp]))]) 0 0 := by
  refine Ct_of (by decide) (Nat.le_of_ble_eq_true rfl) ?_
  intro k hkl hnl C hR hin_
  subst hkl
  show G k E 0 0 0 [some (.ref mo), none] [] [(mo, .inr (9, [.ref rw, .int st0, .int lg, .int sf, .int dg, .ref mh, .ref md, .int un, .ref mk, .ref mt, .int le, .int sm, .ref z1, .ref z2, .ref z3, .long tr, .int at_, .int be, .int rs, .ref y1, .ref y2, .ref y3, .ref y4, .int nu, .int os, .int od, .int sl, .ref ya, .int fpu, .ref yw, .int wn, .ref yp]))]
  refine g_aload_n C dX9_clear_0 rfl ?_
  refine g_get C kwX9 0 rfl rfl 10 (by decide) kfX9_73 rfl dX9_clear_1 ?_
  refine g_istore_n (lv' := [some (.ref mo), some (.int le)]) C dX9_clear_4 (hnl 1 (by decide)) rfl rfl ?_
  refine g_aload_n C dX9_clear_5 rfl ?_
  refine g_iconst (v := 0) C dX9_clear_6 (by decide) ?_
  refine g_put (ws' := [(mo, .inr (9, [.ref rw, .int st0, .int lg, .int sf, .int dg, .ref mh, .ref md, .int un, .ref mk, .ref mt, .int 0, .int sm, .ref z1, .ref z2, .ref z3, .long tr, .int at_, .int be, .int rs, .ref y1, .ref y2, .ref y3, .ref y4, .int nu, .int os, .int od, .int sl, .ref ya, .int fpu, .ref yw, .int wn, .ref yp]))]) C kwX9 tyX9 tyX9_ok nmX9 0 rfl rfl 10 (by decide) kfX9_73 rfl rfl rfl (Nat.le_of_ble_eq_true rfl) rfl dX9_clear_7 ?_
  refine g_iload_n C dX9_clear_10 rfl ?_
  exact g_iret C hR (⟨rfl, rfl⟩) dX9_clear_11

set_option maxHeartbeats 4000000 in
set_option maxRecDepth 100000 in
theorem c_X9_step (l : Launch) (E : EX) (mo : Nat) (rw : Nat) (mh : Nat) (md : Nat) (mk : Nat) (mt : Nat) (z1 : Nat) (z2 : Nat) (z3 : Nat) (y1 : Nat) (y2 : Nat) (y3 : Nat) (y4 : Nat) (ya : Nat) (yw : Nat) (yp : Nat) (lg : Int32) (sf : Int32) (dg : Int32) (un : Int32) (le : Int32) (sm : Int32) (tr : Int64) (at_ : Int32) (be : Int32) (rs : Int32) (nu : Int32) (os : Int32) (od : Int32) (sl : Int32) (fpu : Int32) (wn : Int32) (n : Nat) (hi : Nat → Int32) (de : Nat → Int32) (rf : Nat → Int32) (j : Nat) (y : Int32) (hn : n ≤ 9) (hj : j < n) : Ct l E yX9_step cX9_step 3 (some .int) (rmL 3 0 0) [.ref mo, .int (nI j), .int y] [(mo, .inr (9, [.ref rw, .int (nI n), .int lg, .int sf, .int dg, .ref mh, .ref md, .int un, .ref mk, .ref mt, .int le, .int sm, .ref z1, .ref z2, .ref z3, .long tr, .int at_, .int be, .int rs, .ref y1, .ref y2, .ref y3, .ref y4, .int nu, .int os, .int od, .int sl, .ref ya, .int fpu, .ref yw, .int wn, .ref yp])), aI E rw 168 rf, aI E mh 9 hi, aI E md 9 de] (fun (rv_ : Option Value) (rw_ : va_W) => rv_ = some (.int (if y = 0 then hi j else if y = 1 then de j else if y = 2 then rf (3 + j) else -1)) ∧ rw_ = [(mo, .inr (9, [.ref rw, .int (nI n), .int lg, .int sf, .int dg, .ref mh, .ref md, .int un, .ref mk, .ref mt, .int le, .int sm, .ref z1, .ref z2, .ref z3, .long tr, .int at_, .int be, .int rs, .ref y1, .ref y2, .ref y3, .ref y4, .int nu, .int os, .int od, .int sl, .ref ya, .int fpu, .ref yw, .int wn, .ref yp])), aI E rw 168 rf, aI E mh 9 hi, aI E md 9 de]) 0 0 := by
  refine Ct_of (by decide) (Nat.le_of_ble_eq_true rfl) ?_
  intro k hkl hnl C hR hin_
  subst hkl
  show G k E 0 0 0 [some (.ref mo), some (.int (nI j)), some (.int y)] [] [(mo, .inr (9, [.ref rw, .int (nI n), .int lg, .int sf, .int dg, .ref mh, .ref md, .int un, .ref mk, .ref mt, .int le, .int sm, .ref z1, .ref z2, .ref z3, .long tr, .int at_, .int be, .int rs, .ref y1, .ref y2, .ref y3, .ref y4, .int nu, .int os, .int od, .int sl, .ref ya, .int fpu, .ref yw, .int wn, .ref yp])), aI E rw 168 rf, aI E mh 9 hi, aI E md 9 de]
  refine g_aload_n C dX9_step_0 rfl ?_
  refine g_iload_n C dX9_step_1 rfl ?_
  refine g_callV C (c_X9_isStep k.l E mo rw mh md mk mt z1 z2 z3 y1 y2 y3 y4 ya yw yp (nI n) lg sf dg un le sm tr at_ be rs nu os od sl fpu wn (nI j)) kmX9_122 kiX9_isStep ksX9_isStep knX9 kcX9_isStep ⟨rfl, rfl⟩ ⟨rfl, kdX9_isStep⟩ ⟨by decide, by decide⟩ ⟨by decide, by decide⟩ [0] [1, 2, 3] rfl (wr := [aI E rw 168 rf, aI E mh 9 hi, aI E md 9 de]) rfl (by decide +kernel) (by decide +kernel) (by decide +kernel) 0 9 rfl rfl rfl (As := [.int (nI j)]) (rest := []) rfl (Nat.le_of_ble_eq_true rfl) dX9_step_2 (fun rv_ rw_ hp_ => ?_)
  obtain ⟨rfl, rfl⟩ := hp_
  refine g_rep [3, 0, 1, 2] (ws' := [(mo, .inr (9, [.ref rw, .int (nI n), .int lg, .int sf, .int dg, .ref mh, .ref md, .int un, .ref mk, .ref mt, .int le, .int sm, .ref z1, .ref z2, .ref z3, .long tr, .int at_, .int be, .int rs, .ref y1, .ref y2, .ref y3, .ref y4, .int nu, .int os, .int od, .int sl, .ref ya, .int fpu, .ref yw, .int wn, .ref yp])), aI E rw 168 rf, aI E mh 9 hi, aI E md 9 de]) (st' := [.int (bI (0 ≤ (nI j) ∧ (nI j) ≤ (nI n) - 1))]) (n' := 0) (z' := 0) (pc' := 5) rfl rfl rfl rfl (by decide +kernel) rfl ?_
  refine g_if_eq (tgt := 17) C dX9_step_5 (by decide) (fun c5 => ?_) (fun c5 => ?_)
  · skip
    exact absurd (has_t hj (by omega)) (bI_0 c5)
  · skip
    refine g_iload_n C dX9_step_8 rfl ?_
    refine g_iconst (v := 0) C dX9_step_9 (by decide) ?_
    refine g_iconst (v := 2) C dX9_step_10 (by decide) ?_
    refine g_callS C (c_X9_in k.l E y 0 2) kmX9_69 ktX9_in knX9 kcX9_in ⟨rfl, rfl⟩ kdX9_in ⟨by decide, by decide⟩ ⟨by decide, by decide⟩ [] [0, 1, 2, 3] rfl (wr := [(mo, .inr (9, [.ref rw, .int (nI n), .int lg, .int sf, .int dg, .ref mh, .ref md, .int un, .ref mk, .ref mt, .int le, .int sm, .ref z1, .ref z2, .ref z3, .long tr, .int at_, .int be, .int rs, .ref y1, .ref y2, .ref y3, .ref y4, .int nu, .int os, .int od, .int sl, .ref ya, .int fpu, .ref yw, .int wn, .ref yp])), aI E rw 168 rf, aI E mh 9 hi, aI E md 9 de]) rfl (by decide +kernel) (by decide +kernel) (by decide +kernel) rfl (As := [.int y, .int 0, .int 2]) (rest := []) rfl (Nat.le_of_ble_eq_true rfl) dX9_step_11 (fun rv_ rw_ hp_ => ?_)
    obtain ⟨rfl, rfl⟩ := hp_
    refine g_rep [0, 1, 2, 3] (ws' := [(mo, .inr (9, [.ref rw, .int (nI n), .int lg, .int sf, .int dg, .ref mh, .ref md, .int un, .ref mk, .ref mt, .int le, .int sm, .ref z1, .ref z2, .ref z3, .long tr, .int at_, .int be, .int rs, .ref y1, .ref y2, .ref y3, .ref y4, .int nu, .int os, .int od, .int sl, .ref ya, .int fpu, .ref yw, .int wn, .ref yp])), aI E rw 168 rf, aI E mh 9 hi, aI E md 9 de]) (st' := [.int (bI (0 ≤ y ∧ y ≤ 2))]) (n' := 0) (z' := 0) (pc' := 14) rfl rfl rfl rfl (by decide +kernel) rfl ?_
    refine g_if_ne (tgt := 21) C dX9_step_14 (by decide) (fun c14 => ?_) (fun c14 => ?_)
    · skip
      refine g_iload_n C dX9_step_21 rfl ?_
      refine g_if_ne (tgt := 34) C dX9_step_22 (by decide) (fun c22 => ?_) (fun c22 => ?_)
      · skip
        refine g_iload_n C dX9_step_34 rfl ?_
        refine g_iconst (v := 1) C dX9_step_35 (by decide) ?_
        refine g_icmp_ne (tgt := 48) C dX9_step_36 (by decide) (fun c36 => ?_) (fun c36 => ?_)
        · skip
          refine g_aload_n C dX9_step_48 rfl ?_
          refine g_get C kwX9 0 rfl rfl 0 (by decide) kfX9_7 rfl dX9_step_49 ?_
          refine g_iconst (v := 3) C dX9_step_52 (by decide) ?_
          refine g_iload_n C dX9_step_53 rfl ?_
          refine g_iadd C dX9_step_54 ?_
          refine g_topi (v := nI (3 + j)) (nI_add 3 _) ?_
          refine g_iald C 1 (3 + j) rfl (rfl) (by omega) (by decide) dX9_step_55 ?_
          exact g_iret C hR (⟨by rw [if_neg c22, if_neg c36, if_pos (in2_ (bI_1 c14) c22 c36)], rfl⟩) dX9_step_56
        · skip
          refine g_aload_n C dX9_step_39 rfl ?_
          refine g_get C kwX9 0 rfl rfl 6 (by decide) kfX9_26 rfl dX9_step_40 ?_
          refine g_iload_n C dX9_step_43 rfl ?_
          refine g_iald C 3 j rfl (rfl) (by omega) (by decide) dX9_step_44 ?_
          refine g_goto (tgt := 56) C dX9_step_45 (by decide) ?_
          exact g_iret C hR (⟨by rw [if_neg c22, if_pos c36], rfl⟩) dX9_step_56
      · skip
        refine g_aload_n C dX9_step_25 rfl ?_
        refine g_get C kwX9 0 rfl rfl 5 (by decide) kfX9_23 rfl dX9_step_26 ?_
        refine g_iload_n C dX9_step_29 rfl ?_
        refine g_iald C 2 j rfl (rfl) (by omega) (by decide) dX9_step_30 ?_
        refine g_goto (tgt := 56) C dX9_step_31 (by decide) ?_
        exact g_iret C hR (⟨by rw [if_pos c22], rfl⟩) dX9_step_56
    · skip
      refine g_iconst (v := (-1)) C dX9_step_17 (by decide) ?_
      refine g_goto (tgt := 56) C dX9_step_18 (by decide) ?_
      exact g_iret C hR (⟨by rw [if_neg (fun q => bI_0 c14 (by rw [q]; decide)), if_neg (fun q => bI_0 c14 (by rw [q]; decide)), if_neg (fun q => bI_0 c14 (by rw [q]; decide))], rfl⟩) dX9_step_56

set_option maxHeartbeats 4000000 in
set_option maxRecDepth 100000 in
theorem c_X9_stepB (l : Launch) (E : EX) (mo : Nat) (rw : Nat) (mh : Nat) (md : Nat) (mk : Nat) (mt : Nat) (z1 : Nat) (z2 : Nat) (z3 : Nat) (y1 : Nat) (y2 : Nat) (y3 : Nat) (y4 : Nat) (ya : Nat) (yw : Nat) (yp : Nat) (st0 : Int32) (lg : Int32) (sf : Int32) (dg : Int32) (un : Int32) (le : Int32) (sm : Int32) (tr : Int64) (at_ : Int32) (be : Int32) (rs : Int32) (nu : Int32) (os : Int32) (od : Int32) (sl : Int32) (fpu : Int32) (wn : Int32) (x : Int32) (y : Int32) (hb : ¬ (0 ≤ x ∧ x ≤ st0 - 1)) : Ct l E yX9_step cX9_step 3 (some .int) (rmL 3 0 0) [.ref mo, .int x, .int y] [(mo, .inr (9, [.ref rw, .int st0, .int lg, .int sf, .int dg, .ref mh, .ref md, .int un, .ref mk, .ref mt, .int le, .int sm, .ref z1, .ref z2, .ref z3, .long tr, .int at_, .int be, .int rs, .ref y1, .ref y2, .ref y3, .ref y4, .int nu, .int os, .int od, .int sl, .ref ya, .int fpu, .ref yw, .int wn, .ref yp]))] (fun (rv_ : Option Value) (rw_ : va_W) => rv_ = some (.int (-1)) ∧ rw_ = [(mo, .inr (9, [.ref rw, .int st0, .int lg, .int sf, .int dg, .ref mh, .ref md, .int un, .ref mk, .ref mt, .int le, .int sm, .ref z1, .ref z2, .ref z3, .long tr, .int at_, .int be, .int rs, .ref y1, .ref y2, .ref y3, .ref y4, .int nu, .int os, .int od, .int sl, .ref ya, .int fpu, .ref yw, .int wn, .ref yp]))]) 0 0 := by
  refine Ct_of (by decide) (Nat.le_of_ble_eq_true rfl) ?_
  intro k hkl hnl C hR hin_
  subst hkl
  show G k E 0 0 0 [some (.ref mo), some (.int x), some (.int y)] [] [(mo, .inr (9, [.ref rw, .int st0, .int lg, .int sf, .int dg, .ref mh, .ref md, .int un, .ref mk, .ref mt, .int le, .int sm, .ref z1, .ref z2, .ref z3, .long tr, .int at_, .int be, .int rs, .ref y1, .ref y2, .ref y3, .ref y4, .int nu, .int os, .int od, .int sl, .ref ya, .int fpu, .ref yw, .int wn, .ref yp]))]
  refine g_aload_n C dX9_step_0 rfl ?_
  refine g_iload_n C dX9_step_1 rfl ?_
  refine g_callV C (c_X9_isStep k.l E mo rw mh md mk mt z1 z2 z3 y1 y2 y3 y4 ya yw yp st0 lg sf dg un le sm tr at_ be rs nu os od sl fpu wn x) kmX9_122 kiX9_isStep ksX9_isStep knX9 kcX9_isStep ⟨rfl, rfl⟩ ⟨rfl, kdX9_isStep⟩ ⟨by decide, by decide⟩ ⟨by decide, by decide⟩ [0] [] rfl (wr := []) rfl (by decide +kernel) (by decide +kernel) (by decide +kernel) 0 9 rfl rfl rfl (As := [.int x]) (rest := []) rfl (Nat.le_of_ble_eq_true rfl) dX9_step_2 (fun rv_ rw_ hp_ => ?_)
  obtain ⟨rfl, rfl⟩ := hp_
  refine g_rep [0] (ws' := [(mo, .inr (9, [.ref rw, .int st0, .int lg, .int sf, .int dg, .ref mh, .ref md, .int un, .ref mk, .ref mt, .int le, .int sm, .ref z1, .ref z2, .ref z3, .long tr, .int at_, .int be, .int rs, .ref y1, .ref y2, .ref y3, .ref y4, .int nu, .int os, .int od, .int sl, .ref ya, .int fpu, .ref yw, .int wn, .ref yp]))]) (st' := [.int (bI (0 ≤ x ∧ x ≤ st0 - 1))]) (n' := 0) (z' := 0) (pc' := 5) rfl rfl rfl rfl (by decide +kernel) rfl ?_
  refine g_if_eq (tgt := 17) C dX9_step_5 (by decide) (fun c5 => ?_) (fun c5 => ?_)
  · skip
    refine g_iconst (v := (-1)) C dX9_step_17 (by decide) ?_
    refine g_goto (tgt := 56) C dX9_step_18 (by decide) ?_
    exact g_iret C hR (⟨rfl, rfl⟩) dX9_step_56
  · skip
    exact absurd (bI_1 c5) hb

theorem c_X9_kp (l : Launch) (E : EX) (mo : Nat) (rw : Nat) (mh : Nat) (md : Nat) (mk : Nat) (mt : Nat) (z1 : Nat) (z2 : Nat) (z3 : Nat) (y1 : Nat) (y2 : Nat) (y3 : Nat) (y4 : Nat) (ya : Nat) (yw : Nat) (yp : Nat) (st0 : Int32) (lg : Int32) (sf : Int32) (dg : Int32) (le : Int32) (sm : Int32) (tr : Int64) (at_ : Int32) (be : Int32) (rs : Int32) (nu : Int32) (os : Int32) (od : Int32) (sl : Int32) (fpu : Int32) (wn : Int32) (rf : Nat → Int32) (q : Nat) (hq : q ≤ 10) : Ct l E yX9_keepPast cX9_keepPast 2 none (rmL 2 0 0) [.ref mo] [(mo, .inr (9, [.ref rw, .int st0, .int lg, .int sf, .int dg, .ref mh, .ref md, .int (nI q), .ref mk, .ref mt, .int le, .int sm, .ref z1, .ref z2, .ref z3, .long tr, .int at_, .int be, .int rs, .ref y1, .ref y2, .ref y3, .ref y4, .int nu, .int os, .int od, .int sl, .ref ya, .int fpu, .ref yw, .int wn, .ref yp])), aI E rw 168 rf] (fun (rv_ : Option Value) (rw_ : va_W) => rv_ = none ∧ rw_ = [(mo, .inr (9, [.ref rw, .int st0, .int lg, .int sf, .int dg, .ref mh, .ref md, .int (nI (kpN q)), .ref mk, .ref mt, .int le, .int sm, .ref z1, .ref z2, .ref z3, .long tr, .int at_, .int be, .int rs, .ref y1, .ref y2, .ref y3, .ref y4, .int nu, .int os, .int od, .int sl, .ref ya, .int fpu, .ref yw, .int wn, .ref yp])), aI E rw 168 (kpF rf q)]) 0 0 := by
  by_cases h : q < 10
  · have e1 : kpF rf q = va_cpy rf rf 0 (12 + 12 * q) 12 := if_pos h
    have e2 : kpN q = q + 1 := if_pos h
    rw [e1, e2]
    exact c_X9_keepPast l E mo rw mh md mk mt z1 z2 z3 y1 y2 y3 y4 ya yw yp st0 lg sf dg le sm tr at_ be rs nu os od sl fpu wn rf q h
  · have e0 : q = 10 := by omega
    subst e0
    have e1 : kpF rf 10 = va_cpy (va_cpy rf rf 24 12 108) (va_cpy rf rf 24 12 108) 0 120 12 := if_neg (by decide)
    have e2 : kpN 10 = 10 := if_neg (by decide)
    rw [e1, e2]
    exact c_X9_keepPast10 l E mo rw mh md mk mt z1 z2 z3 y1 y2 y3 y4 ya yw yp st0 lg sf dg le sm tr at_ be rs nu os od sl fpu wn rf

set_option maxHeartbeats 4000000 in
set_option maxRecDepth 100000 in
theorem c_X9_flips (l : Launch) (E : EX) (mo : Nat) (rw : Nat) (mh : Nat) (md : Nat) (mk : Nat) (mt : Nat) (z1 : Nat) (z2 : Nat) (z3 : Nat) (y1 : Nat) (y2 : Nat) (y3 : Nat) (y4 : Nat) (ya : Nat) (yw : Nat) (yp : Nat) (lg : Int32) (sf : Int32) (dg : Int32) (le : Int32) (sm : Int32) (tr : Int64) (at_ : Int32) (be : Int32) (rs : Int32) (nu : Int32) (os : Int32) (od : Int32) (sl : Int32) (fpu : Int32) (wn : Int32) (n : Nat) (hi : Nat → Int32) (de : Nat → Int32) (rf : Nat → Int32) (mm : Nat → Int32) (q : Nat) (a : Nat) (u : Nat) (hn : n ≤ 9) (h0 : rf 0 = nI a) (h1 : rf 1 = nI u) (ha : a < n) (hu : u < 100) (hu0 : 0 < u) (h2 : ¬ rf 2 = 999) (hmm : ∀ s, s < 9 → rf (3 + s) = mm s) (hq : q ≤ 10) : Ct l E yX9_flips cX9_flips 1 (some .int) (rmL 4 0 0) [.ref mo] [(mo, .inr (9, [.ref rw, .int (nI n), .int lg, .int sf, .int dg, .ref mh, .ref md, .int (nI q), .ref mk, .ref mt, .int le, .int sm, .ref z1, .ref z2, .ref z3, .long tr, .int at_, .int be, .int rs, .ref y1, .ref y2, .ref y3, .ref y4, .int nu, .int os, .int od, .int sl, .ref ya, .int fpu, .ref yw, .int wn, .ref yp])), aI E rw 168 rf, aI E mh 9 hi, aI E md 9 de] (fun (rv_ : Option Value) (rw_ : va_W) => ∃ (rf2 : Nat → Int32) (os2 : Int32) (od2 : Int32) (sl2 : Int32), rv_ = some (.int (nI (turnF n hi de mm lg sf dg a (nI u) 0).1)) ∧ rw_ = [(mo, .inr (9, [.ref rw, .int (nI n), .int lg, .int sf, .int dg, .ref mh, .ref md, .int (nI (kpN q)), .ref mk, .ref mt, .int le, .int sm, .ref z1, .ref z2, .ref z3, .long tr, .int at_, .int be, .int rs, .ref y1, .ref y2, .ref y3, .ref y4, .int nu, .int os2, .int od2, .int sl2, .ref ya, .int fpu, .ref yw, .int wn, .ref yp])), aI E rw 168 rf2, aI E mh 9 hi, aI E md 9 de] ∧ (rf2 0 = nI (turnF n hi de mm lg sf dg a (nI u) 0).1) ∧ (rf2 1 = (turnF n hi de mm lg sf dg a (nI u) 0).2.1) ∧ (rf2 2 = bump (rf 2)) ∧ (∀ i, 3 ≤ i → rf2 i = kpF rf q i)) 0 0 := by
  refine Ct_of (by decide) (Nat.le_of_ble_eq_true rfl) ?_
  intro k hkl hnl C hR hin_
  subst hkl
  show G k E 0 0 0 [some (.ref mo)] [] [(mo, .inr (9, [.ref rw, .int (nI n), .int lg, .int sf, .int dg, .ref mh, .ref md, .int (nI q), .ref mk, .ref mt, .int le, .int sm, .ref z1, .ref z2, .ref z3, .long tr, .int at_, .int be, .int rs, .ref y1, .ref y2, .ref y3, .ref y4, .int nu, .int os, .int od, .int sl, .ref ya, .int fpu, .ref yw, .int wn, .ref yp])), aI E rw 168 rf, aI E mh 9 hi, aI E md 9 de]
  refine g_aload_n C dX9_flips_0 rfl ?_
  refine g_get C kwX9 0 rfl rfl 0 (by decide) kfX9_7 rfl dX9_flips_1 ?_
  refine g_iconst (v := 0) C dX9_flips_4 (by decide) ?_
  refine g_iald C 1 0 rfl (rfl) (by decide) (by decide) dX9_flips_5 ?_
  refine g_topi (v := nI a) (h0) ?_
  refine g_aload_n C dX9_flips_6 rfl ?_
  refine g_get C kwX9 0 rfl rfl 1 (by decide) kfX9_66 rfl dX9_flips_7 ?_
  refine g_icmp_eq (tgt := 34) C dX9_flips_10 (by decide) (fun c10 => ?_) (fun c10 => ?_)
  · skip
    exact absurd ((nI_eq (by omega) (by omega)).mp c10) (by omega)
  · skip
    refine g_aload_n C dX9_flips_13 rfl ?_
    refine g_get C kwX9 0 rfl rfl 0 (by decide) kfX9_7 rfl dX9_flips_14 ?_
    refine g_iconst (v := 1) C dX9_flips_17 (by decide) ?_
    refine g_iald C 1 1 rfl (rfl) (by decide) (by decide) dX9_flips_18 ?_
    refine g_topi (v := nI u) (h1) ?_
    refine g_if_eq (tgt := 34) C dX9_flips_19 (by decide) (fun c19 => ?_) (fun c19 => ?_)
    · skip
      exact absurd ((nI_eq (b := 0) (by omega) (by decide)).mp c19) (by omega)
    · skip
      refine g_aload_n C dX9_flips_22 rfl ?_
      refine g_get C kwX9 0 rfl rfl 0 (by decide) kfX9_7 rfl dX9_flips_23 ?_
      refine g_iconst (v := 2) C dX9_flips_26 (by decide) ?_
      refine g_iald C 1 2 rfl (rfl) (by decide) (by decide) dX9_flips_27 ?_
      refine g_sipush (v := 999) C dX9_flips_28 (by decide) ?_
      refine g_icmp_ne (tgt := 37) C dX9_flips_31 (by decide) (fun c31 => ?_) (fun c31 => ?_)
      · skip
        refine g_aload_n C dX9_flips_37 rfl ?_
        refine g_callV C (c_X9_kp k.l E mo rw mh md mk mt z1 z2 z3 y1 y2 y3 y4 ya yw yp (nI n) lg sf dg le sm tr at_ be rs nu os od sl fpu wn rf q (hq)) kmX9_175 kiX9_keepPast ksX9_keepPast knX9 kcX9_keepPast ⟨rfl, rfl⟩ ⟨rfl, kdX9_keepPast⟩ ⟨by decide, by decide⟩ ⟨by decide, by decide⟩ [0, 1] [2, 3] rfl (wr := [aI E mh 9 hi, aI E md 9 de]) rfl (by decide +kernel) (by decide +kernel) (by decide +kernel) 0 9 rfl rfl rfl (As := []) (rest := []) rfl (Nat.le_of_ble_eq_true rfl) dX9_flips_38 (fun rv_ rw_ hp_ => ?_)
        obtain ⟨rfl, rfl⟩ := hp_
        refine g_rep [2, 3, 0, 1] (ws' := [(mo, .inr (9, [.ref rw, .int (nI n), .int lg, .int sf, .int dg, .ref mh, .ref md, .int (nI (kpN q)), .ref mk, .ref mt, .int le, .int sm, .ref z1, .ref z2, .ref z3, .long tr, .int at_, .int be, .int rs, .ref y1, .ref y2, .ref y3, .ref y4, .int nu, .int os, .int od, .int sl, .ref ya, .int fpu, .ref yw, .int wn, .ref yp])), aI E rw 168 (kpF rf q), aI E mh 9 hi, aI E md 9 de]) (st' := []) (n' := 0) (z' := 0) (pc' := 41) rfl rfl rfl rfl (by decide +kernel) rfl ?_
        refine g_aload_n C dX9_flips_41 rfl ?_
        refine g_callV C (c_X9_asItIs k.l E mo rw mh md mk mt z1 z2 z3 y1 y2 y3 y4 ya yw yp (nI n) lg sf dg (nI (kpN q)) le sm tr at_ be rs nu os od sl fpu wn) kmX9_149 kiX9_asItIs ksX9_asItIs knX9 kcX9_asItIs ⟨rfl, rfl⟩ ⟨rfl, kdX9_asItIs⟩ ⟨by decide, by decide⟩ ⟨by decide, by decide⟩ [0] [1, 2, 3] rfl (wr := [aI E rw 168 (kpF rf q), aI E mh 9 hi, aI E md 9 de]) rfl (by decide +kernel) (by decide +kernel) (by decide +kernel) 0 9 rfl rfl rfl (As := []) (rest := []) rfl (Nat.le_of_ble_eq_true rfl) dX9_flips_42 (fun rv_ rw_ hp_ => ?_)
        obtain ⟨rfl, rfl⟩ := hp_
        refine g_rep [3, 0, 1, 2] (ws' := [(mo, .inr (9, [.ref rw, .int (nI n), .int lg, .int sf, .int dg, .ref mh, .ref md, .int (nI (kpN q)), .ref mk, .ref mt, .int le, .int sm, .ref z1, .ref z2, .ref z3, .long tr, .int at_, .int be, .int rs, .ref y1, .ref y2, .ref y3, .ref y4, .int nu, .int sf, .int dg, .int 0, .ref ya, .int fpu, .ref yw, .int wn, .ref yp])), aI E rw 168 (kpF rf q), aI E mh 9 hi, aI E md 9 de]) (st' := []) (n' := 0) (z' := 0) (pc' := 45) rfl rfl rfl rfl (by decide +kernel) rfl ?_
        refine g_aload_n C dX9_flips_45 rfl ?_
        refine g_iconst (v := 0) C dX9_flips_46 (by decide) ?_
        refine g_callV C (c_X9_flip k.l E mo rw mh md mk mt z1 z2 z3 y1 y2 y3 y4 ya yw yp lg sf dg (nI (kpN q)) le sm tr at_ be rs nu sf dg 0 fpu wn n hi de (kpF rf q) mm 0 a (nI u) (by first | assumption | omega) (ha) (by decide) (by rw [kpF_low (by decide)]; exact h0) (by rw [kpF_low (by decide)]; exact h1) (fun s hs => by rw [show 0 + 3 + s = 3 + s by omega, kpF_low (by omega)]; exact hmm s hs)) kmX9_142 kiX9_flip ksX9_flip knX9 kcX9_flip ⟨rfl, rfl⟩ ⟨rfl, kdX9_flip⟩ ⟨by decide, by decide⟩ ⟨by decide, by decide⟩ [0, 1, 2, 3] [] rfl (wr := []) rfl (by decide +kernel) (by decide +kernel) (by decide +kernel) 0 9 rfl rfl rfl (As := [.int 0]) (rest := []) rfl (Nat.le_of_ble_eq_true rfl) dX9_flips_47 (fun rv_ rw_ hp_ => ?_)
        obtain ⟨rf2_1, rfl, rfl, g0, g1, g3, g2⟩ := hp_
        refine g_rep [0, 1, 2, 3] (ws' := [(mo, .inr (9, [.ref rw, .int (nI n), .int lg, .int sf, .int dg, .ref mh, .ref md, .int (nI (kpN q)), .ref mk, .ref mt, .int le, .int sm, .ref z1, .ref z2, .ref z3, .long tr, .int at_, .int be, .int rs, .ref y1, .ref y2, .ref y3, .ref y4, .int nu, .int sf, .int dg, .int ((turnF n hi de mm lg sf dg a (nI u) 0).2.2), .ref ya, .int fpu, .ref yw, .int wn, .ref yp])), aI E rw 168 rf2_1, aI E mh 9 hi, aI E md 9 de]) (st' := []) (n' := 0) (z' := 0) (pc' := 50) rfl rfl rfl rfl (by decide +kernel) rfl ?_
        refine g_aload_n C dX9_flips_50 rfl ?_
        refine g_get C kwX9 0 rfl rfl 0 (by decide) kfX9_7 rfl dX9_flips_51 ?_
        refine g_iconst (v := 0) C dX9_flips_54 (by decide) ?_
        refine g_iald C 1 0 rfl (rfl) (by decide) (by decide) dX9_flips_55 ?_
        refine g_topi (v := nI (turnF n hi de mm lg sf dg a (nI u) 0).1) (g0) ?_
        exact g_iret C hR (⟨_, _, _, _, rfl, rfl, g0, g1, by have z := g3; rw [kpF_low (by decide)] at z; exact z, fun i q => g2 i (by omega) (by omega) (by omega)⟩) dX9_flips_56
      · skip
        exact absurd c31 h2

set_option maxHeartbeats 4000000 in
set_option maxRecDepth 100000 in
theorem c_X9_flipsS (l : Launch) (E : EX) (mo : Nat) (rw : Nat) (mh : Nat) (md : Nat) (mk : Nat) (mt : Nat) (z1 : Nat) (z2 : Nat) (z3 : Nat) (y1 : Nat) (y2 : Nat) (y3 : Nat) (y4 : Nat) (ya : Nat) (yw : Nat) (yp : Nat) (lg : Int32) (sf : Int32) (dg : Int32) (un : Int32) (le : Int32) (sm : Int32) (tr : Int64) (at_ : Int32) (be : Int32) (rs : Int32) (nu : Int32) (os : Int32) (od : Int32) (sl : Int32) (fpu : Int32) (wn : Int32) (n : Nat) (rf : Nat → Int32) (a : Nat) (u : Nat) (hn : n ≤ 9) (h0 : rf 0 = nI a) (h1 : rf 1 = nI u) (ha : a ≤ n) (hu : u < 100) (hs : ¬ a < n ∨ u = 0 ∨ rf 2 = 999) : Ct l E yX9_flips cX9_flips 1 (some .int) (rmL 4 0 0) [.ref mo] [(mo, .inr (9, [.ref rw, .int (nI n), .int lg, .int sf, .int dg, .ref mh, .ref md, .int un, .ref mk, .ref mt, .int le, .int sm, .ref z1, .ref z2, .ref z3, .long tr, .int at_, .int be, .int rs, .ref y1, .ref y2, .ref y3, .ref y4, .int nu, .int os, .int od, .int sl, .ref ya, .int fpu, .ref yw, .int wn, .ref yp])), aI E rw 168 rf] (fun (rv_ : Option Value) (rw_ : va_W) => rv_ = some (.int (-2)) ∧ rw_ = [(mo, .inr (9, [.ref rw, .int (nI n), .int lg, .int sf, .int dg, .ref mh, .ref md, .int un, .ref mk, .ref mt, .int le, .int sm, .ref z1, .ref z2, .ref z3, .long tr, .int at_, .int be, .int rs, .ref y1, .ref y2, .ref y3, .ref y4, .int nu, .int os, .int od, .int sl, .ref ya, .int fpu, .ref yw, .int wn, .ref yp])), aI E rw 168 rf]) 0 0 := by
  refine Ct_of (by decide) (Nat.le_of_ble_eq_true rfl) ?_
  intro k hkl hnl C hR hin_
  subst hkl
  show G k E 0 0 0 [some (.ref mo)] [] [(mo, .inr (9, [.ref rw, .int (nI n), .int lg, .int sf, .int dg, .ref mh, .ref md, .int un, .ref mk, .ref mt, .int le, .int sm, .ref z1, .ref z2, .ref z3, .long tr, .int at_, .int be, .int rs, .ref y1, .ref y2, .ref y3, .ref y4, .int nu, .int os, .int od, .int sl, .ref ya, .int fpu, .ref yw, .int wn, .ref yp])), aI E rw 168 rf]
  refine g_aload_n C dX9_flips_0 rfl ?_
  refine g_get C kwX9 0 rfl rfl 0 (by decide) kfX9_7 rfl dX9_flips_1 ?_
  refine g_iconst (v := 0) C dX9_flips_4 (by decide) ?_
  refine g_iald C 1 0 rfl (rfl) (by decide) (by decide) dX9_flips_5 ?_
  refine g_topi (v := nI a) (h0) ?_
  refine g_aload_n C dX9_flips_6 rfl ?_
  refine g_get C kwX9 0 rfl rfl 1 (by decide) kfX9_66 rfl dX9_flips_7 ?_
  refine g_icmp_eq (tgt := 34) C dX9_flips_10 (by decide) (fun c10 => ?_) (fun c10 => ?_)
  · skip
    refine g_bipush (v := (-2)) C dX9_flips_34 (by decide) ?_
    exact g_iret C hR (⟨rfl, rfl⟩) dX9_flips_36
  · skip
    refine g_aload_n C dX9_flips_13 rfl ?_
    refine g_get C kwX9 0 rfl rfl 0 (by decide) kfX9_7 rfl dX9_flips_14 ?_
    refine g_iconst (v := 1) C dX9_flips_17 (by decide) ?_
    refine g_iald C 1 1 rfl (rfl) (by decide) (by decide) dX9_flips_18 ?_
    refine g_topi (v := nI u) (h1) ?_
    refine g_if_eq (tgt := 34) C dX9_flips_19 (by decide) (fun c19 => ?_) (fun c19 => ?_)
    · skip
      refine g_bipush (v := (-2)) C dX9_flips_34 (by decide) ?_
      exact g_iret C hR (⟨rfl, rfl⟩) dX9_flips_36
    · skip
      refine g_aload_n C dX9_flips_22 rfl ?_
      refine g_get C kwX9 0 rfl rfl 0 (by decide) kfX9_7 rfl dX9_flips_23 ?_
      refine g_iconst (v := 2) C dX9_flips_26 (by decide) ?_
      refine g_iald C 1 2 rfl (rfl) (by decide) (by decide) dX9_flips_27 ?_
      refine g_sipush (v := 999) C dX9_flips_28 (by decide) ?_
      refine g_icmp_ne (tgt := 37) C dX9_flips_31 (by decide) (fun c31 => ?_) (fun c31 => ?_)
      · skip
        exact hs.elim (fun z => absurd (by rw [show a = n by omega]) c10) (fun z => z.elim (fun y => absurd (by rw [y]; rfl) c19) (fun y => absurd y c31))
      · skip
        refine g_bipush (v := (-2)) C dX9_flips_34 (by decide) ?_
        exact g_iret C hR (⟨rfl, rfl⟩) dX9_flips_36

set_option maxHeartbeats 4000000 in
set_option maxRecDepth 100000 in
theorem c_X9_pushesB (l : Launch) (E : EX) (mo : Nat) (rw : Nat) (mh : Nat) (md : Nat) (mk : Nat) (mt : Nat) (z1 : Nat) (z2 : Nat) (z3 : Nat) (y1 : Nat) (y2 : Nat) (y3 : Nat) (y4 : Nat) (ya : Nat) (yw : Nat) (yp : Nat) (st0 : Int32) (lg : Int32) (sf : Int32) (dg : Int32) (un : Int32) (le : Int32) (sm : Int32) (tr : Int64) (at_ : Int32) (be : Int32) (rs : Int32) (nu : Int32) (os : Int32) (od : Int32) (sl : Int32) (fpu : Int32) (wn : Int32) (y : Int32) (hb : ¬ (1 ≤ y ∧ y ≤ 20)) : Ct l E yX9_pushes cX9_pushes 2 (some .int) (rmL 3 0 0) [.ref mo, .int y] [(mo, .inr (9, [.ref rw, .int st0, .int lg, .int sf, .int dg, .ref mh, .ref md, .int un, .ref mk, .ref mt, .int le, .int sm, .ref z1, .ref z2, .ref z3, .long tr, .int at_, .int be, .int rs, .ref y1, .ref y2, .ref y3, .ref y4, .int nu, .int os, .int od, .int sl, .ref ya, .int fpu, .ref yw, .int wn, .ref yp]))] (fun (rv_ : Option Value) (rw_ : va_W) => rv_ = some (.int (-1)) ∧ rw_ = [(mo, .inr (9, [.ref rw, .int st0, .int lg, .int sf, .int dg, .ref mh, .ref md, .int un, .ref mk, .ref mt, .int le, .int sm, .ref z1, .ref z2, .ref z3, .long tr, .int at_, .int be, .int rs, .ref y1, .ref y2, .ref y3, .ref y4, .int nu, .int os, .int od, .int sl, .ref ya, .int fpu, .ref yw, .int wn, .ref yp]))]) 0 0 := by
  refine Ct_of (by decide) (Nat.le_of_ble_eq_true rfl) ?_
  intro k hkl hnl C hR hin_
  subst hkl
  show G k E 0 0 0 [some (.ref mo), some (.int y)] [] [(mo, .inr (9, [.ref rw, .int st0, .int lg, .int sf, .int dg, .ref mh, .ref md, .int un, .ref mk, .ref mt, .int le, .int sm, .ref z1, .ref z2, .ref z3, .long tr, .int at_, .int be, .int rs, .ref y1, .ref y2, .ref y3, .ref y4, .int nu, .int os, .int od, .int sl, .ref ya, .int fpu, .ref yw, .int wn, .ref yp]))]
  refine g_iload_n C dX9_pushes_0 rfl ?_
  refine g_iconst (v := 1) C dX9_pushes_1 (by decide) ?_
  refine g_bipush (v := 20) C dX9_pushes_2 (by decide) ?_
  refine g_callS C (c_X9_in k.l E y 1 20) kmX9_69 ktX9_in knX9 kcX9_in ⟨rfl, rfl⟩ kdX9_in ⟨by decide, by decide⟩ ⟨by decide, by decide⟩ [] [0] rfl (wr := [(mo, .inr (9, [.ref rw, .int st0, .int lg, .int sf, .int dg, .ref mh, .ref md, .int un, .ref mk, .ref mt, .int le, .int sm, .ref z1, .ref z2, .ref z3, .long tr, .int at_, .int be, .int rs, .ref y1, .ref y2, .ref y3, .ref y4, .int nu, .int os, .int od, .int sl, .ref ya, .int fpu, .ref yw, .int wn, .ref yp]))]) rfl (by decide +kernel) (by decide +kernel) (by decide +kernel) rfl (As := [.int y, .int 1, .int 20]) (rest := []) rfl (Nat.le_of_ble_eq_true rfl) dX9_pushes_4 (fun rv_ rw_ hp_ => ?_)
  obtain ⟨rfl, rfl⟩ := hp_
  refine g_rep [0] (ws' := [(mo, .inr (9, [.ref rw, .int st0, .int lg, .int sf, .int dg, .ref mh, .ref md, .int un, .ref mk, .ref mt, .int le, .int sm, .ref z1, .ref z2, .ref z3, .long tr, .int at_, .int be, .int rs, .ref y1, .ref y2, .ref y3, .ref y4, .int nu, .int os, .int od, .int sl, .ref ya, .int fpu, .ref yw, .int wn, .ref yp]))]) (st' := [.int (bI (1 ≤ y ∧ y ≤ 20))]) (n' := 0) (z' := 0) (pc' := 7) rfl rfl rfl rfl (by decide +kernel) rfl ?_
  refine g_if_ne (tgt := 12) C dX9_pushes_7 (by decide) (fun c7 => ?_) (fun c7 => ?_)
  · skip
    exact absurd (bI_1 c7) hb
  · skip
    refine g_iconst (v := (-1)) C dX9_pushes_10 (by decide) ?_
    exact g_iret C hR (⟨rfl, rfl⟩) dX9_pushes_11

set_option maxHeartbeats 4000000 in
set_option maxRecDepth 100000 in
theorem c_X9_pushesS (l : Launch) (E : EX) (mo : Nat) (rw : Nat) (mh : Nat) (md : Nat) (mk : Nat) (mt : Nat) (z1 : Nat) (z2 : Nat) (z3 : Nat) (y1 : Nat) (y2 : Nat) (y3 : Nat) (y4 : Nat) (ya : Nat) (yw : Nat) (yp : Nat) (lg : Int32) (sf : Int32) (dg : Int32) (un : Int32) (le : Int32) (sm : Int32) (tr : Int64) (at_ : Int32) (be : Int32) (rs : Int32) (nu : Int32) (os : Int32) (od : Int32) (sl : Int32) (fpu : Int32) (wn : Int32) (n : Nat) (rf : Nat → Int32) (y : Int32) (h0 : rf 0 = nI n) (hy : 1 ≤ y ∧ y ≤ 20) : Ct l E yX9_pushes cX9_pushes 2 (some .int) (rmL 3 0 0) [.ref mo, .int y] [(mo, .inr (9, [.ref rw, .int (nI n), .int lg, .int sf, .int dg, .ref mh, .ref md, .int un, .ref mk, .ref mt, .int le, .int sm, .ref z1, .ref z2, .ref z3, .long tr, .int at_, .int be, .int rs, .ref y1, .ref y2, .ref y3, .ref y4, .int nu, .int os, .int od, .int sl, .ref ya, .int fpu, .ref yw, .int wn, .ref yp])), aI E rw 168 rf] (fun (rv_ : Option Value) (rw_ : va_W) => rv_ = some (.int (-2)) ∧ rw_ = [(mo, .inr (9, [.ref rw, .int (nI n), .int lg, .int sf, .int dg, .ref mh, .ref md, .int un, .ref mk, .ref mt, .int le, .int sm, .ref z1, .ref z2, .ref z3, .long tr, .int at_, .int be, .int rs, .ref y1, .ref y2, .ref y3, .ref y4, .int nu, .int os, .int od, .int sl, .ref ya, .int fpu, .ref yw, .int wn, .ref yp])), aI E rw 168 rf]) 0 0 := by
  refine Ct_of (by decide) (Nat.le_of_ble_eq_true rfl) ?_
  intro k hkl hnl C hR hin_
  subst hkl
  show G k E 0 0 0 [some (.ref mo), some (.int y)] [] [(mo, .inr (9, [.ref rw, .int (nI n), .int lg, .int sf, .int dg, .ref mh, .ref md, .int un, .ref mk, .ref mt, .int le, .int sm, .ref z1, .ref z2, .ref z3, .long tr, .int at_, .int be, .int rs, .ref y1, .ref y2, .ref y3, .ref y4, .int nu, .int os, .int od, .int sl, .ref ya, .int fpu, .ref yw, .int wn, .ref yp])), aI E rw 168 rf]
  refine g_iload_n C dX9_pushes_0 rfl ?_
  refine g_iconst (v := 1) C dX9_pushes_1 (by decide) ?_
  refine g_bipush (v := 20) C dX9_pushes_2 (by decide) ?_
  refine g_callS C (c_X9_in k.l E y 1 20) kmX9_69 ktX9_in knX9 kcX9_in ⟨rfl, rfl⟩ kdX9_in ⟨by decide, by decide⟩ ⟨by decide, by decide⟩ [] [0, 1] rfl (wr := [(mo, .inr (9, [.ref rw, .int (nI n), .int lg, .int sf, .int dg, .ref mh, .ref md, .int un, .ref mk, .ref mt, .int le, .int sm, .ref z1, .ref z2, .ref z3, .long tr, .int at_, .int be, .int rs, .ref y1, .ref y2, .ref y3, .ref y4, .int nu, .int os, .int od, .int sl, .ref ya, .int fpu, .ref yw, .int wn, .ref yp])), aI E rw 168 rf]) rfl (by decide +kernel) (by decide +kernel) (by decide +kernel) rfl (As := [.int y, .int 1, .int 20]) (rest := []) rfl (Nat.le_of_ble_eq_true rfl) dX9_pushes_4 (fun rv_ rw_ hp_ => ?_)
  obtain ⟨rfl, rfl⟩ := hp_
  refine g_rep [0, 1] (ws' := [(mo, .inr (9, [.ref rw, .int (nI n), .int lg, .int sf, .int dg, .ref mh, .ref md, .int un, .ref mk, .ref mt, .int le, .int sm, .ref z1, .ref z2, .ref z3, .long tr, .int at_, .int be, .int rs, .ref y1, .ref y2, .ref y3, .ref y4, .int nu, .int os, .int od, .int sl, .ref ya, .int fpu, .ref yw, .int wn, .ref yp])), aI E rw 168 rf]) (st' := [.int (bI (1 ≤ y ∧ y ≤ 20))]) (n' := 0) (z' := 0) (pc' := 7) rfl rfl rfl rfl (by decide +kernel) rfl ?_
  refine g_if_ne (tgt := 12) C dX9_pushes_7 (by decide) (fun c7 => ?_) (fun c7 => ?_)
  · skip
    refine g_aload_n C dX9_pushes_12 rfl ?_
    refine g_get C kwX9 0 rfl rfl 0 (by decide) kfX9_7 rfl dX9_pushes_13 ?_
    refine g_iconst (v := 0) C dX9_pushes_16 (by decide) ?_
    refine g_iald C 1 0 rfl (rfl) (by decide) (by decide) dX9_pushes_17 ?_
    refine g_topi (v := nI n) (h0) ?_
    refine g_aload_n C dX9_pushes_18 rfl ?_
    refine g_get C kwX9 0 rfl rfl 1 (by decide) kfX9_66 rfl dX9_pushes_19 ?_
    refine g_icmp_ne (tgt := 28) C dX9_pushes_22 (by decide) (fun c22 => ?_) (fun c22 => ?_)
    · skip
      exact absurd rfl c22
    · skip
      refine g_bipush (v := (-2)) C dX9_pushes_25 (by decide) ?_
      exact g_iret C hR (⟨rfl, rfl⟩) dX9_pushes_27
  · skip
    exact absurd hy (bI_0 c7)

set_option maxHeartbeats 4000000 in
set_option maxRecDepth 100000 in
theorem c_X9_pushes (l : Launch) (E : EX) (mo : Nat) (rw : Nat) (mh : Nat) (md : Nat) (mk : Nat) (mt : Nat) (z1 : Nat) (z2 : Nat) (z3 : Nat) (y1 : Nat) (y2 : Nat) (y3 : Nat) (y4 : Nat) (ya : Nat) (yw : Nat) (yp : Nat) (lg : Int32) (sf : Int32) (dg : Int32) (le : Int32) (sm : Int32) (tr : Int64) (at_ : Int32) (be : Int32) (rs : Int32) (nu : Int32) (os : Int32) (od : Int32) (sl : Int32) (fpu : Int32) (wn : Int32) (n : Nat) (rf : Nat → Int32) (q : Nat) (a : Nat) (u : Nat) (y : Int32) (hn : n ≤ 9) (h0 : rf 0 = nI a) (h1 : rf 1 = nI u) (ha : a < n) (hy : 1 ≤ y ∧ y ≤ 20) (hq : q ≤ 10) : Ct l E yX9_pushes cX9_pushes 2 (some .int) (rmL 3 0 0) [.ref mo, .int y] [(mo, .inr (9, [.ref rw, .int (nI n), .int lg, .int sf, .int dg, .ref mh, .ref md, .int (nI q), .ref mk, .ref mt, .int le, .int sm, .ref z1, .ref z2, .ref z3, .long tr, .int at_, .int be, .int rs, .ref y1, .ref y2, .ref y3, .ref y4, .int nu, .int os, .int od, .int sl, .ref ya, .int fpu, .ref yw, .int wn, .ref yp])), aI E rw 168 rf] (fun (rv_ : Option Value) (rw_ : va_W) => rv_ = some (.int (asV (nI u + y))) ∧ rw_ = [(mo, .inr (9, [.ref rw, .int (nI n), .int lg, .int sf, .int dg, .ref mh, .ref md, .int (nI (kpN q)), .ref mk, .ref mt, .int le, .int sm, .ref z1, .ref z2, .ref z3, .long tr, .int at_, .int be, .int rs, .ref y1, .ref y2, .ref y3, .ref y4, .int nu, .int os, .int od, .int sl, .ref ya, .int fpu, .ref yw, .int wn, .ref yp])), aI E rw 168 (upd (kpF rf q) 1 (asV (nI u + y)))]) 0 0 := by
  refine Ct_of (by decide) (Nat.le_of_ble_eq_true rfl) ?_
  intro k hkl hnl C hR hin_
  subst hkl
  show G k E 0 0 0 [some (.ref mo), some (.int y)] [] [(mo, .inr (9, [.ref rw, .int (nI n), .int lg, .int sf, .int dg, .ref mh, .ref md, .int (nI q), .ref mk, .ref mt, .int le, .int sm, .ref z1, .ref z2, .ref z3, .long tr, .int at_, .int be, .int rs, .ref y1, .ref y2, .ref y3, .ref y4, .int nu, .int os, .int od, .int sl, .ref ya, .int fpu, .ref yw, .int wn, .ref yp])), aI E rw 168 rf]
  refine g_iload_n C dX9_pushes_0 rfl ?_
  refine g_iconst (v := 1) C dX9_pushes_1 (by decide) ?_
  refine g_bipush (v := 20) C dX9_pushes_2 (by decide) ?_
  refine g_callS C (c_X9_in k.l E y 1 20) kmX9_69 ktX9_in knX9 kcX9_in ⟨rfl, rfl⟩ kdX9_in ⟨by decide, by decide⟩ ⟨by decide, by decide⟩ [] [0, 1] rfl (wr := [(mo, .inr (9, [.ref rw, .int (nI n), .int lg, .int sf, .int dg, .ref mh, .ref md, .int (nI q), .ref mk, .ref mt, .int le, .int sm, .ref z1, .ref z2, .ref z3, .long tr, .int at_, .int be, .int rs, .ref y1, .ref y2, .ref y3, .ref y4, .int nu, .int os, .int od, .int sl, .ref ya, .int fpu, .ref yw, .int wn, .ref yp])), aI E rw 168 rf]) rfl (by decide +kernel) (by decide +kernel) (by decide +kernel) rfl (As := [.int y, .int 1, .int 20]) (rest := []) rfl (Nat.le_of_ble_eq_true rfl) dX9_pushes_4 (fun rv_ rw_ hp_ => ?_)
  obtain ⟨rfl, rfl⟩ := hp_
  refine g_rep [0, 1] (ws' := [(mo, .inr (9, [.ref rw, .int (nI n), .int lg, .int sf, .int dg, .ref mh, .ref md, .int (nI q), .ref mk, .ref mt, .int le, .int sm, .ref z1, .ref z2, .ref z3, .long tr, .int at_, .int be, .int rs, .ref y1, .ref y2, .ref y3, .ref y4, .int nu, .int os, .int od, .int sl, .ref ya, .int fpu, .ref yw, .int wn, .ref yp])), aI E rw 168 rf]) (st' := [.int (bI (1 ≤ y ∧ y ≤ 20))]) (n' := 0) (z' := 0) (pc' := 7) rfl rfl rfl rfl (by decide +kernel) rfl ?_
  refine g_if_ne (tgt := 12) C dX9_pushes_7 (by decide) (fun c7 => ?_) (fun c7 => ?_)
  · skip
    refine g_aload_n C dX9_pushes_12 rfl ?_
    refine g_get C kwX9 0 rfl rfl 0 (by decide) kfX9_7 rfl dX9_pushes_13 ?_
    refine g_iconst (v := 0) C dX9_pushes_16 (by decide) ?_
    refine g_iald C 1 0 rfl (rfl) (by decide) (by decide) dX9_pushes_17 ?_
    refine g_topi (v := nI a) (h0) ?_
    refine g_aload_n C dX9_pushes_18 rfl ?_
    refine g_get C kwX9 0 rfl rfl 1 (by decide) kfX9_66 rfl dX9_pushes_19 ?_
    refine g_icmp_ne (tgt := 28) C dX9_pushes_22 (by decide) (fun c22 => ?_) (fun c22 => ?_)
    · skip
      refine g_aload_n C dX9_pushes_28 rfl ?_
      refine g_callV C (c_X9_kp k.l E mo rw mh md mk mt z1 z2 z3 y1 y2 y3 y4 ya yw yp (nI n) lg sf dg le sm tr at_ be rs nu os od sl fpu wn rf q (hq)) kmX9_175 kiX9_keepPast ksX9_keepPast knX9 kcX9_keepPast ⟨rfl, rfl⟩ ⟨rfl, kdX9_keepPast⟩ ⟨by decide, by decide⟩ ⟨by decide, by decide⟩ [0, 1] [] rfl (wr := []) rfl (by decide +kernel) (by decide +kernel) (by decide +kernel) 0 9 rfl rfl rfl (As := []) (rest := []) rfl (Nat.le_of_ble_eq_true rfl) dX9_pushes_29 (fun rv_ rw_ hp_ => ?_)
      obtain ⟨rfl, rfl⟩ := hp_
      refine g_rep [0, 1] (ws' := [(mo, .inr (9, [.ref rw, .int (nI n), .int lg, .int sf, .int dg, .ref mh, .ref md, .int (nI (kpN q)), .ref mk, .ref mt, .int le, .int sm, .ref z1, .ref z2, .ref z3, .long tr, .int at_, .int be, .int rs, .ref y1, .ref y2, .ref y3, .ref y4, .int nu, .int os, .int od, .int sl, .ref ya, .int fpu, .ref yw, .int wn, .ref yp])), aI E rw 168 (kpF rf q)]) (st' := []) (n' := 0) (z' := 0) (pc' := 32) rfl rfl rfl rfl (by decide +kernel) rfl ?_
      refine g_aload_n C dX9_pushes_32 rfl ?_
      refine g_get C kwX9 0 rfl rfl 0 (by decide) kfX9_7 rfl dX9_pushes_33 ?_
      refine g_iconst (v := 1) C dX9_pushes_36 (by decide) ?_
      refine g_aload_n C dX9_pushes_37 rfl ?_
      refine g_get C kwX9 0 rfl rfl 0 (by decide) kfX9_7 rfl dX9_pushes_38 ?_
      refine g_iconst (v := 1) C dX9_pushes_41 (by decide) ?_
      refine g_iald C 1 1 rfl (rfl) (by decide) (by decide) dX9_pushes_42 ?_
      refine g_topi (v := nI u) (by rw [kpF_low (by decide)]; exact h1) ?_
      refine g_iload_n C dX9_pushes_43 rfl ?_
      refine g_iadd C dX9_pushes_44 ?_
      refine g_callS C (c_X9_bound k.l E ((nI u) + y)) kmX9_134 ktX9_bound knX9 kcX9_bound ⟨rfl, rfl⟩ kdX9_bound ⟨by decide, by decide⟩ ⟨by decide, by decide⟩ [] [0, 1] rfl (wr := [(mo, .inr (9, [.ref rw, .int (nI n), .int lg, .int sf, .int dg, .ref mh, .ref md, .int (nI (kpN q)), .ref mk, .ref mt, .int le, .int sm, .ref z1, .ref z2, .ref z3, .long tr, .int at_, .int be, .int rs, .ref y1, .ref y2, .ref y3, .ref y4, .int nu, .int os, .int od, .int sl, .ref ya, .int fpu, .ref yw, .int wn, .ref yp])), aI E rw 168 (kpF rf q)]) rfl (by decide +kernel) (by decide +kernel) (by decide +kernel) rfl (As := [.int ((nI u) + y)]) (rest := [.int 1, .ref rw]) rfl (Nat.le_of_ble_eq_true rfl) dX9_pushes_45 (fun rv_ rw_ hp_ => ?_)
      obtain ⟨rfl, rfl⟩ := hp_
      refine g_rep [0, 1] (ws' := [(mo, .inr (9, [.ref rw, .int (nI n), .int lg, .int sf, .int dg, .ref mh, .ref md, .int (nI (kpN q)), .ref mk, .ref mt, .int le, .int sm, .ref z1, .ref z2, .ref z3, .long tr, .int at_, .int be, .int rs, .ref y1, .ref y2, .ref y3, .ref y4, .int nu, .int os, .int od, .int sl, .ref ya, .int fpu, .ref yw, .int wn, .ref yp])), aI E rw 168 (kpF rf q)]) (st' := [.int (asV ((nI u) + y)), .int 1, .ref rw]) (n' := 0) (z' := 0) (pc' := 48) rfl rfl rfl rfl (by decide +kernel) rfl ?_
      refine g_iast (ws' := [(mo, .inr (9, [.ref rw, .int (nI n), .int lg, .int sf, .int dg, .ref mh, .ref md, .int (nI (kpN q)), .ref mk, .ref mt, .int le, .int sm, .ref z1, .ref z2, .ref z3, .long tr, .int at_, .int be, .int rs, .ref y1, .ref y2, .ref y3, .ref y4, .int nu, .int os, .int od, .int sl, .ref ya, .int fpu, .ref yw, .int wn, .ref yp])), aI E rw 168 (upd (kpF rf q) 1 (asV ((nI u) + y)))]) C 1 1 rfl (rfl) (by decide) (by decide) rfl dX9_pushes_48 ?_
      refine g_aload_n C dX9_pushes_49 rfl ?_
      refine g_get C kwX9 0 rfl rfl 0 (by decide) kfX9_7 rfl dX9_pushes_50 ?_
      refine g_iconst (v := 1) C dX9_pushes_53 (by decide) ?_
      refine g_iald C 1 1 rfl (rfl) (by decide) (by decide) dX9_pushes_54 ?_
      refine g_topi (v := asV (nI u + y)) (pk_us) ?_
      exact g_iret C hR (⟨rfl, rfl⟩) dX9_pushes_55
    · skip
      exact absurd ((nI_eq (by omega) (by omega)).mp c22) (by omega)
  · skip
    exact absurd hy (bI_0 c7)

set_option maxHeartbeats 4000000 in
set_option maxRecDepth 100000 in
theorem c_X9_liftsB (l : Launch) (E : EX) (mo : Nat) (rw : Nat) (mh : Nat) (md : Nat) (mk : Nat) (mt : Nat) (z1 : Nat) (z2 : Nat) (z3 : Nat) (y1 : Nat) (y2 : Nat) (y3 : Nat) (y4 : Nat) (ya : Nat) (yw : Nat) (yp : Nat) (st0 : Int32) (lg : Int32) (sf : Int32) (dg : Int32) (un : Int32) (le : Int32) (sm : Int32) (tr : Int64) (at_ : Int32) (be : Int32) (rs : Int32) (nu : Int32) (os : Int32) (od : Int32) (sl : Int32) (fpu : Int32) (wn : Int32) (y : Int32) (hb : ¬ (0 ≤ y ∧ y ≤ st0 - 1)) : Ct l E yX9_lifts cX9_lifts 3 (some .int) (rmL 3 0 0) [.ref mo, .int y] [(mo, .inr (9, [.ref rw, .int st0, .int lg, .int sf, .int dg, .ref mh, .ref md, .int un, .ref mk, .ref mt, .int le, .int sm, .ref z1, .ref z2, .ref z3, .long tr, .int at_, .int be, .int rs, .ref y1, .ref y2, .ref y3, .ref y4, .int nu, .int os, .int od, .int sl, .ref ya, .int fpu, .ref yw, .int wn, .ref yp]))] (fun (rv_ : Option Value) (rw_ : va_W) => rv_ = some (.int (-1)) ∧ rw_ = [(mo, .inr (9, [.ref rw, .int st0, .int lg, .int sf, .int dg, .ref mh, .ref md, .int un, .ref mk, .ref mt, .int le, .int sm, .ref z1, .ref z2, .ref z3, .long tr, .int at_, .int be, .int rs, .ref y1, .ref y2, .ref y3, .ref y4, .int nu, .int os, .int od, .int sl, .ref ya, .int fpu, .ref yw, .int wn, .ref yp]))]) 0 0 := by
  refine Ct_of (by decide) (Nat.le_of_ble_eq_true rfl) ?_
  intro k hkl hnl C hR hin_
  subst hkl
  show G k E 0 0 0 [some (.ref mo), some (.int y), none] [] [(mo, .inr (9, [.ref rw, .int st0, .int lg, .int sf, .int dg, .ref mh, .ref md, .int un, .ref mk, .ref mt, .int le, .int sm, .ref z1, .ref z2, .ref z3, .long tr, .int at_, .int be, .int rs, .ref y1, .ref y2, .ref y3, .ref y4, .int nu, .int os, .int od, .int sl, .ref ya, .int fpu, .ref yw, .int wn, .ref yp]))]
  refine g_aload_n C dX9_lifts_0 rfl ?_
  refine g_iload_n C dX9_lifts_1 rfl ?_
  refine g_callV C (c_X9_isStep k.l E mo rw mh md mk mt z1 z2 z3 y1 y2 y3 y4 ya yw yp st0 lg sf dg un le sm tr at_ be rs nu os od sl fpu wn y) kmX9_122 kiX9_isStep ksX9_isStep knX9 kcX9_isStep ⟨rfl, rfl⟩ ⟨rfl, kdX9_isStep⟩ ⟨by decide, by decide⟩ ⟨by decide, by decide⟩ [0] [] rfl (wr := []) rfl (by decide +kernel) (by decide +kernel) (by decide +kernel) 0 9 rfl rfl rfl (As := [.int y]) (rest := []) rfl (Nat.le_of_ble_eq_true rfl) dX9_lifts_2 (fun rv_ rw_ hp_ => ?_)
  obtain ⟨rfl, rfl⟩ := hp_
  refine g_rep [0] (ws' := [(mo, .inr (9, [.ref rw, .int st0, .int lg, .int sf, .int dg, .ref mh, .ref md, .int un, .ref mk, .ref mt, .int le, .int sm, .ref z1, .ref z2, .ref z3, .long tr, .int at_, .int be, .int rs, .ref y1, .ref y2, .ref y3, .ref y4, .int nu, .int os, .int od, .int sl, .ref ya, .int fpu, .ref yw, .int wn, .ref yp]))]) (st' := [.int (bI (0 ≤ y ∧ y ≤ st0 - 1))]) (n' := 0) (z' := 0) (pc' := 5) rfl rfl rfl rfl (by decide +kernel) rfl ?_
  refine g_if_ne (tgt := 10) C dX9_lifts_5 (by decide) (fun c5 => ?_) (fun c5 => ?_)
  · skip
    exact absurd (bI_1 c5) hb
  · skip
    refine g_iconst (v := (-1)) C dX9_lifts_8 (by decide) ?_
    exact g_iret C hR (⟨rfl, rfl⟩) dX9_lifts_9

set_option maxHeartbeats 4000000 in
set_option maxRecDepth 100000 in
theorem c_X9_liftsS (l : Launch) (E : EX) (mo : Nat) (rw : Nat) (mh : Nat) (md : Nat) (mk : Nat) (mt : Nat) (z1 : Nat) (z2 : Nat) (z3 : Nat) (y1 : Nat) (y2 : Nat) (y3 : Nat) (y4 : Nat) (ya : Nat) (yw : Nat) (yp : Nat) (lg : Int32) (sf : Int32) (dg : Int32) (un : Int32) (le : Int32) (sm : Int32) (tr : Int64) (at_ : Int32) (be : Int32) (rs : Int32) (nu : Int32) (os : Int32) (od : Int32) (sl : Int32) (fpu : Int32) (wn : Int32) (n : Nat) (rf : Nat → Int32) (a : Nat) (hn : n ≤ 9) (h0 : rf 0 = nI a) (ha : a < n) : Ct l E yX9_lifts cX9_lifts 3 (some .int) (rmL 3 0 0) [.ref mo, .int (nI a)] [(mo, .inr (9, [.ref rw, .int (nI n), .int lg, .int sf, .int dg, .ref mh, .ref md, .int un, .ref mk, .ref mt, .int le, .int sm, .ref z1, .ref z2, .ref z3, .long tr, .int at_, .int be, .int rs, .ref y1, .ref y2, .ref y3, .ref y4, .int nu, .int os, .int od, .int sl, .ref ya, .int fpu, .ref yw, .int wn, .ref yp])), aI E rw 168 rf] (fun (rv_ : Option Value) (rw_ : va_W) => rv_ = some (.int (-2)) ∧ rw_ = [(mo, .inr (9, [.ref rw, .int (nI n), .int lg, .int sf, .int dg, .ref mh, .ref md, .int un, .ref mk, .ref mt, .int le, .int sm, .ref z1, .ref z2, .ref z3, .long tr, .int at_, .int be, .int rs, .ref y1, .ref y2, .ref y3, .ref y4, .int nu, .int os, .int od, .int sl, .ref ya, .int fpu, .ref yw, .int wn, .ref yp])), aI E rw 168 rf]) 0 0 := by
  refine Ct_of (by decide) (Nat.le_of_ble_eq_true rfl) ?_
  intro k hkl hnl C hR hin_
  subst hkl
  show G k E 0 0 0 [some (.ref mo), some (.int (nI a)), none] [] [(mo, .inr (9, [.ref rw, .int (nI n), .int lg, .int sf, .int dg, .ref mh, .ref md, .int un, .ref mk, .ref mt, .int le, .int sm, .ref z1, .ref z2, .ref z3, .long tr, .int at_, .int be, .int rs, .ref y1, .ref y2, .ref y3, .ref y4, .int nu, .int os, .int od, .int sl, .ref ya, .int fpu, .ref yw, .int wn, .ref yp])), aI E rw 168 rf]
  refine g_aload_n C dX9_lifts_0 rfl ?_
  refine g_iload_n C dX9_lifts_1 rfl ?_
  refine g_callV C (c_X9_isStep k.l E mo rw mh md mk mt z1 z2 z3 y1 y2 y3 y4 ya yw yp (nI n) lg sf dg un le sm tr at_ be rs nu os od sl fpu wn (nI a)) kmX9_122 kiX9_isStep ksX9_isStep knX9 kcX9_isStep ⟨rfl, rfl⟩ ⟨rfl, kdX9_isStep⟩ ⟨by decide, by decide⟩ ⟨by decide, by decide⟩ [0] [1] rfl (wr := [aI E rw 168 rf]) rfl (by decide +kernel) (by decide +kernel) (by decide +kernel) 0 9 rfl rfl rfl (As := [.int (nI a)]) (rest := []) rfl (Nat.le_of_ble_eq_true rfl) dX9_lifts_2 (fun rv_ rw_ hp_ => ?_)
  obtain ⟨rfl, rfl⟩ := hp_
  refine g_rep [1, 0] (ws' := [(mo, .inr (9, [.ref rw, .int (nI n), .int lg, .int sf, .int dg, .ref mh, .ref md, .int un, .ref mk, .ref mt, .int le, .int sm, .ref z1, .ref z2, .ref z3, .long tr, .int at_, .int be, .int rs, .ref y1, .ref y2, .ref y3, .ref y4, .int nu, .int os, .int od, .int sl, .ref ya, .int fpu, .ref yw, .int wn, .ref yp])), aI E rw 168 rf]) (st' := [.int (bI (0 ≤ (nI a) ∧ (nI a) ≤ (nI n) - 1))]) (n' := 0) (z' := 0) (pc' := 5) rfl rfl rfl rfl (by decide +kernel) rfl ?_
  refine g_if_ne (tgt := 10) C dX9_lifts_5 (by decide) (fun c5 => ?_) (fun c5 => ?_)
  · skip
    refine g_aload_n C dX9_lifts_10 rfl ?_
    refine g_get C kwX9 0 rfl rfl 0 (by decide) kfX9_7 rfl dX9_lifts_11 ?_
    refine g_iconst (v := 0) C dX9_lifts_14 (by decide) ?_
    refine g_iald C 1 0 rfl (rfl) (by decide) (by decide) dX9_lifts_15 ?_
    refine g_topi (v := nI a) (h0) ?_
    refine g_istore_n (lv' := [some (.ref mo), some (.int (nI a)), some (.int (nI a))]) C dX9_lifts_16 (hnl 2 (by decide)) rfl rfl ?_
    refine g_iload_n C dX9_lifts_17 rfl ?_
    refine g_iload_n C dX9_lifts_18 rfl ?_
    refine g_icmp_ne (tgt := 25) C dX9_lifts_19 (by decide) (fun c19 => ?_) (fun c19 => ?_)
    · skip
      exact absurd rfl c19
    · skip
      refine g_bipush (v := (-2)) C dX9_lifts_22 (by decide) ?_
      exact g_iret C hR (⟨rfl, rfl⟩) dX9_lifts_24
  · skip
    exact absurd (has_t ha (by omega)) (bI_0 c5)

set_option maxHeartbeats 4000000 in
set_option maxRecDepth 100000 in
theorem c_X9_lifts (l : Launch) (E : EX) (mo : Nat) (rw : Nat) (mh : Nat) (md : Nat) (mk : Nat) (mt : Nat) (z1 : Nat) (z2 : Nat) (z3 : Nat) (y1 : Nat) (y2 : Nat) (y3 : Nat) (y4 : Nat) (ya : Nat) (yw : Nat) (yp : Nat) (lg : Int32) (sf : Int32) (dg : Int32) (le : Int32) (sm : Int32) (tr : Int64) (at_ : Int32) (be : Int32) (rs : Int32) (nu : Int32) (os : Int32) (od : Int32) (sl : Int32) (fpu : Int32) (wn : Int32) (n : Nat) (rf : Nat → Int32) (q : Nat) (a : Nat) (u : Nat) (j : Nat) (hn : n ≤ 9) (h0 : rf 0 = nI a) (h1 : rf 1 = nI u) (ha : a ≤ n) (hj : j < n) (hne : ¬ a = j) (hq : q ≤ 10) : Ct l E yX9_lifts cX9_lifts 3 (some .int) (rmL 3 0 0) [.ref mo, .int (nI j)] [(mo, .inr (9, [.ref rw, .int (nI n), .int lg, .int sf, .int dg, .ref mh, .ref md, .int (nI q), .ref mk, .ref mt, .int le, .int sm, .ref z1, .ref z2, .ref z3, .long tr, .int at_, .int be, .int rs, .ref y1, .ref y2, .ref y3, .ref y4, .int nu, .int os, .int od, .int sl, .ref ya, .int fpu, .ref yw, .int wn, .ref yp])), aI E rw 168 rf] (fun (rv_ : Option Value) (rw_ : va_W) => rv_ = some (.int (nI a)) ∧ rw_ = [(mo, .inr (9, [.ref rw, .int (nI n), .int lg, .int sf, .int dg, .ref mh, .ref md, .int (nI (kpN q)), .ref mk, .ref mt, .int le, .int sm, .ref z1, .ref z2, .ref z3, .long tr, .int at_, .int be, .int rs, .ref y1, .ref y2, .ref y3, .ref y4, .int nu, .int os, .int od, .int sl, .ref ya, .int fpu, .ref yw, .int wn, .ref yp])), aI E rw 168 (upd (upd (kpF rf q) 0 (nI j)) 1 0)]) 0 0 := by
  refine Ct_of (by decide) (Nat.le_of_ble_eq_true rfl) ?_
  intro k hkl hnl C hR hin_
  subst hkl
  show G k E 0 0 0 [some (.ref mo), some (.int (nI j)), none] [] [(mo, .inr (9, [.ref rw, .int (nI n), .int lg, .int sf, .int dg, .ref mh, .ref md, .int (nI q), .ref mk, .ref mt, .int le, .int sm, .ref z1, .ref z2, .ref z3, .long tr, .int at_, .int be, .int rs, .ref y1, .ref y2, .ref y3, .ref y4, .int nu, .int os, .int od, .int sl, .ref ya, .int fpu, .ref yw, .int wn, .ref yp])), aI E rw 168 rf]
  refine g_aload_n C dX9_lifts_0 rfl ?_
  refine g_iload_n C dX9_lifts_1 rfl ?_
  refine g_callV C (c_X9_isStep k.l E mo rw mh md mk mt z1 z2 z3 y1 y2 y3 y4 ya yw yp (nI n) lg sf dg (nI q) le sm tr at_ be rs nu os od sl fpu wn (nI j)) kmX9_122 kiX9_isStep ksX9_isStep knX9 kcX9_isStep ⟨rfl, rfl⟩ ⟨rfl, kdX9_isStep⟩ ⟨by decide, by decide⟩ ⟨by decide, by decide⟩ [0] [1] rfl (wr := [aI E rw 168 rf]) rfl (by decide +kernel) (by decide +kernel) (by decide +kernel) 0 9 rfl rfl rfl (As := [.int (nI j)]) (rest := []) rfl (Nat.le_of_ble_eq_true rfl) dX9_lifts_2 (fun rv_ rw_ hp_ => ?_)
  obtain ⟨rfl, rfl⟩ := hp_
  refine g_rep [1, 0] (ws' := [(mo, .inr (9, [.ref rw, .int (nI n), .int lg, .int sf, .int dg, .ref mh, .ref md, .int (nI q), .ref mk, .ref mt, .int le, .int sm, .ref z1, .ref z2, .ref z3, .long tr, .int at_, .int be, .int rs, .ref y1, .ref y2, .ref y3, .ref y4, .int nu, .int os, .int od, .int sl, .ref ya, .int fpu, .ref yw, .int wn, .ref yp])), aI E rw 168 rf]) (st' := [.int (bI (0 ≤ (nI j) ∧ (nI j) ≤ (nI n) - 1))]) (n' := 0) (z' := 0) (pc' := 5) rfl rfl rfl rfl (by decide +kernel) rfl ?_
  refine g_if_ne (tgt := 10) C dX9_lifts_5 (by decide) (fun c5 => ?_) (fun c5 => ?_)
  · skip
    refine g_aload_n C dX9_lifts_10 rfl ?_
    refine g_get C kwX9 0 rfl rfl 0 (by decide) kfX9_7 rfl dX9_lifts_11 ?_
    refine g_iconst (v := 0) C dX9_lifts_14 (by decide) ?_
    refine g_iald C 1 0 rfl (rfl) (by decide) (by decide) dX9_lifts_15 ?_
    refine g_topi (v := nI a) (h0) ?_
    refine g_istore_n (lv' := [some (.ref mo), some (.int (nI j)), some (.int (nI a))]) C dX9_lifts_16 (hnl 2 (by decide)) rfl rfl ?_
    refine g_iload_n C dX9_lifts_17 rfl ?_
    refine g_iload_n C dX9_lifts_18 rfl ?_
    refine g_icmp_ne (tgt := 25) C dX9_lifts_19 (by decide) (fun c19 => ?_) (fun c19 => ?_)
    · skip
      refine g_aload_n C dX9_lifts_25 rfl ?_
      refine g_callV C (c_X9_kp k.l E mo rw mh md mk mt z1 z2 z3 y1 y2 y3 y4 ya yw yp (nI n) lg sf dg le sm tr at_ be rs nu os od sl fpu wn rf q (hq)) kmX9_175 kiX9_keepPast ksX9_keepPast knX9 kcX9_keepPast ⟨rfl, rfl⟩ ⟨rfl, kdX9_keepPast⟩ ⟨by decide, by decide⟩ ⟨by decide, by decide⟩ [0, 1] [] rfl (wr := []) rfl (by decide +kernel) (by decide +kernel) (by decide +kernel) 0 9 rfl rfl rfl (As := []) (rest := []) rfl (Nat.le_of_ble_eq_true rfl) dX9_lifts_26 (fun rv_ rw_ hp_ => ?_)
      obtain ⟨rfl, rfl⟩ := hp_
      refine g_rep [0, 1] (ws' := [(mo, .inr (9, [.ref rw, .int (nI n), .int lg, .int sf, .int dg, .ref mh, .ref md, .int (nI (kpN q)), .ref mk, .ref mt, .int le, .int sm, .ref z1, .ref z2, .ref z3, .long tr, .int at_, .int be, .int rs, .ref y1, .ref y2, .ref y3, .ref y4, .int nu, .int os, .int od, .int sl, .ref ya, .int fpu, .ref yw, .int wn, .ref yp])), aI E rw 168 (kpF rf q)]) (st' := []) (n' := 0) (z' := 0) (pc' := 29) rfl rfl rfl rfl (by decide +kernel) rfl ?_
      refine g_aload_n C dX9_lifts_29 rfl ?_
      refine g_get C kwX9 0 rfl rfl 0 (by decide) kfX9_7 rfl dX9_lifts_30 ?_
      refine g_iconst (v := 0) C dX9_lifts_33 (by decide) ?_
      refine g_iload_n C dX9_lifts_34 rfl ?_
      refine g_iast (ws' := [(mo, .inr (9, [.ref rw, .int (nI n), .int lg, .int sf, .int dg, .ref mh, .ref md, .int (nI (kpN q)), .ref mk, .ref mt, .int le, .int sm, .ref z1, .ref z2, .ref z3, .long tr, .int at_, .int be, .int rs, .ref y1, .ref y2, .ref y3, .ref y4, .int nu, .int os, .int od, .int sl, .ref ya, .int fpu, .ref yw, .int wn, .ref yp])), aI E rw 168 (upd (kpF rf q) 0 (nI j))]) C 1 0 rfl (rfl) (by decide) (by decide) rfl dX9_lifts_35 ?_
      refine g_aload_n C dX9_lifts_36 rfl ?_
      refine g_get C kwX9 0 rfl rfl 0 (by decide) kfX9_7 rfl dX9_lifts_37 ?_
      refine g_iconst (v := 1) C dX9_lifts_40 (by decide) ?_
      refine g_iconst (v := 0) C dX9_lifts_41 (by decide) ?_
      refine g_iast (ws' := [(mo, .inr (9, [.ref rw, .int (nI n), .int lg, .int sf, .int dg, .ref mh, .ref md, .int (nI (kpN q)), .ref mk, .ref mt, .int le, .int sm, .ref z1, .ref z2, .ref z3, .long tr, .int at_, .int be, .int rs, .ref y1, .ref y2, .ref y3, .ref y4, .int nu, .int os, .int od, .int sl, .ref ya, .int fpu, .ref yw, .int wn, .ref yp])), aI E rw 168 (upd (upd (kpF rf q) 0 (nI j)) 1 0)]) C 1 1 rfl (rfl) (by decide) (by decide) rfl dX9_lifts_42 ?_
      refine g_iload_n C dX9_lifts_43 rfl ?_
      exact g_iret C hR (⟨rfl, rfl⟩) dX9_lifts_44
    · skip
      exact absurd ((nI_eq (by omega) (by omega)).mp c19) hne
  · skip
    exact absurd (has_t hj (by omega)) (bI_0 c5)

set_option maxHeartbeats 4000000 in
set_option maxRecDepth 100000 in
theorem c_X9_laysB (l : Launch) (E : EX) (mo : Nat) (rw : Nat) (mh : Nat) (md : Nat) (mk : Nat) (mt : Nat) (z1 : Nat) (z2 : Nat) (z3 : Nat) (y1 : Nat) (y2 : Nat) (y3 : Nat) (y4 : Nat) (ya : Nat) (yw : Nat) (yp : Nat) (st0 : Int32) (lg : Int32) (sf : Int32) (dg : Int32) (un : Int32) (le : Int32) (sm : Int32) (tr : Int64) (at_ : Int32) (be : Int32) (rs : Int32) (nu : Int32) (os : Int32) (od : Int32) (sl : Int32) (fpu : Int32) (wn : Int32) (y : Int32) (z0 : Int32) (hb : ¬ ((0 ≤ y ∧ y ≤ st0 - 1) ∧ (0 ≤ z0 ∧ z0 ≤ 5))) : Ct l E yX9_lays cX9_lays 4 (some .int) (rmL 3 0 0) [.ref mo, .int y, .int z0] [(mo, .inr (9, [.ref rw, .int st0, .int lg, .int sf, .int dg, .ref mh, .ref md, .int un, .ref mk, .ref mt, .int le, .int sm, .ref z1, .ref z2, .ref z3, .long tr, .int at_, .int be, .int rs, .ref y1, .ref y2, .ref y3, .ref y4, .int nu, .int os, .int od, .int sl, .ref ya, .int fpu, .ref yw, .int wn, .ref yp]))] (fun (rv_ : Option Value) (rw_ : va_W) => rv_ = some (.int (-1)) ∧ rw_ = [(mo, .inr (9, [.ref rw, .int st0, .int lg, .int sf, .int dg, .ref mh, .ref md, .int un, .ref mk, .ref mt, .int le, .int sm, .ref z1, .ref z2, .ref z3, .long tr, .int at_, .int be, .int rs, .ref y1, .ref y2, .ref y3, .ref y4, .int nu, .int os, .int od, .int sl, .ref ya, .int fpu, .ref yw, .int wn, .ref yp]))]) 0 0 := by
  refine Ct_of (by decide) (Nat.le_of_ble_eq_true rfl) ?_
  intro k hkl hnl C hR hin_
  subst hkl
  show G k E 0 0 0 [some (.ref mo), some (.int y), some (.int z0), none] [] [(mo, .inr (9, [.ref rw, .int st0, .int lg, .int sf, .int dg, .ref mh, .ref md, .int un, .ref mk, .ref mt, .int le, .int sm, .ref z1, .ref z2, .ref z3, .long tr, .int at_, .int be, .int rs, .ref y1, .ref y2, .ref y3, .ref y4, .int nu, .int os, .int od, .int sl, .ref ya, .int fpu, .ref yw, .int wn, .ref yp]))]
  refine g_aload_n C dX9_lays_0 rfl ?_
  refine g_iload_n C dX9_lays_1 rfl ?_
  refine g_callV C (c_X9_isStep k.l E mo rw mh md mk mt z1 z2 z3 y1 y2 y3 y4 ya yw yp st0 lg sf dg un le sm tr at_ be rs nu os od sl fpu wn y) kmX9_122 kiX9_isStep ksX9_isStep knX9 kcX9_isStep ⟨rfl, rfl⟩ ⟨rfl, kdX9_isStep⟩ ⟨by decide, by decide⟩ ⟨by decide, by decide⟩ [0] [] rfl (wr := []) rfl (by decide +kernel) (by decide +kernel) (by decide +kernel) 0 9 rfl rfl rfl (As := [.int y]) (rest := []) rfl (Nat.le_of_ble_eq_true rfl) dX9_lays_2 (fun rv_ rw_ hp_ => ?_)
  obtain ⟨rfl, rfl⟩ := hp_
  refine g_rep [0] (ws' := [(mo, .inr (9, [.ref rw, .int st0, .int lg, .int sf, .int dg, .ref mh, .ref md, .int un, .ref mk, .ref mt, .int le, .int sm, .ref z1, .ref z2, .ref z3, .long tr, .int at_, .int be, .int rs, .ref y1, .ref y2, .ref y3, .ref y4, .int nu, .int os, .int od, .int sl, .ref ya, .int fpu, .ref yw, .int wn, .ref yp]))]) (st' := [.int (bI (0 ≤ y ∧ y ≤ st0 - 1))]) (n' := 0) (z' := 0) (pc' := 5) rfl rfl rfl rfl (by decide +kernel) rfl ?_
  refine g_if_eq (tgt := 17) C dX9_lays_5 (by decide) (fun c5 => ?_) (fun c5 => ?_)
  · skip
    refine g_iconst (v := (-1)) C dX9_lays_17 (by decide) ?_
    exact g_iret C hR (⟨rfl, rfl⟩) dX9_lays_18
  · skip
    refine g_iload_n C dX9_lays_8 rfl ?_
    refine g_iconst (v := 0) C dX9_lays_9 (by decide) ?_
    refine g_iconst (v := 5) C dX9_lays_10 (by decide) ?_
    refine g_callS C (c_X9_in k.l E z0 0 5) kmX9_69 ktX9_in knX9 kcX9_in ⟨rfl, rfl⟩ kdX9_in ⟨by decide, by decide⟩ ⟨by decide, by decide⟩ [] [0] rfl (wr := [(mo, .inr (9, [.ref rw, .int st0, .int lg, .int sf, .int dg, .ref mh, .ref md, .int un, .ref mk, .ref mt, .int le, .int sm, .ref z1, .ref z2, .ref z3, .long tr, .int at_, .int be, .int rs, .ref y1, .ref y2, .ref y3, .ref y4, .int nu, .int os, .int od, .int sl, .ref ya, .int fpu, .ref yw, .int wn, .ref yp]))]) rfl (by decide +kernel) (by decide +kernel) (by decide +kernel) rfl (As := [.int z0, .int 0, .int 5]) (rest := []) rfl (Nat.le_of_ble_eq_true rfl) dX9_lays_11 (fun rv_ rw_ hp_ => ?_)
    obtain ⟨rfl, rfl⟩ := hp_
    refine g_rep [0] (ws' := [(mo, .inr (9, [.ref rw, .int st0, .int lg, .int sf, .int dg, .ref mh, .ref md, .int un, .ref mk, .ref mt, .int le, .int sm, .ref z1, .ref z2, .ref z3, .long tr, .int at_, .int be, .int rs, .ref y1, .ref y2, .ref y3, .ref y4, .int nu, .int os, .int od, .int sl, .ref ya, .int fpu, .ref yw, .int wn, .ref yp]))]) (st' := [.int (bI (0 ≤ z0 ∧ z0 ≤ 5))]) (n' := 0) (z' := 0) (pc' := 14) rfl rfl rfl rfl (by decide +kernel) rfl ?_
    refine g_if_ne (tgt := 19) C dX9_lays_14 (by decide) (fun c14 => ?_) (fun c14 => ?_)
    · skip
      exact absurd ⟨bI_1 c5, bI_1 c14⟩ hb
    · skip
      refine g_iconst (v := (-1)) C dX9_lays_17 (by decide) ?_
      exact g_iret C hR (⟨rfl, rfl⟩) dX9_lays_18

set_option maxHeartbeats 4000000 in
set_option maxRecDepth 100000 in
theorem c_X9_laysS (l : Launch) (E : EX) (mo : Nat) (rw : Nat) (mh : Nat) (md : Nat) (mk : Nat) (mt : Nat) (z1 : Nat) (z2 : Nat) (z3 : Nat) (y1 : Nat) (y2 : Nat) (y3 : Nat) (y4 : Nat) (ya : Nat) (yw : Nat) (yp : Nat) (lg : Int32) (sf : Int32) (dg : Int32) (un : Int32) (le : Int32) (sm : Int32) (tr : Int64) (at_ : Int32) (be : Int32) (rs : Int32) (nu : Int32) (os : Int32) (od : Int32) (sl : Int32) (fpu : Int32) (wn : Int32) (n : Nat) (rf : Nat → Int32) (j : Nat) (y : Int32) (hn : n ≤ 9) (hj : j < n) (hy : 0 ≤ y ∧ y ≤ 5) (he : rf (3 + j) = y) : Ct l E yX9_lays cX9_lays 4 (some .int) (rmL 3 0 0) [.ref mo, .int (nI j), .int y] [(mo, .inr (9, [.ref rw, .int (nI n), .int lg, .int sf, .int dg, .ref mh, .ref md, .int un, .ref mk, .ref mt, .int le, .int sm, .ref z1, .ref z2, .ref z3, .long tr, .int at_, .int be, .int rs, .ref y1, .ref y2, .ref y3, .ref y4, .int nu, .int os, .int od, .int sl, .ref ya, .int fpu, .ref yw, .int wn, .ref yp])), aI E rw 168 rf] (fun (rv_ : Option Value) (rw_ : va_W) => rv_ = some (.int (-2)) ∧ rw_ = [(mo, .inr (9, [.ref rw, .int (nI n), .int lg, .int sf, .int dg, .ref mh, .ref md, .int un, .ref mk, .ref mt, .int le, .int sm, .ref z1, .ref z2, .ref z3, .long tr, .int at_, .int be, .int rs, .ref y1, .ref y2, .ref y3, .ref y4, .int nu, .int os, .int od, .int sl, .ref ya, .int fpu, .ref yw, .int wn, .ref yp])), aI E rw 168 rf]) 0 0 := by
  refine Ct_of (by decide) (Nat.le_of_ble_eq_true rfl) ?_
  intro k hkl hnl C hR hin_
  subst hkl
  show G k E 0 0 0 [some (.ref mo), some (.int (nI j)), some (.int y), none] [] [(mo, .inr (9, [.ref rw, .int (nI n), .int lg, .int sf, .int dg, .ref mh, .ref md, .int un, .ref mk, .ref mt, .int le, .int sm, .ref z1, .ref z2, .ref z3, .long tr, .int at_, .int be, .int rs, .ref y1, .ref y2, .ref y3, .ref y4, .int nu, .int os, .int od, .int sl, .ref ya, .int fpu, .ref yw, .int wn, .ref yp])), aI E rw 168 rf]
  refine g_aload_n C dX9_lays_0 rfl ?_
  refine g_iload_n C dX9_lays_1 rfl ?_
  refine g_callV C (c_X9_isStep k.l E mo rw mh md mk mt z1 z2 z3 y1 y2 y3 y4 ya yw yp (nI n) lg sf dg un le sm tr at_ be rs nu os od sl fpu wn (nI j)) kmX9_122 kiX9_isStep ksX9_isStep knX9 kcX9_isStep ⟨rfl, rfl⟩ ⟨rfl, kdX9_isStep⟩ ⟨by decide, by decide⟩ ⟨by decide, by decide⟩ [0] [1] rfl (wr := [aI E rw 168 rf]) rfl (by decide +kernel) (by decide +kernel) (by decide +kernel) 0 9 rfl rfl rfl (As := [.int (nI j)]) (rest := []) rfl (Nat.le_of_ble_eq_true rfl) dX9_lays_2 (fun rv_ rw_ hp_ => ?_)
  obtain ⟨rfl, rfl⟩ := hp_
  refine g_rep [1, 0] (ws' := [(mo, .inr (9, [.ref rw, .int (nI n), .int lg, .int sf, .int dg, .ref mh, .ref md, .int un, .ref mk, .ref mt, .int le, .int sm, .ref z1, .ref z2, .ref z3, .long tr, .int at_, .int be, .int rs, .ref y1, .ref y2, .ref y3, .ref y4, .int nu, .int os, .int od, .int sl, .ref ya, .int fpu, .ref yw, .int wn, .ref yp])), aI E rw 168 rf]) (st' := [.int (bI (0 ≤ (nI j) ∧ (nI j) ≤ (nI n) - 1))]) (n' := 0) (z' := 0) (pc' := 5) rfl rfl rfl rfl (by decide +kernel) rfl ?_
  refine g_if_eq (tgt := 17) C dX9_lays_5 (by decide) (fun c5 => ?_) (fun c5 => ?_)
  · skip
    exact absurd (has_t hj (by omega)) (bI_0 c5)
  · skip
    refine g_iload_n C dX9_lays_8 rfl ?_
    refine g_iconst (v := 0) C dX9_lays_9 (by decide) ?_
    refine g_iconst (v := 5) C dX9_lays_10 (by decide) ?_
    refine g_callS C (c_X9_in k.l E y 0 5) kmX9_69 ktX9_in knX9 kcX9_in ⟨rfl, rfl⟩ kdX9_in ⟨by decide, by decide⟩ ⟨by decide, by decide⟩ [] [0, 1] rfl (wr := [(mo, .inr (9, [.ref rw, .int (nI n), .int lg, .int sf, .int dg, .ref mh, .ref md, .int un, .ref mk, .ref mt, .int le, .int sm, .ref z1, .ref z2, .ref z3, .long tr, .int at_, .int be, .int rs, .ref y1, .ref y2, .ref y3, .ref y4, .int nu, .int os, .int od, .int sl, .ref ya, .int fpu, .ref yw, .int wn, .ref yp])), aI E rw 168 rf]) rfl (by decide +kernel) (by decide +kernel) (by decide +kernel) rfl (As := [.int y, .int 0, .int 5]) (rest := []) rfl (Nat.le_of_ble_eq_true rfl) dX9_lays_11 (fun rv_ rw_ hp_ => ?_)
    obtain ⟨rfl, rfl⟩ := hp_
    refine g_rep [0, 1] (ws' := [(mo, .inr (9, [.ref rw, .int (nI n), .int lg, .int sf, .int dg, .ref mh, .ref md, .int un, .ref mk, .ref mt, .int le, .int sm, .ref z1, .ref z2, .ref z3, .long tr, .int at_, .int be, .int rs, .ref y1, .ref y2, .ref y3, .ref y4, .int nu, .int os, .int od, .int sl, .ref ya, .int fpu, .ref yw, .int wn, .ref yp])), aI E rw 168 rf]) (st' := [.int (bI (0 ≤ y ∧ y ≤ 5))]) (n' := 0) (z' := 0) (pc' := 14) rfl rfl rfl rfl (by decide +kernel) rfl ?_
    refine g_if_ne (tgt := 19) C dX9_lays_14 (by decide) (fun c14 => ?_) (fun c14 => ?_)
    · skip
      refine g_aload_n C dX9_lays_19 rfl ?_
      refine g_get C kwX9 0 rfl rfl 0 (by decide) kfX9_7 rfl dX9_lays_20 ?_
      refine g_iconst (v := 3) C dX9_lays_23 (by decide) ?_
      refine g_iload_n C dX9_lays_24 rfl ?_
      refine g_iadd C dX9_lays_25 ?_
      refine g_topi (v := nI (3 + j)) (nI_add 3 _) ?_
      refine g_iald C 1 (3 + j) rfl (rfl) (by omega) (by decide) dX9_lays_26 ?_
      refine g_topi (v := y) (he) ?_
      refine g_istore_n (lv' := [some (.ref mo), some (.int (nI j)), some (.int y), some (.int y)]) C dX9_lays_27 (hnl 3 (by decide)) rfl rfl ?_
      refine g_iload_n C dX9_lays_28 rfl ?_
      refine g_iload_n C dX9_lays_29 rfl ?_
      refine g_icmp_ne (tgt := 36) C dX9_lays_30 (by decide) (fun c30 => ?_) (fun c30 => ?_)
      · skip
        exact absurd rfl c30
      · skip
        refine g_bipush (v := (-2)) C dX9_lays_33 (by decide) ?_
        exact g_iret C hR (⟨rfl, rfl⟩) dX9_lays_35
    · skip
      exact absurd hy (bI_0 c14)

set_option maxHeartbeats 4000000 in
set_option maxRecDepth 100000 in
theorem c_X9_lays (l : Launch) (E : EX) (mo : Nat) (rw : Nat) (mh : Nat) (md : Nat) (mk : Nat) (mt : Nat) (z1 : Nat) (z2 : Nat) (z3 : Nat) (y1 : Nat) (y2 : Nat) (y3 : Nat) (y4 : Nat) (ya : Nat) (yw : Nat) (yp : Nat) (lg : Int32) (sf : Int32) (dg : Int32) (le : Int32) (sm : Int32) (tr : Int64) (at_ : Int32) (be : Int32) (rs : Int32) (nu : Int32) (os : Int32) (od : Int32) (sl : Int32) (fpu : Int32) (wn : Int32) (n : Nat) (rf : Nat → Int32) (q : Nat) (a : Nat) (u : Nat) (j : Nat) (y : Int32) (hn : n ≤ 9) (hj : j < n) (hy : 0 ≤ y ∧ y ≤ 5) (hne : ¬ rf (3 + j) = y) (hq : q ≤ 10) : Ct l E yX9_lays cX9_lays 4 (some .int) (rmL 3 0 0) [.ref mo, .int (nI j), .int y] [(mo, .inr (9, [.ref rw, .int (nI n), .int lg, .int sf, .int dg, .ref mh, .ref md, .int (nI q), .ref mk, .ref mt, .int le, .int sm, .ref z1, .ref z2, .ref z3, .long tr, .int at_, .int be, .int rs, .ref y1, .ref y2, .ref y3, .ref y4, .int nu, .int os, .int od, .int sl, .ref ya, .int fpu, .ref yw, .int wn, .ref yp])), aI E rw 168 rf] (fun (rv_ : Option Value) (rw_ : va_W) => rv_ = some (.int (rf (3 + j))) ∧ rw_ = [(mo, .inr (9, [.ref rw, .int (nI n), .int lg, .int sf, .int dg, .ref mh, .ref md, .int (nI (kpN q)), .ref mk, .ref mt, .int le, .int sm, .ref z1, .ref z2, .ref z3, .long tr, .int at_, .int be, .int rs, .ref y1, .ref y2, .ref y3, .ref y4, .int nu, .int os, .int od, .int sl, .ref ya, .int fpu, .ref yw, .int wn, .ref yp])), aI E rw 168 (upd (kpF rf q) (3 + j) y)]) 0 0 := by
  refine Ct_of (by decide) (Nat.le_of_ble_eq_true rfl) ?_
  intro k hkl hnl C hR hin_
  subst hkl
  show G k E 0 0 0 [some (.ref mo), some (.int (nI j)), some (.int y), none] [] [(mo, .inr (9, [.ref rw, .int (nI n), .int lg, .int sf, .int dg, .ref mh, .ref md, .int (nI q), .ref mk, .ref mt, .int le, .int sm, .ref z1, .ref z2, .ref z3, .long tr, .int at_, .int be, .int rs, .ref y1, .ref y2, .ref y3, .ref y4, .int nu, .int os, .int od, .int sl, .ref ya, .int fpu, .ref yw, .int wn, .ref yp])), aI E rw 168 rf]
  refine g_aload_n C dX9_lays_0 rfl ?_
  refine g_iload_n C dX9_lays_1 rfl ?_
  refine g_callV C (c_X9_isStep k.l E mo rw mh md mk mt z1 z2 z3 y1 y2 y3 y4 ya yw yp (nI n) lg sf dg (nI q) le sm tr at_ be rs nu os od sl fpu wn (nI j)) kmX9_122 kiX9_isStep ksX9_isStep knX9 kcX9_isStep ⟨rfl, rfl⟩ ⟨rfl, kdX9_isStep⟩ ⟨by decide, by decide⟩ ⟨by decide, by decide⟩ [0] [1] rfl (wr := [aI E rw 168 rf]) rfl (by decide +kernel) (by decide +kernel) (by decide +kernel) 0 9 rfl rfl rfl (As := [.int (nI j)]) (rest := []) rfl (Nat.le_of_ble_eq_true rfl) dX9_lays_2 (fun rv_ rw_ hp_ => ?_)
  obtain ⟨rfl, rfl⟩ := hp_
  refine g_rep [1, 0] (ws' := [(mo, .inr (9, [.ref rw, .int (nI n), .int lg, .int sf, .int dg, .ref mh, .ref md, .int (nI q), .ref mk, .ref mt, .int le, .int sm, .ref z1, .ref z2, .ref z3, .long tr, .int at_, .int be, .int rs, .ref y1, .ref y2, .ref y3, .ref y4, .int nu, .int os, .int od, .int sl, .ref ya, .int fpu, .ref yw, .int wn, .ref yp])), aI E rw 168 rf]) (st' := [.int (bI (0 ≤ (nI j) ∧ (nI j) ≤ (nI n) - 1))]) (n' := 0) (z' := 0) (pc' := 5) rfl rfl rfl rfl (by decide +kernel) rfl ?_
  refine g_if_eq (tgt := 17) C dX9_lays_5 (by decide) (fun c5 => ?_) (fun c5 => ?_)
  · skip
    exact absurd (has_t hj (by omega)) (bI_0 c5)
  · skip
    refine g_iload_n C dX9_lays_8 rfl ?_
    refine g_iconst (v := 0) C dX9_lays_9 (by decide) ?_
    refine g_iconst (v := 5) C dX9_lays_10 (by decide) ?_
    refine g_callS C (c_X9_in k.l E y 0 5) kmX9_69 ktX9_in knX9 kcX9_in ⟨rfl, rfl⟩ kdX9_in ⟨by decide, by decide⟩ ⟨by decide, by decide⟩ [] [0, 1] rfl (wr := [(mo, .inr (9, [.ref rw, .int (nI n), .int lg, .int sf, .int dg, .ref mh, .ref md, .int (nI q), .ref mk, .ref mt, .int le, .int sm, .ref z1, .ref z2, .ref z3, .long tr, .int at_, .int be, .int rs, .ref y1, .ref y2, .ref y3, .ref y4, .int nu, .int os, .int od, .int sl, .ref ya, .int fpu, .ref yw, .int wn, .ref yp])), aI E rw 168 rf]) rfl (by decide +kernel) (by decide +kernel) (by decide +kernel) rfl (As := [.int y, .int 0, .int 5]) (rest := []) rfl (Nat.le_of_ble_eq_true rfl) dX9_lays_11 (fun rv_ rw_ hp_ => ?_)
    obtain ⟨rfl, rfl⟩ := hp_
    refine g_rep [0, 1] (ws' := [(mo, .inr (9, [.ref rw, .int (nI n), .int lg, .int sf, .int dg, .ref mh, .ref md, .int (nI q), .ref mk, .ref mt, .int le, .int sm, .ref z1, .ref z2, .ref z3, .long tr, .int at_, .int be, .int rs, .ref y1, .ref y2, .ref y3, .ref y4, .int nu, .int os, .int od, .int sl, .ref ya, .int fpu, .ref yw, .int wn, .ref yp])), aI E rw 168 rf]) (st' := [.int (bI (0 ≤ y ∧ y ≤ 5))]) (n' := 0) (z' := 0) (pc' := 14) rfl rfl rfl rfl (by decide +kernel) rfl ?_
    refine g_if_ne (tgt := 19) C dX9_lays_14 (by decide) (fun c14 => ?_) (fun c14 => ?_)
    · skip
      refine g_aload_n C dX9_lays_19 rfl ?_
      refine g_get C kwX9 0 rfl rfl 0 (by decide) kfX9_7 rfl dX9_lays_20 ?_
      refine g_iconst (v := 3) C dX9_lays_23 (by decide) ?_
      refine g_iload_n C dX9_lays_24 rfl ?_
      refine g_iadd C dX9_lays_25 ?_
      refine g_topi (v := nI (3 + j)) (nI_add 3 _) ?_
      refine g_iald C 1 (3 + j) rfl (rfl) (by omega) (by decide) dX9_lays_26 ?_
      refine g_istore_n (lv' := [some (.ref mo), some (.int (nI j)), some (.int y), some (.int (rf (3 + j)))]) C dX9_lays_27 (hnl 3 (by decide)) rfl rfl ?_
      refine g_iload_n C dX9_lays_28 rfl ?_
      refine g_iload_n C dX9_lays_29 rfl ?_
      refine g_icmp_ne (tgt := 36) C dX9_lays_30 (by decide) (fun c30 => ?_) (fun c30 => ?_)
      · skip
        refine g_aload_n C dX9_lays_36 rfl ?_
        refine g_callV C (c_X9_kp k.l E mo rw mh md mk mt z1 z2 z3 y1 y2 y3 y4 ya yw yp (nI n) lg sf dg le sm tr at_ be rs nu os od sl fpu wn rf q (hq)) kmX9_175 kiX9_keepPast ksX9_keepPast knX9 kcX9_keepPast ⟨rfl, rfl⟩ ⟨rfl, kdX9_keepPast⟩ ⟨by decide, by decide⟩ ⟨by decide, by decide⟩ [0, 1] [] rfl (wr := []) rfl (by decide +kernel) (by decide +kernel) (by decide +kernel) 0 9 rfl rfl rfl (As := []) (rest := []) rfl (Nat.le_of_ble_eq_true rfl) dX9_lays_37 (fun rv_ rw_ hp_ => ?_)
        obtain ⟨rfl, rfl⟩ := hp_
        refine g_rep [0, 1] (ws' := [(mo, .inr (9, [.ref rw, .int (nI n), .int lg, .int sf, .int dg, .ref mh, .ref md, .int (nI (kpN q)), .ref mk, .ref mt, .int le, .int sm, .ref z1, .ref z2, .ref z3, .long tr, .int at_, .int be, .int rs, .ref y1, .ref y2, .ref y3, .ref y4, .int nu, .int os, .int od, .int sl, .ref ya, .int fpu, .ref yw, .int wn, .ref yp])), aI E rw 168 (kpF rf q)]) (st' := []) (n' := 0) (z' := 0) (pc' := 40) rfl rfl rfl rfl (by decide +kernel) rfl ?_
        refine g_aload_n C dX9_lays_40 rfl ?_
        refine g_get C kwX9 0 rfl rfl 0 (by decide) kfX9_7 rfl dX9_lays_41 ?_
        refine g_iconst (v := 3) C dX9_lays_44 (by decide) ?_
        refine g_iload_n C dX9_lays_45 rfl ?_
        refine g_iadd C dX9_lays_46 ?_
        refine g_topi (v := nI (3 + j)) (nI_add 3 _) ?_
        refine g_iload_n C dX9_lays_47 rfl ?_
        refine g_iast (ws' := [(mo, .inr (9, [.ref rw, .int (nI n), .int lg, .int sf, .int dg, .ref mh, .ref md, .int (nI (kpN q)), .ref mk, .ref mt, .int le, .int sm, .ref z1, .ref z2, .ref z3, .long tr, .int at_, .int be, .int rs, .ref y1, .ref y2, .ref y3, .ref y4, .int nu, .int os, .int od, .int sl, .ref ya, .int fpu, .ref yw, .int wn, .ref yp])), aI E rw 168 (upd (kpF rf q) (3 + j) y)]) C 1 (3 + j) rfl (rfl) (by omega) (by decide) rfl dX9_lays_48 ?_
        refine g_iload_n C dX9_lays_49 rfl ?_
        exact g_iret C hR (⟨rfl, rfl⟩) dX9_lays_50
      · skip
        exact absurd c30 hne
    · skip
      exact absurd hy (bI_0 c14)

set_option maxHeartbeats 4000000 in
set_option maxRecDepth 100000 in
theorem c_X9_undoS (l : Launch) (E : EX) (mo : Nat) (rw : Nat) (mh : Nat) (md : Nat) (mk : Nat) (mt : Nat) (z1 : Nat) (z2 : Nat) (z3 : Nat) (y1 : Nat) (y2 : Nat) (y3 : Nat) (y4 : Nat) (ya : Nat) (yw : Nat) (yp : Nat) (st0 : Int32) (lg : Int32) (sf : Int32) (dg : Int32) (le : Int32) (sm : Int32) (tr : Int64) (at_ : Int32) (be : Int32) (rs : Int32) (nu : Int32) (os : Int32) (od : Int32) (sl : Int32) (fpu : Int32) (wn : Int32) : Ct l E yX9_undo cX9_undo 1 (some .int) (rmL 3 0 0) [.ref mo] [(mo, .inr (9, [.ref rw, .int st0, .int lg, .int sf, .int dg, .ref mh, .ref md, .int 0, .ref mk, .ref mt, .int le, .int sm, .ref z1, .ref z2, .ref z3, .long tr, .int at_, .int be, .int rs, .ref y1, .ref y2, .ref y3, .ref y4, .int nu, .int os, .int od, .int sl, .ref ya, .int fpu, .ref yw, .int wn, .ref yp]))] (fun (rv_ : Option Value) (rw_ : va_W) => rv_ = some (.int (-2)) ∧ rw_ = [(mo, .inr (9, [.ref rw, .int st0, .int lg, .int sf, .int dg, .ref mh, .ref md, .int 0, .ref mk, .ref mt, .int le, .int sm, .ref z1, .ref z2, .ref z3, .long tr, .int at_, .int be, .int rs, .ref y1, .ref y2, .ref y3, .ref y4, .int nu, .int os, .int od, .int sl, .ref ya, .int fpu, .ref yw, .int wn, .ref yp]))]) 0 0 := by
  refine Ct_of (by decide) (Nat.le_of_ble_eq_true rfl) ?_
  intro k hkl hnl C hR hin_
  subst hkl
  show G k E 0 0 0 [some (.ref mo)] [] [(mo, .inr (9, [.ref rw, .int st0, .int lg, .int sf, .int dg, .ref mh, .ref md, .int 0, .ref mk, .ref mt, .int le, .int sm, .ref z1, .ref z2, .ref z3, .long tr, .int at_, .int be, .int rs, .ref y1, .ref y2, .ref y3, .ref y4, .int nu, .int os, .int od, .int sl, .ref ya, .int fpu, .ref yw, .int wn, .ref yp]))]
  refine g_aload_n C dX9_undo_0 rfl ?_
  refine g_get C kwX9 0 rfl rfl 7 (by decide) kfX9_116 rfl dX9_undo_1 ?_
  refine g_if_ne (tgt := 10) C dX9_undo_4 (by decide) (fun c4 => ?_) (fun c4 => ?_)
  · skip
    exact absurd rfl c4
  · skip
    refine g_bipush (v := (-2)) C dX9_undo_7 (by decide) ?_
    exact g_iret C hR (⟨rfl, rfl⟩) dX9_undo_9

set_option maxHeartbeats 4000000 in
set_option maxRecDepth 100000 in
theorem c_X9_undo (l : Launch) (E : EX) (mo : Nat) (rw : Nat) (mh : Nat) (md : Nat) (mk : Nat) (mt : Nat) (z1 : Nat) (z2 : Nat) (z3 : Nat) (y1 : Nat) (y2 : Nat) (y3 : Nat) (y4 : Nat) (ya : Nat) (yw : Nat) (yp : Nat) (st0 : Int32) (lg : Int32) (sf : Int32) (dg : Int32) (le : Int32) (sm : Int32) (tr : Int64) (at_ : Int32) (be : Int32) (rs : Int32) (nu : Int32) (os : Int32) (od : Int32) (sl : Int32) (fpu : Int32) (wn : Int32) (rf : Nat → Int32) (q : Nat) (hq : q < 10) : Ct l E yX9_undo cX9_undo 1 (some .int) (rmL 3 0 0) [.ref mo] [(mo, .inr (9, [.ref rw, .int st0, .int lg, .int sf, .int dg, .ref mh, .ref md, .int (nI (q + 1)), .ref mk, .ref mt, .int le, .int sm, .ref z1, .ref z2, .ref z3, .long tr, .int at_, .int be, .int rs, .ref y1, .ref y2, .ref y3, .ref y4, .int nu, .int os, .int od, .int sl, .ref ya, .int fpu, .ref yw, .int wn, .ref yp])), aI E rw 168 rf] (fun (rv_ : Option Value) (rw_ : va_W) => rv_ = some (.int (nI q)) ∧ rw_ = [(mo, .inr (9, [.ref rw, .int st0, .int lg, .int sf, .int dg, .ref mh, .ref md, .int (nI q), .ref mk, .ref mt, .int le, .int sm, .ref z1, .ref z2, .ref z3, .long tr, .int at_, .int be, .int rs, .ref y1, .ref y2, .ref y3, .ref y4, .int nu, .int os, .int od, .int sl, .ref ya, .int fpu, .ref yw, .int wn, .ref yp])), aI E rw 168 (va_cpy rf rf (12 + 12 * q) 0 12)]) 0 0 := by
  refine Ct_of (by decide) (Nat.le_of_ble_eq_true rfl) ?_
  intro k hkl hnl C hR hin_
  subst hkl
  show G k E 0 0 0 [some (.ref mo)] [] [(mo, .inr (9, [.ref rw, .int st0, .int lg, .int sf, .int dg, .ref mh, .ref md, .int (nI (q + 1)), .ref mk, .ref mt, .int le, .int sm, .ref z1, .ref z2, .ref z3, .long tr, .int at_, .int be, .int rs, .ref y1, .ref y2, .ref y3, .ref y4, .int nu, .int os, .int od, .int sl, .ref ya, .int fpu, .ref yw, .int wn, .ref yp])), aI E rw 168 rf]
  refine g_aload_n C dX9_undo_0 rfl ?_
  refine g_get C kwX9 0 rfl rfl 7 (by decide) kfX9_116 rfl dX9_undo_1 ?_
  refine g_if_ne (tgt := 10) C dX9_undo_4 (by decide) (fun c4 => ?_) (fun c4 => ?_)
  · skip
    refine g_aload_n C dX9_undo_10 rfl ?_
    refine g_dup C dX9_undo_11 rfl ?_
    refine g_get C kwX9 0 rfl rfl 7 (by decide) kfX9_116 rfl dX9_undo_12 ?_
    refine g_iconst (v := 1) C dX9_undo_15 (by decide) ?_
    refine g_isub C dX9_undo_16 ?_
    refine g_topi (v := nI q) (nx_pred q) ?_
    refine g_put (ws' := [(mo, .inr (9, [.ref rw, .int st0, .int lg, .int sf, .int dg, .ref mh, .ref md, .int (nI q), .ref mk, .ref mt, .int le, .int sm, .ref z1, .ref z2, .ref z3, .long tr, .int at_, .int be, .int rs, .ref y1, .ref y2, .ref y3, .ref y4, .int nu, .int os, .int od, .int sl, .ref ya, .int fpu, .ref yw, .int wn, .ref yp])), aI E rw 168 rf]) C kwX9 tyX9 tyX9_ok nmX9 0 rfl rfl 7 (by decide) kfX9_116 rfl rfl rfl (Nat.le_of_ble_eq_true rfl) rfl dX9_undo_17 ?_
    refine g_aload_n C dX9_undo_20 rfl ?_
    refine g_bipush (v := 12) C dX9_undo_21 (by decide) ?_
    refine g_bipush (v := 12) C dX9_undo_23 (by decide) ?_
    refine g_aload_n C dX9_undo_25 rfl ?_
    refine g_get C kwX9 0 rfl rfl 7 (by decide) kfX9_116 rfl dX9_undo_26 ?_
    refine g_imul C dX9_undo_29 ?_
    refine g_topi (v := nI (12 * q)) (pk_mul 12 q) ?_
    refine g_iadd C dX9_undo_30 ?_
    refine g_topi (v := nI (12 + 12 * q)) (nI_add 12 _) ?_
    refine g_iconst (v := 0) C dX9_undo_31 (by decide) ?_
    refine g_callV C (c_X9_copyRow k.l E mo rw mh md mk mt z1 z2 z3 y1 y2 y3 y4 ya yw yp st0 lg sf dg (nI q) le sm tr at_ be rs nu os od sl fpu wn rf (12 + 12 * q) 0 (by omega) (by decide) (Or.inl (Nat.zero_le _))) kmX9_145 kiX9_copyRow ksX9_copyRow knX9 kcX9_copyRow ⟨rfl, rfl⟩ ⟨rfl, kdX9_copyRow⟩ ⟨by decide, by decide⟩ ⟨by decide, by decide⟩ [0, 1] [] rfl (wr := []) rfl (by decide +kernel) (by decide +kernel) (by decide +kernel) 0 9 rfl rfl rfl (As := [.int (nI (12 + 12 * q)), .int 0]) (rest := []) rfl (Nat.le_of_ble_eq_true rfl) dX9_undo_32 (fun rv_ rw_ hp_ => ?_)
    obtain ⟨rfl, rfl⟩ := hp_
    refine g_rep [0, 1] (ws' := [(mo, .inr (9, [.ref rw, .int st0, .int lg, .int sf, .int dg, .ref mh, .ref md, .int (nI q), .ref mk, .ref mt, .int le, .int sm, .ref z1, .ref z2, .ref z3, .long tr, .int at_, .int be, .int rs, .ref y1, .ref y2, .ref y3, .ref y4, .int nu, .int os, .int od, .int sl, .ref ya, .int fpu, .ref yw, .int wn, .ref yp])), aI E rw 168 (va_cpy rf rf (12 + 12 * q) 0 12)]) (st' := []) (n' := 0) (z' := 0) (pc' := 35) rfl rfl rfl rfl (by decide +kernel) rfl ?_
    refine g_aload_n C dX9_undo_35 rfl ?_
    refine g_get C kwX9 0 rfl rfl 7 (by decide) kfX9_116 rfl dX9_undo_36 ?_
    exact g_iret C hR (⟨rfl, rfl⟩) dX9_undo_39
  · skip
    exact absurd c4 (by rw [nI_succ]; exact nx_succ_ne (by omega))

set_option maxHeartbeats 4000000 in
set_option maxRecDepth 100000 in
theorem c_X9_forget (l : Launch) (E : EX) (mo : Nat) (rw : Nat) (mh : Nat) (md : Nat) (mk : Nat) (mt : Nat) (z1 : Nat) (z2 : Nat) (z3 : Nat) (y1 : Nat) (y2 : Nat) (y3 : Nat) (y4 : Nat) (ya : Nat) (yw : Nat) (yp : Nat) (st0 : Int32) (lg : Int32) (sf : Int32) (dg : Int32) (un : Int32) (le : Int32) (sm : Int32) (tr : Int64) (at_ : Int32) (be : Int32) (rs : Int32) (nu : Int32) (os : Int32) (od : Int32) (sl : Int32) (fpu : Int32) (wn : Int32) : Ct l E yX9_forget cX9_forget 2 (some .int) (rmL 1 0 0) [.ref mo] [(mo, .inr (9, [.ref rw, .int st0, .int lg, .int sf, .int dg, .ref mh, .ref md, .int un, .ref mk, .ref mt, .int le, .int sm, .ref z1, .ref z2, .ref z3, .long tr, .int at_, .int be, .int rs, .ref y1, .ref y2, .ref y3, .ref y4, .int nu, .int os, .int od, .int sl, .ref ya, .int fpu, .ref yw, .int wn, .ref yp]))] (fun (rv_ : Option Value) (rw_ : va_W) => rv_ = some (.int sm) ∧ rw_ = [(mo, .inr (9, [.ref rw, .int st0, .int lg, .int sf, .int dg, .ref mh, .ref md, .int un, .ref mk, .ref mt, .int le, .int 0, .ref z1, .ref z2, .ref z3, .long tr, .int at_, .int be, .int rs, .ref y1, .ref y2, .ref y3, .ref y4, .int nu, .int os, .int od, .int sl, .ref ya, .int fpu, .ref yw, .int wn, .ref yp]))]) 0 0 := by
  refine Ct_of (by decide) (Nat.le_of_ble_eq_true rfl) ?_
  intro k hkl hnl C hR hin_
  subst hkl
  show G k E 0 0 0 [some (.ref mo), none] [] [(mo, .inr (9, [.ref rw, .int st0, .int lg, .int sf, .int dg, .ref mh, .ref md, .int un, .ref mk, .ref mt, .int le, .int sm, .ref z1, .ref z2, .ref z3, .long tr, .int at_, .int be, .int rs, .ref y1, .ref y2, .ref y3, .ref y4, .int nu, .int os, .int od, .int sl, .ref ya, .int fpu, .ref yw, .int wn, .ref yp]))]
  refine g_aload_n C dX9_forget_0 rfl ?_
  refine g_get C kwX9 0 rfl rfl 11 (by decide) kfX9_119 rfl dX9_forget_1 ?_
  refine g_istore_n (lv' := [some (.ref mo), some (.int sm)]) C dX9_forget_4 (hnl 1 (by decide)) rfl rfl ?_
  refine g_aload_n C dX9_forget_5 rfl ?_
  refine g_iconst (v := 0) C dX9_forget_6 (by decide) ?_
  refine g_put (ws' := [(mo, .inr (9, [.ref rw, .int st0, .int lg, .int sf, .int dg, .ref mh, .ref md, .int un, .ref mk, .ref mt, .int le, .int 0, .ref z1, .ref z2, .ref z3, .long tr, .int at_, .int be, .int rs, .ref y1, .ref y2, .ref y3, .ref y4, .int nu, .int os, .int od, .int sl, .ref ya, .int fpu, .ref yw, .int wn, .ref yp]))]) C kwX9 tyX9 tyX9_ok nmX9 0 rfl rfl 11 (by decide) kfX9_119 rfl rfl rfl (Nat.le_of_ble_eq_true rfl) rfl dX9_forget_7 ?_
  refine g_iload_n C dX9_forget_10 rfl ?_
  exact g_iret C hR (⟨rfl, rfl⟩) dX9_forget_11

set_option maxHeartbeats 4000000 in
set_option maxRecDepth 100000 in
theorem c_X9_count (l : Launch) (E : EX) (mo : Nat) (rw : Nat) (mh : Nat) (md : Nat) (mk : Nat) (mt : Nat) (z1 : Nat) (z2 : Nat) (z3 : Nat) (y1 : Nat) (y2 : Nat) (y3 : Nat) (y4 : Nat) (ya : Nat) (yw : Nat) (yp : Nat) (st0 : Int32) (lg : Int32) (sf : Int32) (dg : Int32) (un : Int32) (le : Int32) (sm : Int32) (tr : Int64) (at_ : Int32) (be : Int32) (rs : Int32) (nu : Int32) (os : Int32) (od : Int32) (sl : Int32) (fpu : Int32) (wn : Int32) (y : Int32) : Ct l E yX9_count cX9_count 2 (some .int) (rmL 1 0 0) [.ref mo, .int y] [(mo, .inr (9, [.ref rw, .int st0, .int lg, .int sf, .int dg, .ref mh, .ref md, .int un, .ref mk, .ref mt, .int le, .int sm, .ref z1, .ref z2, .ref z3, .long tr, .int at_, .int be, .int rs, .ref y1, .ref y2, .ref y3, .ref y4, .int nu, .int os, .int od, .int sl, .ref ya, .int fpu, .ref yw, .int wn, .ref yp]))] (fun (rv_ : Option Value) (rw_ : va_W) => rv_ = some (.int (if y = 0 then st0 else if y = 1 then lg else if y = 2 then sf else if y = 3 then dg else if y = 4 then sm else if y = 5 then le else -1)) ∧ rw_ = [(mo, .inr (9, [.ref rw, .int st0, .int lg, .int sf, .int dg, .ref mh, .ref md, .int un, .ref mk, .ref mt, .int le, .int sm, .ref z1, .ref z2, .ref z3, .long tr, .int at_, .int be, .int rs, .ref y1, .ref y2, .ref y3, .ref y4, .int nu, .int os, .int od, .int sl, .ref ya, .int fpu, .ref yw, .int wn, .ref yp]))]) 0 0 := by
  refine Ct_of (by decide) (Nat.le_of_ble_eq_true rfl) ?_
  intro k hkl hnl C hR hin_
  subst hkl
  show G k E 0 0 0 [some (.ref mo), some (.int y)] [] [(mo, .inr (9, [.ref rw, .int st0, .int lg, .int sf, .int dg, .ref mh, .ref md, .int un, .ref mk, .ref mt, .int le, .int sm, .ref z1, .ref z2, .ref z3, .long tr, .int at_, .int be, .int rs, .ref y1, .ref y2, .ref y3, .ref y4, .int nu, .int os, .int od, .int sl, .ref ya, .int fpu, .ref yw, .int wn, .ref yp]))]
  refine g_iload_n C dX9_count_0 rfl ?_
  by_cases h0 : y = 0
  · skip
    refine g_tin (off := 39) (tgt := 40) C dX9_count_1 (by rw [h0]; decide) (by rw [h0]; decide) (by rw [h0]; decide) (by decide) ?_
    refine g_aload_n C dX9_count_40 rfl ?_
    refine g_get C kwX9 0 rfl rfl 1 (by decide) kfX9_66 rfl dX9_count_41 ?_
    exact g_iret C hR (⟨by rw [if_pos h0], rfl⟩) dX9_count_44
  · skip
    by_cases h1 : y = 1
    · skip
      refine g_tin (off := 44) (tgt := 45) C dX9_count_1 (by rw [h1]; decide) (by rw [h1]; decide) (by rw [h1]; decide) (by decide) ?_
      refine g_aload_n C dX9_count_45 rfl ?_
      refine g_get C kwX9 0 rfl rfl 2 (by decide) kfX9_13 rfl dX9_count_46 ?_
      exact g_iret C hR (⟨by rw [if_neg h0, if_pos h1], rfl⟩) dX9_count_49
    · skip
      by_cases h2 : y = 2
      · skip
        refine g_tin (off := 49) (tgt := 50) C dX9_count_1 (by rw [h2]; decide) (by rw [h2]; decide) (by rw [h2]; decide) (by decide) ?_
        refine g_aload_n C dX9_count_50 rfl ?_
        refine g_get C kwX9 0 rfl rfl 3 (by decide) kfX9_17 rfl dX9_count_51 ?_
        exact g_iret C hR (⟨by rw [if_neg h0, if_neg h1, if_pos h2], rfl⟩) dX9_count_54
      · skip
        by_cases h3 : y = 3
        · skip
          refine g_tin (off := 54) (tgt := 55) C dX9_count_1 (by rw [h3]; decide) (by rw [h3]; decide) (by rw [h3]; decide) (by decide) ?_
          refine g_aload_n C dX9_count_55 rfl ?_
          refine g_get C kwX9 0 rfl rfl 4 (by decide) kfX9_20 rfl dX9_count_56 ?_
          exact g_iret C hR (⟨by rw [if_neg h0, if_neg h1, if_neg h2, if_pos h3], rfl⟩) dX9_count_59
        · skip
          by_cases h4 : y = 4
          · skip
            refine g_tin (off := 59) (tgt := 60) C dX9_count_1 (by rw [h4]; decide) (by rw [h4]; decide) (by rw [h4]; decide) (by decide) ?_
            refine g_aload_n C dX9_count_60 rfl ?_
            refine g_get C kwX9 0 rfl rfl 11 (by decide) kfX9_119 rfl dX9_count_61 ?_
            exact g_iret C hR (⟨by rw [if_neg h0, if_neg h1, if_neg h2, if_neg h3, if_pos h4], rfl⟩) dX9_count_64
          · skip
            by_cases h5 : y = 5
            · skip
              refine g_tin (off := 64) (tgt := 65) C dX9_count_1 (by rw [h5]; decide) (by rw [h5]; decide) (by rw [h5]; decide) (by decide) ?_
              refine g_aload_n C dX9_count_65 rfl ?_
              refine g_get C kwX9 0 rfl rfl 10 (by decide) kfX9_73 rfl dX9_count_66 ?_
              exact g_iret C hR (⟨by rw [if_neg h0, if_neg h1, if_neg h2, if_neg h3, if_neg h4, if_pos h5], rfl⟩) dX9_count_69
            · skip
              refine g_tout (tgt := 70) C dX9_count_1 (by have q0 := lv_neT h0 (by decide : (0 : Int32).toInt = 0); have q1 := lv_neT h1 (by decide : (1 : Int32).toInt = 1); have q2 := lv_neT h2 (by decide : (2 : Int32).toInt = 2); have q3 := lv_neT h3 (by decide : (3 : Int32).toInt = 3); have q4 := lv_neT h4 (by decide : (4 : Int32).toInt = 4); have q5 := lv_neT h5 (by decide : (5 : Int32).toInt = 5); omega) (by decide) ?_
              refine g_iconst (v := (-1)) C dX9_count_70 (by decide) ?_
              exact g_iret C hR (⟨by rw [if_neg h0, if_neg h1, if_neg h2, if_neg h3, if_neg h4, if_neg h5], rfl⟩) dX9_count_71

set_option maxHeartbeats 4000000 in
set_option maxRecDepth 100000 in
theorem c_X9_trace (l : Launch) (E : EX) (mo : Nat) (rw : Nat) (mh : Nat) (md : Nat) (mk : Nat) (mt : Nat) (z1 : Nat) (z2 : Nat) (z3 : Nat) (y1 : Nat) (y2 : Nat) (y3 : Nat) (y4 : Nat) (ya : Nat) (yw : Nat) (yp : Nat) (st0 : Int32) (lg : Int32) (sf : Int32) (dg : Int32) (un : Int32) (le : Int32) (sm : Int32) (tr : Int64) (at_ : Int32) (be : Int32) (rs : Int32) (nu : Int32) (os : Int32) (od : Int32) (sl : Int32) (fpu : Int32) (wn : Int32) : Ct l E yX9_trace cX9_trace 1 (some .long) (rmL 1 0 0) [.ref mo] [(mo, .inr (9, [.ref rw, .int st0, .int lg, .int sf, .int dg, .ref mh, .ref md, .int un, .ref mk, .ref mt, .int le, .int sm, .ref z1, .ref z2, .ref z3, .long tr, .int at_, .int be, .int rs, .ref y1, .ref y2, .ref y3, .ref y4, .int nu, .int os, .int od, .int sl, .ref ya, .int fpu, .ref yw, .int wn, .ref yp]))] (fun (rv_ : Option Value) (rw_ : va_W) => rv_ = some (.long tr) ∧ rw_ = [(mo, .inr (9, [.ref rw, .int st0, .int lg, .int sf, .int dg, .ref mh, .ref md, .int un, .ref mk, .ref mt, .int le, .int sm, .ref z1, .ref z2, .ref z3, .long tr, .int at_, .int be, .int rs, .ref y1, .ref y2, .ref y3, .ref y4, .int nu, .int os, .int od, .int sl, .ref ya, .int fpu, .ref yw, .int wn, .ref yp]))]) 0 0 := by
  refine Ct_of (by decide) (Nat.le_of_ble_eq_true rfl) ?_
  intro k hkl hnl C hR hin_
  subst hkl
  show G k E 0 0 0 [some (.ref mo)] [] [(mo, .inr (9, [.ref rw, .int st0, .int lg, .int sf, .int dg, .ref mh, .ref md, .int un, .ref mk, .ref mt, .int le, .int sm, .ref z1, .ref z2, .ref z3, .long tr, .int at_, .int be, .int rs, .ref y1, .ref y2, .ref y3, .ref y4, .int nu, .int os, .int od, .int sl, .ref ya, .int fpu, .ref yw, .int wn, .ref yp]))]
  refine g_aload_n C dX9_trace_0 rfl ?_
  refine g_get C kwX9 0 rfl rfl 15 (by decide) kfX9_191 rfl dX9_trace_1 ?_
  exact g_lret C hR (⟨rfl, rfl⟩) dX9_trace_4

set_option maxHeartbeats 4000000 in
set_option maxRecDepth 100000 in
theorem c_X9_coilRate (l : Launch) (E : EX) (mo : Nat) (rw : Nat) (mh : Nat) (md : Nat) (mk : Nat) (mt : Nat) (z1 : Nat) (z2 : Nat) (z3 : Nat) (y1 : Nat) (y2 : Nat) (y3 : Nat) (y4 : Nat) (ya : Nat) (yw : Nat) (yp : Nat) (lg : Int32) (sf : Int32) (dg : Int32) (un : Int32) (le : Int32) (sm : Int32) (tr : Int64) (at_ : Int32) (be : Int32) (rs : Int32) (nu : Int32) (os : Int32) (od : Int32) (sl : Int32) (fpu : Int32) (wn : Int32) (n : Nat) (hi : Nat → Int32) (de : Nat → Int32) (rf : Nat → Int32) (j : Nat) (hn : n ≤ 9) (hj : j < n) : Ct l E yX9_coilRate cX9_coilRate 2 (some .int) (rmL 1 0 0) [.ref mo, .int (nI j)] [(mo, .inr (9, [.ref rw, .int (nI n), .int lg, .int sf, .int dg, .ref mh, .ref md, .int un, .ref mk, .ref mt, .int le, .int sm, .ref z1, .ref z2, .ref z3, .long tr, .int at_, .int be, .int rs, .ref y1, .ref y2, .ref y3, .ref y4, .int nu, .int os, .int od, .int sl, .ref ya, .int fpu, .ref yw, .int wn, .ref yp])), aI E rw 168 rf, aI E mh 9 hi, aI E md 9 de] (fun (rv_ : Option Value) (rw_ : va_W) => rv_ = some (.int (hi j)) ∧ rw_ = [(mo, .inr (9, [.ref rw, .int (nI n), .int lg, .int sf, .int dg, .ref mh, .ref md, .int un, .ref mk, .ref mt, .int le, .int sm, .ref z1, .ref z2, .ref z3, .long (tr + 1), .int at_, .int be, .int rs, .ref y1, .ref y2, .ref y3, .ref y4, .int nu, .int os, .int od, .int sl, .ref ya, .int fpu, .ref yw, .int wn, .ref yp])), aI E rw 168 rf, aI E mh 9 hi, aI E md 9 de]) 0 0 := by
  refine Ct_of (by decide) (Nat.le_of_ble_eq_true rfl) ?_
  intro k hkl hnl C hR hin_
  subst hkl
  show G k E 0 0 0 [some (.ref mo), some (.int (nI j))] [] [(mo, .inr (9, [.ref rw, .int (nI n), .int lg, .int sf, .int dg, .ref mh, .ref md, .int un, .ref mk, .ref mt, .int le, .int sm, .ref z1, .ref z2, .ref z3, .long tr, .int at_, .int be, .int rs, .ref y1, .ref y2, .ref y3, .ref y4, .int nu, .int os, .int od, .int sl, .ref ya, .int fpu, .ref yw, .int wn, .ref yp])), aI E rw 168 rf, aI E mh 9 hi, aI E md 9 de]
  refine g_aload_n C dX9_coilRate_0 rfl ?_
  refine g_dup C dX9_coilRate_1 rfl ?_
  refine g_get C kwX9 0 rfl rfl 15 (by decide) kfX9_191 rfl dX9_coilRate_2 ?_
  refine g_lconst (v := 1) C dX9_coilRate_5 rfl ?_
  refine g_ladd C dX9_coilRate_6 ?_
  refine g_put (ws' := [(mo, .inr (9, [.ref rw, .int (nI n), .int lg, .int sf, .int dg, .ref mh, .ref md, .int un, .ref mk, .ref mt, .int le, .int sm, .ref z1, .ref z2, .ref z3, .long (tr + 1), .int at_, .int be, .int rs, .ref y1, .ref y2, .ref y3, .ref y4, .int nu, .int os, .int od, .int sl, .ref ya, .int fpu, .ref yw, .int wn, .ref yp])), aI E rw 168 rf, aI E mh 9 hi, aI E md 9 de]) C kwX9 tyX9 tyX9_ok nmX9 0 rfl rfl 15 (by decide) kfX9_191 rfl rfl rfl (Nat.le_of_ble_eq_true rfl) rfl dX9_coilRate_7 ?_
  refine g_aload_n C dX9_coilRate_10 rfl ?_
  refine g_get C kwX9 0 rfl rfl 5 (by decide) kfX9_23 rfl dX9_coilRate_11 ?_
  refine g_iload_n C dX9_coilRate_14 rfl ?_
  refine g_iald C 2 j rfl (rfl) (by omega) (by decide) dX9_coilRate_15 ?_
  exact g_iret C hR (⟨rfl, rfl⟩) dX9_coilRate_16

set_option maxHeartbeats 4000000 in
set_option maxRecDepth 100000 in
theorem c_X9_brassRate (l : Launch) (E : EX) (mo : Nat) (rw : Nat) (mh : Nat) (md : Nat) (mk : Nat) (mt : Nat) (z1 : Nat) (z2 : Nat) (z3 : Nat) (y1 : Nat) (y2 : Nat) (y3 : Nat) (y4 : Nat) (ya : Nat) (yw : Nat) (yp : Nat) (lg : Int32) (sf : Int32) (dg : Int32) (un : Int32) (le : Int32) (sm : Int32) (tr : Int64) (at_ : Int32) (be : Int32) (rs : Int32) (nu : Int32) (os : Int32) (od : Int32) (sl : Int32) (fpu : Int32) (wn : Int32) (n : Nat) (hi : Nat → Int32) (de : Nat → Int32) (rf : Nat → Int32) (j : Nat) (hn : n ≤ 9) (hj : j < n) : Ct l E yX9_brassRate cX9_brassRate 2 (some .int) (rmL 2 0 0) [.ref mo, .int (nI j)] [(mo, .inr (9, [.ref rw, .int (nI n), .int lg, .int sf, .int dg, .ref mh, .ref md, .int un, .ref mk, .ref mt, .int le, .int sm, .ref z1, .ref z2, .ref z3, .long tr, .int at_, .int be, .int rs, .ref y1, .ref y2, .ref y3, .ref y4, .int nu, .int os, .int od, .int sl, .ref ya, .int fpu, .ref yw, .int wn, .ref yp])), aI E rw 168 rf, aI E mh 9 hi, aI E md 9 de] (fun (rv_ : Option Value) (rw_ : va_W) => rv_ = some (.int (hi j + de j)) ∧ rw_ = [(mo, .inr (9, [.ref rw, .int (nI n), .int lg, .int sf, .int dg, .ref mh, .ref md, .int un, .ref mk, .ref mt, .int le, .int sm, .ref z1, .ref z2, .ref z3, .long ((tr + 10) + 1), .int at_, .int be, .int rs, .ref y1, .ref y2, .ref y3, .ref y4, .int nu, .int os, .int od, .int sl, .ref ya, .int fpu, .ref yw, .int wn, .ref yp])), aI E rw 168 rf, aI E mh 9 hi, aI E md 9 de]) 0 0 := by
  refine Ct_of (by decide) (Nat.le_of_ble_eq_true rfl) ?_
  intro k hkl hnl C hR hin_
  subst hkl
  show G k E 0 0 0 [some (.ref mo), some (.int (nI j))] [] [(mo, .inr (9, [.ref rw, .int (nI n), .int lg, .int sf, .int dg, .ref mh, .ref md, .int un, .ref mk, .ref mt, .int le, .int sm, .ref z1, .ref z2, .ref z3, .long tr, .int at_, .int be, .int rs, .ref y1, .ref y2, .ref y3, .ref y4, .int nu, .int os, .int od, .int sl, .ref ya, .int fpu, .ref yw, .int wn, .ref yp])), aI E rw 168 rf, aI E mh 9 hi, aI E md 9 de]
  refine g_aload_n C dX9_brassRate_0 rfl ?_
  refine g_dup C dX9_brassRate_1 rfl ?_
  refine g_get C kwX9 0 rfl rfl 15 (by decide) kfX9_191 rfl dX9_brassRate_2 ?_
  refine g_ldc2 C dX9_brassRate_5 kkX9_195 ?_
  refine g_ladd C dX9_brassRate_8 ?_
  refine g_put (ws' := [(mo, .inr (9, [.ref rw, .int (nI n), .int lg, .int sf, .int dg, .ref mh, .ref md, .int un, .ref mk, .ref mt, .int le, .int sm, .ref z1, .ref z2, .ref z3, .long (tr + 10), .int at_, .int be, .int rs, .ref y1, .ref y2, .ref y3, .ref y4, .int nu, .int os, .int od, .int sl, .ref ya, .int fpu, .ref yw, .int wn, .ref yp])), aI E rw 168 rf, aI E mh 9 hi, aI E md 9 de]) C kwX9 tyX9 tyX9_ok nmX9 0 rfl rfl 15 (by decide) kfX9_191 rfl rfl rfl (Nat.le_of_ble_eq_true rfl) rfl dX9_brassRate_9 ?_
  refine g_aload_n C dX9_brassRate_12 rfl ?_
  refine g_iload_n C dX9_brassRate_13 rfl ?_
  refine g_callV C (c_X9_coilRate k.l E mo rw mh md mk mt z1 z2 z3 y1 y2 y3 y4 ya yw yp lg sf dg un le sm (tr + 10) at_ be rs nu os od sl fpu wn n hi de rf j (by first | assumption | omega) (by first | assumption | omega)) kmX9_197 kiX9_coilRate ksX9_coilRate knX9 kcX9_coilRate ⟨rfl, rfl⟩ ⟨rfl, kdX9_coilRate⟩ ⟨by decide, by decide⟩ ⟨by decide, by decide⟩ [0, 1, 2, 3] [] rfl (wr := []) rfl (by decide +kernel) (by decide +kernel) (by decide +kernel) 0 9 rfl rfl rfl (As := [.int (nI j)]) (rest := []) rfl (Nat.le_of_ble_eq_true rfl) dX9_brassRate_14 (fun rv_ rw_ hp_ => ?_)
  obtain ⟨rfl, rfl⟩ := hp_
  refine g_rep [0, 1, 2, 3] (ws' := [(mo, .inr (9, [.ref rw, .int (nI n), .int lg, .int sf, .int dg, .ref mh, .ref md, .int un, .ref mk, .ref mt, .int le, .int sm, .ref z1, .ref z2, .ref z3, .long ((tr + 10) + 1), .int at_, .int be, .int rs, .ref y1, .ref y2, .ref y3, .ref y4, .int nu, .int os, .int od, .int sl, .ref ya, .int fpu, .ref yw, .int wn, .ref yp])), aI E rw 168 rf, aI E mh 9 hi, aI E md 9 de]) (st' := [.int (hi j)]) (n' := 0) (z' := 0) (pc' := 17) rfl rfl rfl rfl (by decide +kernel) rfl ?_
  refine g_aload_n C dX9_brassRate_17 rfl ?_
  refine g_get C kwX9 0 rfl rfl 6 (by decide) kfX9_26 rfl dX9_brassRate_18 ?_
  refine g_iload_n C dX9_brassRate_21 rfl ?_
  refine g_iald C 3 j rfl (rfl) (by omega) (by decide) dX9_brassRate_22 ?_
  refine g_iadd C dX9_brassRate_23 ?_
  exact g_iret C hR (⟨rfl, rfl⟩) dX9_brassRate_24

set_option maxHeartbeats 4000000 in
set_option maxRecDepth 100000 in
theorem c_X9_paperRate (l : Launch) (E : EX) (mo : Nat) (rw : Nat) (mh : Nat) (md : Nat) (mk : Nat) (mt : Nat) (z1 : Nat) (z2 : Nat) (z3 : Nat) (y1 : Nat) (y2 : Nat) (y3 : Nat) (y4 : Nat) (ya : Nat) (yw : Nat) (yp : Nat) (lg : Int32) (sf : Int32) (dg : Int32) (un : Int32) (le : Int32) (sm : Int32) (tr : Int64) (at_ : Int32) (be : Int32) (rs : Int32) (nu : Int32) (os : Int32) (od : Int32) (sl : Int32) (fpu : Int32) (wn : Int32) (n : Nat) (hi : Nat → Int32) (de : Nat → Int32) (rf : Nat → Int32) (j : Nat) (hn : n ≤ 9) (hj : j < n) : Ct l E yX9_paperRate cX9_paperRate 2 (some .int) (rmL 2 0 0) [.ref mo, .int (nI j)] [(mo, .inr (9, [.ref rw, .int (nI n), .int lg, .int sf, .int dg, .ref mh, .ref md, .int un, .ref mk, .ref mt, .int le, .int sm, .ref z1, .ref z2, .ref z3, .long tr, .int at_, .int be, .int rs, .ref y1, .ref y2, .ref y3, .ref y4, .int nu, .int os, .int od, .int sl, .ref ya, .int fpu, .ref yw, .int wn, .ref yp])), aI E rw 168 rf, aI E mh 9 hi, aI E md 9 de] (fun (rv_ : Option Value) (rw_ : va_W) => rv_ = some (.int (hi j - 2 * rf (3 + j))) ∧ rw_ = [(mo, .inr (9, [.ref rw, .int (nI n), .int lg, .int sf, .int dg, .ref mh, .ref md, .int un, .ref mk, .ref mt, .int le, .int sm, .ref z1, .ref z2, .ref z3, .long ((tr + 100) + 1), .int at_, .int be, .int rs, .ref y1, .ref y2, .ref y3, .ref y4, .int nu, .int os, .int od, .int sl, .ref ya, .int fpu, .ref yw, .int wn, .ref yp])), aI E rw 168 rf, aI E mh 9 hi, aI E md 9 de]) 0 0 := by
  refine Ct_of (by decide) (Nat.le_of_ble_eq_true rfl) ?_
  intro k hkl hnl C hR hin_
  subst hkl
  show G k E 0 0 0 [some (.ref mo), some (.int (nI j))] [] [(mo, .inr (9, [.ref rw, .int (nI n), .int lg, .int sf, .int dg, .ref mh, .ref md, .int un, .ref mk, .ref mt, .int le, .int sm, .ref z1, .ref z2, .ref z3, .long tr, .int at_, .int be, .int rs, .ref y1, .ref y2, .ref y3, .ref y4, .int nu, .int os, .int od, .int sl, .ref ya, .int fpu, .ref yw, .int wn, .ref yp])), aI E rw 168 rf, aI E mh 9 hi, aI E md 9 de]
  refine g_aload_n C dX9_paperRate_0 rfl ?_
  refine g_dup C dX9_paperRate_1 rfl ?_
  refine g_get C kwX9 0 rfl rfl 15 (by decide) kfX9_191 rfl dX9_paperRate_2 ?_
  refine g_ldc2 C dX9_paperRate_5 kkX9_200 ?_
  refine g_ladd C dX9_paperRate_8 ?_
  refine g_put (ws' := [(mo, .inr (9, [.ref rw, .int (nI n), .int lg, .int sf, .int dg, .ref mh, .ref md, .int un, .ref mk, .ref mt, .int le, .int sm, .ref z1, .ref z2, .ref z3, .long (tr + 100), .int at_, .int be, .int rs, .ref y1, .ref y2, .ref y3, .ref y4, .int nu, .int os, .int od, .int sl, .ref ya, .int fpu, .ref yw, .int wn, .ref yp])), aI E rw 168 rf, aI E mh 9 hi, aI E md 9 de]) C kwX9 tyX9 tyX9_ok nmX9 0 rfl rfl 15 (by decide) kfX9_191 rfl rfl rfl (Nat.le_of_ble_eq_true rfl) rfl dX9_paperRate_9 ?_
  refine g_aload_n C dX9_paperRate_12 rfl ?_
  refine g_iload_n C dX9_paperRate_13 rfl ?_
  refine g_callV C (c_X9_coilRate k.l E mo rw mh md mk mt z1 z2 z3 y1 y2 y3 y4 ya yw yp lg sf dg un le sm (tr + 100) at_ be rs nu os od sl fpu wn n hi de rf j (by first | assumption | omega) (by first | assumption | omega)) kmX9_197 kiX9_coilRate ksX9_coilRate knX9 kcX9_coilRate ⟨rfl, rfl⟩ ⟨rfl, kdX9_coilRate⟩ ⟨by decide, by decide⟩ ⟨by decide, by decide⟩ [0, 1, 2, 3] [] rfl (wr := []) rfl (by decide +kernel) (by decide +kernel) (by decide +kernel) 0 9 rfl rfl rfl (As := [.int (nI j)]) (rest := []) rfl (Nat.le_of_ble_eq_true rfl) dX9_paperRate_14 (fun rv_ rw_ hp_ => ?_)
  obtain ⟨rfl, rfl⟩ := hp_
  refine g_rep [0, 1, 2, 3] (ws' := [(mo, .inr (9, [.ref rw, .int (nI n), .int lg, .int sf, .int dg, .ref mh, .ref md, .int un, .ref mk, .ref mt, .int le, .int sm, .ref z1, .ref z2, .ref z3, .long ((tr + 100) + 1), .int at_, .int be, .int rs, .ref y1, .ref y2, .ref y3, .ref y4, .int nu, .int os, .int od, .int sl, .ref ya, .int fpu, .ref yw, .int wn, .ref yp])), aI E rw 168 rf, aI E mh 9 hi, aI E md 9 de]) (st' := [.int (hi j)]) (n' := 0) (z' := 0) (pc' := 17) rfl rfl rfl rfl (by decide +kernel) rfl ?_
  refine g_iconst (v := 2) C dX9_paperRate_17 (by decide) ?_
  refine g_aload_n C dX9_paperRate_18 rfl ?_
  refine g_get C kwX9 0 rfl rfl 0 (by decide) kfX9_7 rfl dX9_paperRate_19 ?_
  refine g_iconst (v := 3) C dX9_paperRate_22 (by decide) ?_
  refine g_iload_n C dX9_paperRate_23 rfl ?_
  refine g_iadd C dX9_paperRate_24 ?_
  refine g_topi (v := nI (3 + j)) (nI_add 3 _) ?_
  refine g_iald C 1 (3 + j) rfl (rfl) (by omega) (by decide) dX9_paperRate_25 ?_
  refine g_imul C dX9_paperRate_26 ?_
  refine g_isub C dX9_paperRate_27 ?_
  exact g_iret C hR (⟨rfl, rfl⟩) dX9_paperRate_28

theorem in5_ {y : Int32} (h : 0 ≤ y ∧ y ≤ 5) (h1 : ¬ y = 1) (h2 : ¬ y = 2) (h3 : ¬ y = 3) (h4 : ¬ y = 4) (h5 : ¬ y = 5) : y = 0 := by
  obtain ⟨j, hj, rfl⟩ := (in_iff (n := 5) (by decide)).mp h
  match j, hj with
  | 0, _ => rfl
  | 1, _ => exact absurd rfl h1
  | 2, _ => exact absurd rfl h2
  | 3, _ => exact absurd rfl h3
  | 4, _ => exact absurd rfl h4
  | 5, _ => exact absurd rfl h5
  | j + 6, q => omega

set_option maxHeartbeats 4000000 in
set_option maxRecDepth 100000 in
theorem c_X9_rate (l : Launch) (E : EX) (mo : Nat) (rw : Nat) (mh : Nat) (md : Nat) (mk : Nat) (mt : Nat) (z1 : Nat) (z2 : Nat) (z3 : Nat) (y1 : Nat) (y2 : Nat) (y3 : Nat) (y4 : Nat) (ya : Nat) (yw : Nat) (yp : Nat) (lg : Int32) (sf : Int32) (dg : Int32) (un : Int32) (le : Int32) (sm : Int32) (tr : Int64) (at_ : Int32) (be : Int32) (rs : Int32) (nu : Int32) (os : Int32) (od : Int32) (sl : Int32) (fpu : Int32) (wn : Int32) (n : Nat) (hi : Nat → Int32) (de : Nat → Int32) (rf : Nat → Int32) (j : Nat) (y : Int32) (hn : n ≤ 9) (hj : j < n) (hy : 0 ≤ y ∧ y ≤ 5) : Ct l E yX9_rate cX9_rate 3 (some .int) (rmL 4 0 0) [.ref mo, .int y, .int (nI j)] [(mo, .inr (9, [.ref rw, .int (nI n), .int lg, .int sf, .int dg, .ref mh, .ref md, .int un, .ref mk, .ref mt, .int le, .int sm, .ref z1, .ref z2, .ref z3, .long tr, .int at_, .int be, .int rs, .ref y1, .ref y2, .ref y3, .ref y4, .int nu, .int os, .int od, .int sl, .ref ya, .int fpu, .ref yw, .int wn, .ref yp])), aI E rw 168 rf, aI E mh 9 hi, aI E md 9 de] (fun (rv_ : Option Value) (rw_ : va_W) => rv_ = some (.int (if y = 0 then hi j else if y = 1 then hi j + de j else if y = 2 then hi j - 2 * rf (3 + j) else if y = 3 then 2 * (hi j + de j) else if y = 4 then (hi j - 2 * rf (3 + j)) + nI j else if y = 5 then hi j + rf 1 else -1000000)) ∧ rw_ = [(mo, .inr (9, [.ref rw, .int (nI n), .int lg, .int sf, .int dg, .ref mh, .ref md, .int un, .ref mk, .ref mt, .int le, .int sm, .ref z1, .ref z2, .ref z3, .long (if y = 0 then tr + 1 else if y = 1 then (tr + 10) + 1 else if y = 2 then (tr + 100) + 1 else if y = 3 then ((tr + 1000) + 10) + 1 else if y = 4 then ((tr + 10000) + 100) + 1 else if y = 5 then (tr + 100000) + 1 else tr), .int at_, .int be, .int rs, .ref y1, .ref y2, .ref y3, .ref y4, .int nu, .int os, .int od, .int sl, .ref ya, .int fpu, .ref yw, .int wn, .ref yp])), aI E rw 168 rf, aI E mh 9 hi, aI E md 9 de]) 0 0 := by
  refine Ct_of (by decide) (Nat.le_of_ble_eq_true rfl) ?_
  intro k hkl hnl C hR hin_
  subst hkl
  show G k E 0 0 0 [some (.ref mo), some (.int y), some (.int (nI j))] [] [(mo, .inr (9, [.ref rw, .int (nI n), .int lg, .int sf, .int dg, .ref mh, .ref md, .int un, .ref mk, .ref mt, .int le, .int sm, .ref z1, .ref z2, .ref z3, .long tr, .int at_, .int be, .int rs, .ref y1, .ref y2, .ref y3, .ref y4, .int nu, .int os, .int od, .int sl, .ref ya, .int fpu, .ref yw, .int wn, .ref yp])), aI E rw 168 rf, aI E mh 9 hi, aI E md 9 de]
  refine g_iload_n C dX9_rate_0 rfl ?_
  refine g_iconst (v := 0) C dX9_rate_1 (by decide) ?_
  refine g_iconst (v := 5) C dX9_rate_2 (by decide) ?_
  refine g_callS C (c_X9_in k.l E y 0 5) kmX9_69 ktX9_in knX9 kcX9_in ⟨rfl, rfl⟩ kdX9_in ⟨by decide, by decide⟩ ⟨by decide, by decide⟩ [] [0, 1, 2, 3] rfl (wr := [(mo, .inr (9, [.ref rw, .int (nI n), .int lg, .int sf, .int dg, .ref mh, .ref md, .int un, .ref mk, .ref mt, .int le, .int sm, .ref z1, .ref z2, .ref z3, .long tr, .int at_, .int be, .int rs, .ref y1, .ref y2, .ref y3, .ref y4, .int nu, .int os, .int od, .int sl, .ref ya, .int fpu, .ref yw, .int wn, .ref yp])), aI E rw 168 rf, aI E mh 9 hi, aI E md 9 de]) rfl (by decide +kernel) (by decide +kernel) (by decide +kernel) rfl (As := [.int y, .int 0, .int 5]) (rest := []) rfl (Nat.le_of_ble_eq_true rfl) dX9_rate_3 (fun rv_ rw_ hp_ => ?_)
  obtain ⟨rfl, rfl⟩ := hp_
  refine g_rep [0, 1, 2, 3] (ws' := [(mo, .inr (9, [.ref rw, .int (nI n), .int lg, .int sf, .int dg, .ref mh, .ref md, .int un, .ref mk, .ref mt, .int le, .int sm, .ref z1, .ref z2, .ref z3, .long tr, .int at_, .int be, .int rs, .ref y1, .ref y2, .ref y3, .ref y4, .int nu, .int os, .int od, .int sl, .ref ya, .int fpu, .ref yw, .int wn, .ref yp])), aI E rw 168 rf, aI E mh 9 hi, aI E md 9 de]) (st' := [.int (bI (0 ≤ y ∧ y ≤ 5))]) (n' := 0) (z' := 0) (pc' := 6) rfl rfl rfl rfl (by decide +kernel) rfl ?_
  refine g_if_eq (tgt := 17) C dX9_rate_6 (by decide) (fun c6 => ?_) (fun c6 => ?_)
  · skip
    exact absurd hy (bI_0 c6)
  · skip
    refine g_aload_n C dX9_rate_9 rfl ?_
    refine g_iload_n C dX9_rate_10 rfl ?_
    refine g_callV C (c_X9_isStep k.l E mo rw mh md mk mt z1 z2 z3 y1 y2 y3 y4 ya yw yp (nI n) lg sf dg un le sm tr at_ be rs nu os od sl fpu wn (nI j)) kmX9_122 kiX9_isStep ksX9_isStep knX9 kcX9_isStep ⟨rfl, rfl⟩ ⟨rfl, kdX9_isStep⟩ ⟨by decide, by decide⟩ ⟨by decide, by decide⟩ [0] [1, 2, 3] rfl (wr := [aI E rw 168 rf, aI E mh 9 hi, aI E md 9 de]) rfl (by decide +kernel) (by decide +kernel) (by decide +kernel) 0 9 rfl rfl rfl (As := [.int (nI j)]) (rest := []) rfl (Nat.le_of_ble_eq_true rfl) dX9_rate_11 (fun rv_ rw_ hp_ => ?_)
    obtain ⟨rfl, rfl⟩ := hp_
    refine g_rep [3, 0, 1, 2] (ws' := [(mo, .inr (9, [.ref rw, .int (nI n), .int lg, .int sf, .int dg, .ref mh, .ref md, .int un, .ref mk, .ref mt, .int le, .int sm, .ref z1, .ref z2, .ref z3, .long tr, .int at_, .int be, .int rs, .ref y1, .ref y2, .ref y3, .ref y4, .int nu, .int os, .int od, .int sl, .ref ya, .int fpu, .ref yw, .int wn, .ref yp])), aI E rw 168 rf, aI E mh 9 hi, aI E md 9 de]) (st' := [.int (bI (0 ≤ (nI j) ∧ (nI j) ≤ (nI n) - 1))]) (n' := 0) (z' := 0) (pc' := 14) rfl rfl rfl rfl (by decide +kernel) rfl ?_
    refine g_if_ne (tgt := 20) C dX9_rate_14 (by decide) (fun c14 => ?_) (fun c14 => ?_)
    · skip
      refine g_iload_n C dX9_rate_20 rfl ?_
      by_cases h1 : y = 1
      · skip
        refine g_tin (off := 35) (tgt := 56) C dX9_rate_21 (by rw [h1]; decide) (by rw [h1]; decide) (by rw [h1]; decide) (by decide) ?_
        refine g_aload_n C dX9_rate_56 rfl ?_
        refine g_iload_n C dX9_rate_57 rfl ?_
        refine g_callV C (c_X9_brassRate k.l E mo rw mh md mk mt z1 z2 z3 y1 y2 y3 y4 ya yw yp lg sf dg un le sm tr at_ be rs nu os od sl fpu wn n hi de rf j (by first | assumption | omega) (by first | assumption | omega)) kmX9_203 kiX9_brassRate ksX9_brassRate knX9 kcX9_brassRate ⟨rfl, rfl⟩ ⟨rfl, kdX9_brassRate⟩ ⟨by decide, by decide⟩ ⟨by decide, by decide⟩ [0, 1, 2, 3] [] rfl (wr := []) rfl (by decide +kernel) (by decide +kernel) (by decide +kernel) 0 9 rfl rfl rfl (As := [.int (nI j)]) (rest := []) rfl (Nat.le_of_ble_eq_true rfl) dX9_rate_58 (fun rv_ rw_ hp_ => ?_)
        obtain ⟨rfl, rfl⟩ := hp_
        refine g_rep [0, 1, 2, 3] (ws' := [(mo, .inr (9, [.ref rw, .int (nI n), .int lg, .int sf, .int dg, .ref mh, .ref md, .int un, .ref mk, .ref mt, .int le, .int sm, .ref z1, .ref z2, .ref z3, .long ((tr + 10) + 1), .int at_, .int be, .int rs, .ref y1, .ref y2, .ref y3, .ref y4, .int nu, .int os, .int od, .int sl, .ref ya, .int fpu, .ref yw, .int wn, .ref yp])), aI E rw 168 rf, aI E mh 9 hi, aI E md 9 de]) (st' := [.int (hi j + de j)]) (n' := 0) (z' := 0) (pc' := 61) rfl rfl rfl rfl (by decide +kernel) rfl ?_
        exact g_iret C hR (⟨by subst h1; rfl, by subst h1; rfl⟩) dX9_rate_61
      · skip
        by_cases h2 : y = 2
        · skip
          refine g_tin (off := 41) (tgt := 62) C dX9_rate_21 (by rw [h2]; decide) (by rw [h2]; decide) (by rw [h2]; decide) (by decide) ?_
          refine g_aload_n C dX9_rate_62 rfl ?_
          refine g_iload_n C dX9_rate_63 rfl ?_
          refine g_callV C (c_X9_paperRate k.l E mo rw mh md mk mt z1 z2 z3 y1 y2 y3 y4 ya yw yp lg sf dg un le sm tr at_ be rs nu os od sl fpu wn n hi de rf j (by first | assumption | omega) (by first | assumption | omega)) kmX9_206 kiX9_paperRate ksX9_paperRate knX9 kcX9_paperRate ⟨rfl, rfl⟩ ⟨rfl, kdX9_paperRate⟩ ⟨by decide, by decide⟩ ⟨by decide, by decide⟩ [0, 1, 2, 3] [] rfl (wr := []) rfl (by decide +kernel) (by decide +kernel) (by decide +kernel) 0 9 rfl rfl rfl (As := [.int (nI j)]) (rest := []) rfl (Nat.le_of_ble_eq_true rfl) dX9_rate_64 (fun rv_ rw_ hp_ => ?_)
          obtain ⟨rfl, rfl⟩ := hp_
          refine g_rep [0, 1, 2, 3] (ws' := [(mo, .inr (9, [.ref rw, .int (nI n), .int lg, .int sf, .int dg, .ref mh, .ref md, .int un, .ref mk, .ref mt, .int le, .int sm, .ref z1, .ref z2, .ref z3, .long ((tr + 100) + 1), .int at_, .int be, .int rs, .ref y1, .ref y2, .ref y3, .ref y4, .int nu, .int os, .int od, .int sl, .ref ya, .int fpu, .ref yw, .int wn, .ref yp])), aI E rw 168 rf, aI E mh 9 hi, aI E md 9 de]) (st' := [.int (hi j - 2 * rf (3 + j))]) (n' := 0) (z' := 0) (pc' := 67) rfl rfl rfl rfl (by decide +kernel) rfl ?_
          exact g_iret C hR (⟨by subst h2; rfl, by subst h2; rfl⟩) dX9_rate_67
        · skip
          by_cases h3 : y = 3
          · skip
            refine g_tin (off := 47) (tgt := 68) C dX9_rate_21 (by rw [h3]; decide) (by rw [h3]; decide) (by rw [h3]; decide) (by decide) ?_
            refine g_aload_n C dX9_rate_68 rfl ?_
            refine g_dup C dX9_rate_69 rfl ?_
            refine g_get C kwX9 0 rfl rfl 15 (by decide) kfX9_191 rfl dX9_rate_70 ?_
            refine g_ldc2 C dX9_rate_73 kkX9_209 ?_
            refine g_ladd C dX9_rate_76 ?_
            refine g_put (ws' := [(mo, .inr (9, [.ref rw, .int (nI n), .int lg, .int sf, .int dg, .ref mh, .ref md, .int un, .ref mk, .ref mt, .int le, .int sm, .ref z1, .ref z2, .ref z3, .long (tr + 1000), .int at_, .int be, .int rs, .ref y1, .ref y2, .ref y3, .ref y4, .int nu, .int os, .int od, .int sl, .ref ya, .int fpu, .ref yw, .int wn, .ref yp])), aI E rw 168 rf, aI E mh 9 hi, aI E md 9 de]) C kwX9 tyX9 tyX9_ok nmX9 0 rfl rfl 15 (by decide) kfX9_191 rfl rfl rfl (Nat.le_of_ble_eq_true rfl) rfl dX9_rate_77 ?_
            refine g_iconst (v := 2) C dX9_rate_80 (by decide) ?_
            refine g_aload_n C dX9_rate_81 rfl ?_
            refine g_iload_n C dX9_rate_82 rfl ?_
            refine g_callV C (c_X9_brassRate k.l E mo rw mh md mk mt z1 z2 z3 y1 y2 y3 y4 ya yw yp lg sf dg un le sm (tr + 1000) at_ be rs nu os od sl fpu wn n hi de rf j (by first | assumption | omega) (by first | assumption | omega)) kmX9_203 kiX9_brassRate ksX9_brassRate knX9 kcX9_brassRate ⟨rfl, rfl⟩ ⟨rfl, kdX9_brassRate⟩ ⟨by decide, by decide⟩ ⟨by decide, by decide⟩ [0, 1, 2, 3] [] rfl (wr := []) rfl (by decide +kernel) (by decide +kernel) (by decide +kernel) 0 9 rfl rfl rfl (As := [.int (nI j)]) (rest := [.int 2]) rfl (Nat.le_of_ble_eq_true rfl) dX9_rate_83 (fun rv_ rw_ hp_ => ?_)
            obtain ⟨rfl, rfl⟩ := hp_
            refine g_rep [0, 1, 2, 3] (ws' := [(mo, .inr (9, [.ref rw, .int (nI n), .int lg, .int sf, .int dg, .ref mh, .ref md, .int un, .ref mk, .ref mt, .int le, .int sm, .ref z1, .ref z2, .ref z3, .long (((tr + 1000) + 10) + 1), .int at_, .int be, .int rs, .ref y1, .ref y2, .ref y3, .ref y4, .int nu, .int os, .int od, .int sl, .ref ya, .int fpu, .ref yw, .int wn, .ref yp])), aI E rw 168 rf, aI E mh 9 hi, aI E md 9 de]) (st' := [.int (hi j + de j), .int 2]) (n' := 0) (z' := 0) (pc' := 86) rfl rfl rfl rfl (by decide +kernel) rfl ?_
            refine g_imul C dX9_rate_86 ?_
            exact g_iret C hR (⟨by subst h3; rfl, by subst h3; rfl⟩) dX9_rate_87
          · skip
            by_cases h4 : y = 4
            · skip
              refine g_tin (off := 67) (tgt := 88) C dX9_rate_21 (by rw [h4]; decide) (by rw [h4]; decide) (by rw [h4]; decide) (by decide) ?_
              refine g_aload_n C dX9_rate_88 rfl ?_
              refine g_dup C dX9_rate_89 rfl ?_
              refine g_get C kwX9 0 rfl rfl 15 (by decide) kfX9_191 rfl dX9_rate_90 ?_
              refine g_ldc2 C dX9_rate_93 kkX9_211 ?_
              refine g_ladd C dX9_rate_96 ?_
              refine g_put (ws' := [(mo, .inr (9, [.ref rw, .int (nI n), .int lg, .int sf, .int dg, .ref mh, .ref md, .int un, .ref mk, .ref mt, .int le, .int sm, .ref z1, .ref z2, .ref z3, .long (tr + 10000), .int at_, .int be, .int rs, .ref y1, .ref y2, .ref y3, .ref y4, .int nu, .int os, .int od, .int sl, .ref ya, .int fpu, .ref yw, .int wn, .ref yp])), aI E rw 168 rf, aI E mh 9 hi, aI E md 9 de]) C kwX9 tyX9 tyX9_ok nmX9 0 rfl rfl 15 (by decide) kfX9_191 rfl rfl rfl (Nat.le_of_ble_eq_true rfl) rfl dX9_rate_97 ?_
              refine g_aload_n C dX9_rate_100 rfl ?_
              refine g_iload_n C dX9_rate_101 rfl ?_
              refine g_callV C (c_X9_paperRate k.l E mo rw mh md mk mt z1 z2 z3 y1 y2 y3 y4 ya yw yp lg sf dg un le sm (tr + 10000) at_ be rs nu os od sl fpu wn n hi de rf j (by first | assumption | omega) (by first | assumption | omega)) kmX9_206 kiX9_paperRate ksX9_paperRate knX9 kcX9_paperRate ⟨rfl, rfl⟩ ⟨rfl, kdX9_paperRate⟩ ⟨by decide, by decide⟩ ⟨by decide, by decide⟩ [0, 1, 2, 3] [] rfl (wr := []) rfl (by decide +kernel) (by decide +kernel) (by decide +kernel) 0 9 rfl rfl rfl (As := [.int (nI j)]) (rest := []) rfl (Nat.le_of_ble_eq_true rfl) dX9_rate_102 (fun rv_ rw_ hp_ => ?_)
              obtain ⟨rfl, rfl⟩ := hp_
              refine g_rep [0, 1, 2, 3] (ws' := [(mo, .inr (9, [.ref rw, .int (nI n), .int lg, .int sf, .int dg, .ref mh, .ref md, .int un, .ref mk, .ref mt, .int le, .int sm, .ref z1, .ref z2, .ref z3, .long (((tr + 10000) + 100) + 1), .int at_, .int be, .int rs, .ref y1, .ref y2, .ref y3, .ref y4, .int nu, .int os, .int od, .int sl, .ref ya, .int fpu, .ref yw, .int wn, .ref yp])), aI E rw 168 rf, aI E mh 9 hi, aI E md 9 de]) (st' := [.int (hi j - 2 * rf (3 + j))]) (n' := 0) (z' := 0) (pc' := 105) rfl rfl rfl rfl (by decide +kernel) rfl ?_
              refine g_iload_n C dX9_rate_105 rfl ?_
              refine g_iadd C dX9_rate_106 ?_
              exact g_iret C hR (⟨by subst h4; rfl, by subst h4; rfl⟩) dX9_rate_107
            · skip
              by_cases h5 : y = 5
              · skip
                refine g_tin (off := 87) (tgt := 108) C dX9_rate_21 (by rw [h5]; decide) (by rw [h5]; decide) (by rw [h5]; decide) (by decide) ?_
                refine g_aload_n C dX9_rate_108 rfl ?_
                refine g_dup C dX9_rate_109 rfl ?_
                refine g_get C kwX9 0 rfl rfl 15 (by decide) kfX9_191 rfl dX9_rate_110 ?_
                refine g_ldc2 C dX9_rate_113 kkX9_213 ?_
                refine g_ladd C dX9_rate_116 ?_
                refine g_put (ws' := [(mo, .inr (9, [.ref rw, .int (nI n), .int lg, .int sf, .int dg, .ref mh, .ref md, .int un, .ref mk, .ref mt, .int le, .int sm, .ref z1, .ref z2, .ref z3, .long (tr + 100000), .int at_, .int be, .int rs, .ref y1, .ref y2, .ref y3, .ref y4, .int nu, .int os, .int od, .int sl, .ref ya, .int fpu, .ref yw, .int wn, .ref yp])), aI E rw 168 rf, aI E mh 9 hi, aI E md 9 de]) C kwX9 tyX9 tyX9_ok nmX9 0 rfl rfl 15 (by decide) kfX9_191 rfl rfl rfl (Nat.le_of_ble_eq_true rfl) rfl dX9_rate_117 ?_
                refine g_aload_n C dX9_rate_120 rfl ?_
                refine g_iload_n C dX9_rate_121 rfl ?_
                refine g_callV C (c_X9_coilRate k.l E mo rw mh md mk mt z1 z2 z3 y1 y2 y3 y4 ya yw yp lg sf dg un le sm (tr + 100000) at_ be rs nu os od sl fpu wn n hi de rf j (by first | assumption | omega) (by first | assumption | omega)) kmX9_197 kiX9_coilRate ksX9_coilRate knX9 kcX9_coilRate ⟨rfl, rfl⟩ ⟨rfl, kdX9_coilRate⟩ ⟨by decide, by decide⟩ ⟨by decide, by decide⟩ [0, 1, 2, 3] [] rfl (wr := []) rfl (by decide +kernel) (by decide +kernel) (by decide +kernel) 0 9 rfl rfl rfl (As := [.int (nI j)]) (rest := []) rfl (Nat.le_of_ble_eq_true rfl) dX9_rate_122 (fun rv_ rw_ hp_ => ?_)
                obtain ⟨rfl, rfl⟩ := hp_
                refine g_rep [0, 1, 2, 3] (ws' := [(mo, .inr (9, [.ref rw, .int (nI n), .int lg, .int sf, .int dg, .ref mh, .ref md, .int un, .ref mk, .ref mt, .int le, .int sm, .ref z1, .ref z2, .ref z3, .long ((tr + 100000) + 1), .int at_, .int be, .int rs, .ref y1, .ref y2, .ref y3, .ref y4, .int nu, .int os, .int od, .int sl, .ref ya, .int fpu, .ref yw, .int wn, .ref yp])), aI E rw 168 rf, aI E mh 9 hi, aI E md 9 de]) (st' := [.int (hi j)]) (n' := 0) (z' := 0) (pc' := 125) rfl rfl rfl rfl (by decide +kernel) rfl ?_
                refine g_aload_n C dX9_rate_125 rfl ?_
                refine g_get C kwX9 0 rfl rfl 0 (by decide) kfX9_7 rfl dX9_rate_126 ?_
                refine g_iconst (v := 1) C dX9_rate_129 (by decide) ?_
                refine g_iald C 1 1 rfl (rfl) (by decide) (by decide) dX9_rate_130 ?_
                refine g_iadd C dX9_rate_131 ?_
                exact g_iret C hR (⟨by subst h5; rfl, by subst h5; rfl⟩) dX9_rate_132
              · skip
                refine g_tout (tgt := 133) C dX9_rate_21 (by have q1 := lv_neT h1 (by decide : (1 : Int32).toInt = 1); have q2 := lv_neT h2 (by decide : (2 : Int32).toInt = 2); have q3 := lv_neT h3 (by decide : (3 : Int32).toInt = 3); have q4 := lv_neT h4 (by decide : (4 : Int32).toInt = 4); have q5 := lv_neT h5 (by decide : (5 : Int32).toInt = 5); omega) (by decide) ?_
                refine g_aload_n C dX9_rate_133 rfl ?_
                refine g_iload_n C dX9_rate_134 rfl ?_
                refine g_callV C (c_X9_coilRate k.l E mo rw mh md mk mt z1 z2 z3 y1 y2 y3 y4 ya yw yp lg sf dg un le sm tr at_ be rs nu os od sl fpu wn n hi de rf j (by first | assumption | omega) (by first | assumption | omega)) kmX9_197 kiX9_coilRate ksX9_coilRate knX9 kcX9_coilRate ⟨rfl, rfl⟩ ⟨rfl, kdX9_coilRate⟩ ⟨by decide, by decide⟩ ⟨by decide, by decide⟩ [0, 1, 2, 3] [] rfl (wr := []) rfl (by decide +kernel) (by decide +kernel) (by decide +kernel) 0 9 rfl rfl rfl (As := [.int (nI j)]) (rest := []) rfl (Nat.le_of_ble_eq_true rfl) dX9_rate_135 (fun rv_ rw_ hp_ => ?_)
                obtain ⟨rfl, rfl⟩ := hp_
                refine g_rep [0, 1, 2, 3] (ws' := [(mo, .inr (9, [.ref rw, .int (nI n), .int lg, .int sf, .int dg, .ref mh, .ref md, .int un, .ref mk, .ref mt, .int le, .int sm, .ref z1, .ref z2, .ref z3, .long (tr + 1), .int at_, .int be, .int rs, .ref y1, .ref y2, .ref y3, .ref y4, .int nu, .int os, .int od, .int sl, .ref ya, .int fpu, .ref yw, .int wn, .ref yp])), aI E rw 168 rf, aI E mh 9 hi, aI E md 9 de]) (st' := [.int (hi j)]) (n' := 0) (z' := 0) (pc' := 138) rfl rfl rfl rfl (by decide +kernel) rfl ?_
                exact g_iret C hR (⟨by rw [if_pos (in5_ hy h1 h2 h3 h4 h5)], by rw [if_pos (in5_ hy h1 h2 h3 h4 h5)]⟩) dX9_rate_138
    · skip
      exact absurd (has_t hj (by omega)) (bI_0 c14)

set_option maxHeartbeats 4000000 in
set_option maxRecDepth 100000 in
theorem c_X9_rateB (l : Launch) (E : EX) (mo : Nat) (rw : Nat) (mh : Nat) (md : Nat) (mk : Nat) (mt : Nat) (z1 : Nat) (z2 : Nat) (z3 : Nat) (y1 : Nat) (y2 : Nat) (y3 : Nat) (y4 : Nat) (ya : Nat) (yw : Nat) (yp : Nat) (st0 : Int32) (lg : Int32) (sf : Int32) (dg : Int32) (un : Int32) (le : Int32) (sm : Int32) (tr : Int64) (at_ : Int32) (be : Int32) (rs : Int32) (nu : Int32) (os : Int32) (od : Int32) (sl : Int32) (fpu : Int32) (wn : Int32) (y : Int32) (z0 : Int32) (hb : ¬ ((0 ≤ y ∧ y ≤ 5) ∧ (0 ≤ z0 ∧ z0 ≤ st0 - 1))) : Ct l E yX9_rate cX9_rate 3 (some .int) (rmL 4 0 0) [.ref mo, .int y, .int z0] [(mo, .inr (9, [.ref rw, .int st0, .int lg, .int sf, .int dg, .ref mh, .ref md, .int un, .ref mk, .ref mt, .int le, .int sm, .ref z1, .ref z2, .ref z3, .long tr, .int at_, .int be, .int rs, .ref y1, .ref y2, .ref y3, .ref y4, .int nu, .int os, .int od, .int sl, .ref ya, .int fpu, .ref yw, .int wn, .ref yp]))] (fun (rv_ : Option Value) (rw_ : va_W) => rv_ = some (.int (-1000000)) ∧ rw_ = [(mo, .inr (9, [.ref rw, .int st0, .int lg, .int sf, .int dg, .ref mh, .ref md, .int un, .ref mk, .ref mt, .int le, .int sm, .ref z1, .ref z2, .ref z3, .long tr, .int at_, .int be, .int rs, .ref y1, .ref y2, .ref y3, .ref y4, .int nu, .int os, .int od, .int sl, .ref ya, .int fpu, .ref yw, .int wn, .ref yp]))]) 0 0 := by
  refine Ct_of (by decide) (Nat.le_of_ble_eq_true rfl) ?_
  intro k hkl hnl C hR hin_
  subst hkl
  show G k E 0 0 0 [some (.ref mo), some (.int y), some (.int z0)] [] [(mo, .inr (9, [.ref rw, .int st0, .int lg, .int sf, .int dg, .ref mh, .ref md, .int un, .ref mk, .ref mt, .int le, .int sm, .ref z1, .ref z2, .ref z3, .long tr, .int at_, .int be, .int rs, .ref y1, .ref y2, .ref y3, .ref y4, .int nu, .int os, .int od, .int sl, .ref ya, .int fpu, .ref yw, .int wn, .ref yp]))]
  refine g_iload_n C dX9_rate_0 rfl ?_
  refine g_iconst (v := 0) C dX9_rate_1 (by decide) ?_
  refine g_iconst (v := 5) C dX9_rate_2 (by decide) ?_
  refine g_callS C (c_X9_in k.l E y 0 5) kmX9_69 ktX9_in knX9 kcX9_in ⟨rfl, rfl⟩ kdX9_in ⟨by decide, by decide⟩ ⟨by decide, by decide⟩ [] [0] rfl (wr := [(mo, .inr (9, [.ref rw, .int st0, .int lg, .int sf, .int dg, .ref mh, .ref md, .int un, .ref mk, .ref mt, .int le, .int sm, .ref z1, .ref z2, .ref z3, .long tr, .int at_, .int be, .int rs, .ref y1, .ref y2, .ref y3, .ref y4, .int nu, .int os, .int od, .int sl, .ref ya, .int fpu, .ref yw, .int wn, .ref yp]))]) rfl (by decide +kernel) (by decide +kernel) (by decide +kernel) rfl (As := [.int y, .int 0, .int 5]) (rest := []) rfl (Nat.le_of_ble_eq_true rfl) dX9_rate_3 (fun rv_ rw_ hp_ => ?_)
  obtain ⟨rfl, rfl⟩ := hp_
  refine g_rep [0] (ws' := [(mo, .inr (9, [.ref rw, .int st0, .int lg, .int sf, .int dg, .ref mh, .ref md, .int un, .ref mk, .ref mt, .int le, .int sm, .ref z1, .ref z2, .ref z3, .long tr, .int at_, .int be, .int rs, .ref y1, .ref y2, .ref y3, .ref y4, .int nu, .int os, .int od, .int sl, .ref ya, .int fpu, .ref yw, .int wn, .ref yp]))]) (st' := [.int (bI (0 ≤ y ∧ y ≤ 5))]) (n' := 0) (z' := 0) (pc' := 6) rfl rfl rfl rfl (by decide +kernel) rfl ?_
  refine g_if_eq (tgt := 17) C dX9_rate_6 (by decide) (fun c6 => ?_) (fun c6 => ?_)
  · skip
    refine g_ldc C dX9_rate_17 kkX9_202 ?_
    exact g_iret C hR (⟨rfl, rfl⟩) dX9_rate_19
  · skip
    refine g_aload_n C dX9_rate_9 rfl ?_
    refine g_iload_n C dX9_rate_10 rfl ?_
    refine g_callV C (c_X9_isStep k.l E mo rw mh md mk mt z1 z2 z3 y1 y2 y3 y4 ya yw yp st0 lg sf dg un le sm tr at_ be rs nu os od sl fpu wn z0) kmX9_122 kiX9_isStep ksX9_isStep knX9 kcX9_isStep ⟨rfl, rfl⟩ ⟨rfl, kdX9_isStep⟩ ⟨by decide, by decide⟩ ⟨by decide, by decide⟩ [0] [] rfl (wr := []) rfl (by decide +kernel) (by decide +kernel) (by decide +kernel) 0 9 rfl rfl rfl (As := [.int z0]) (rest := []) rfl (Nat.le_of_ble_eq_true rfl) dX9_rate_11 (fun rv_ rw_ hp_ => ?_)
    obtain ⟨rfl, rfl⟩ := hp_
    refine g_rep [0] (ws' := [(mo, .inr (9, [.ref rw, .int st0, .int lg, .int sf, .int dg, .ref mh, .ref md, .int un, .ref mk, .ref mt, .int le, .int sm, .ref z1, .ref z2, .ref z3, .long tr, .int at_, .int be, .int rs, .ref y1, .ref y2, .ref y3, .ref y4, .int nu, .int os, .int od, .int sl, .ref ya, .int fpu, .ref yw, .int wn, .ref yp]))]) (st' := [.int (bI (0 ≤ z0 ∧ z0 ≤ st0 - 1))]) (n' := 0) (z' := 0) (pc' := 14) rfl rfl rfl rfl (by decide +kernel) rfl ?_
    refine g_if_ne (tgt := 20) C dX9_rate_14 (by decide) (fun c14 => ?_) (fun c14 => ?_)
    · skip
      exact absurd ⟨bI_1 c6, bI_1 c14⟩ hb
    · skip
      refine g_ldc C dX9_rate_17 kkX9_202 ?_
      exact g_iret C hR (⟨rfl, rfl⟩) dX9_rate_19

set_option maxHeartbeats 4000000 in
set_option maxRecDepth 100000 in
theorem c_X9_keepB (l : Launch) (E : EX) (mo : Nat) (rw : Nat) (mh : Nat) (md : Nat) (mk : Nat) (mt : Nat) (z1 : Nat) (z2 : Nat) (z3 : Nat) (y1 : Nat) (y2 : Nat) (y3 : Nat) (y4 : Nat) (ya : Nat) (yw : Nat) (yp : Nat) (st0 : Int32) (lg : Int32) (sf : Int32) (dg : Int32) (un : Int32) (le : Int32) (sm : Int32) (tr : Int64) (at_ : Int32) (be : Int32) (rs : Int32) (nu : Int32) (os : Int32) (od : Int32) (sl : Int32) (fpu : Int32) (wn : Int32) (y : Int32) (hb : ¬ (0 ≤ y ∧ y ≤ 1)) : Ct l E yX9_keep cX9_keep 2 (some .int) (rmL 3 0 0) [.ref mo, .int y] [(mo, .inr (9, [.ref rw, .int st0, .int lg, .int sf, .int dg, .ref mh, .ref md, .int un, .ref mk, .ref mt, .int le, .int sm, .ref z1, .ref z2, .ref z3, .long tr, .int at_, .int be, .int rs, .ref y1, .ref y2, .ref y3, .ref y4, .int nu, .int os, .int od, .int sl, .ref ya, .int fpu, .ref yw, .int wn, .ref yp]))] (fun (rv_ : Option Value) (rw_ : va_W) => rv_ = some (.int (-1)) ∧ rw_ = [(mo, .inr (9, [.ref rw, .int st0, .int lg, .int sf, .int dg, .ref mh, .ref md, .int un, .ref mk, .ref mt, .int le, .int sm, .ref z1, .ref z2, .ref z3, .long tr, .int at_, .int be, .int rs, .ref y1, .ref y2, .ref y3, .ref y4, .int nu, .int os, .int od, .int sl, .ref ya, .int fpu, .ref yw, .int wn, .ref yp]))]) 0 0 := by
  refine Ct_of (by decide) (Nat.le_of_ble_eq_true rfl) ?_
  intro k hkl hnl C hR hin_
  subst hkl
  show G k E 0 0 0 [some (.ref mo), some (.int y)] [] [(mo, .inr (9, [.ref rw, .int st0, .int lg, .int sf, .int dg, .ref mh, .ref md, .int un, .ref mk, .ref mt, .int le, .int sm, .ref z1, .ref z2, .ref z3, .long tr, .int at_, .int be, .int rs, .ref y1, .ref y2, .ref y3, .ref y4, .int nu, .int os, .int od, .int sl, .ref ya, .int fpu, .ref yw, .int wn, .ref yp]))]
  refine g_iload_n C dX9_keep_0 rfl ?_
  refine g_iconst (v := 0) C dX9_keep_1 (by decide) ?_
  refine g_iconst (v := 1) C dX9_keep_2 (by decide) ?_
  refine g_callS C (c_X9_in k.l E y 0 1) kmX9_69 ktX9_in knX9 kcX9_in ⟨rfl, rfl⟩ kdX9_in ⟨by decide, by decide⟩ ⟨by decide, by decide⟩ [] [0] rfl (wr := [(mo, .inr (9, [.ref rw, .int st0, .int lg, .int sf, .int dg, .ref mh, .ref md, .int un, .ref mk, .ref mt, .int le, .int sm, .ref z1, .ref z2, .ref z3, .long tr, .int at_, .int be, .int rs, .ref y1, .ref y2, .ref y3, .ref y4, .int nu, .int os, .int od, .int sl, .ref ya, .int fpu, .ref yw, .int wn, .ref yp]))]) rfl (by decide +kernel) (by decide +kernel) (by decide +kernel) rfl (As := [.int y, .int 0, .int 1]) (rest := []) rfl (Nat.le_of_ble_eq_true rfl) dX9_keep_3 (fun rv_ rw_ hp_ => ?_)
  obtain ⟨rfl, rfl⟩ := hp_
  refine g_rep [0] (ws' := [(mo, .inr (9, [.ref rw, .int st0, .int lg, .int sf, .int dg, .ref mh, .ref md, .int un, .ref mk, .ref mt, .int le, .int sm, .ref z1, .ref z2, .ref z3, .long tr, .int at_, .int be, .int rs, .ref y1, .ref y2, .ref y3, .ref y4, .int nu, .int os, .int od, .int sl, .ref ya, .int fpu, .ref yw, .int wn, .ref yp]))]) (st' := [.int (bI (0 ≤ y ∧ y ≤ 1))]) (n' := 0) (z' := 0) (pc' := 6) rfl rfl rfl rfl (by decide +kernel) rfl ?_
  refine g_if_ne (tgt := 11) C dX9_keep_6 (by decide) (fun c6 => ?_) (fun c6 => ?_)
  · skip
    exact absurd (bI_1 c6) hb
  · skip
    refine g_iconst (v := (-1)) C dX9_keep_9 (by decide) ?_
    exact g_iret C hR (⟨rfl, rfl⟩) dX9_keep_10

set_option maxHeartbeats 4000000 in
set_option maxRecDepth 100000 in
theorem c_X9_backB (l : Launch) (E : EX) (mo : Nat) (rw : Nat) (mh : Nat) (md : Nat) (mk : Nat) (mt : Nat) (z1 : Nat) (z2 : Nat) (z3 : Nat) (y1 : Nat) (y2 : Nat) (y3 : Nat) (y4 : Nat) (ya : Nat) (yw : Nat) (yp : Nat) (st0 : Int32) (lg : Int32) (sf : Int32) (dg : Int32) (un : Int32) (le : Int32) (sm : Int32) (tr : Int64) (at_ : Int32) (be : Int32) (rs : Int32) (nu : Int32) (os : Int32) (od : Int32) (sl : Int32) (fpu : Int32) (wn : Int32) (y : Int32) (hb : ¬ (0 ≤ y ∧ y ≤ 1)) : Ct l E yX9_back cX9_back 2 (some .int) (rmL 3 0 0) [.ref mo, .int y] [(mo, .inr (9, [.ref rw, .int st0, .int lg, .int sf, .int dg, .ref mh, .ref md, .int un, .ref mk, .ref mt, .int le, .int sm, .ref z1, .ref z2, .ref z3, .long tr, .int at_, .int be, .int rs, .ref y1, .ref y2, .ref y3, .ref y4, .int nu, .int os, .int od, .int sl, .ref ya, .int fpu, .ref yw, .int wn, .ref yp]))] (fun (rv_ : Option Value) (rw_ : va_W) => rv_ = some (.int (-1)) ∧ rw_ = [(mo, .inr (9, [.ref rw, .int st0, .int lg, .int sf, .int dg, .ref mh, .ref md, .int un, .ref mk, .ref mt, .int le, .int sm, .ref z1, .ref z2, .ref z3, .long tr, .int at_, .int be, .int rs, .ref y1, .ref y2, .ref y3, .ref y4, .int nu, .int os, .int od, .int sl, .ref ya, .int fpu, .ref yw, .int wn, .ref yp]))]) 0 0 := by
  refine Ct_of (by decide) (Nat.le_of_ble_eq_true rfl) ?_
  intro k hkl hnl C hR hin_
  subst hkl
  show G k E 0 0 0 [some (.ref mo), some (.int y)] [] [(mo, .inr (9, [.ref rw, .int st0, .int lg, .int sf, .int dg, .ref mh, .ref md, .int un, .ref mk, .ref mt, .int le, .int sm, .ref z1, .ref z2, .ref z3, .long tr, .int at_, .int be, .int rs, .ref y1, .ref y2, .ref y3, .ref y4, .int nu, .int os, .int od, .int sl, .ref ya, .int fpu, .ref yw, .int wn, .ref yp]))]
  refine g_iload_n C dX9_back_0 rfl ?_
  refine g_iconst (v := 0) C dX9_back_1 (by decide) ?_
  refine g_iconst (v := 1) C dX9_back_2 (by decide) ?_
  refine g_callS C (c_X9_in k.l E y 0 1) kmX9_69 ktX9_in knX9 kcX9_in ⟨rfl, rfl⟩ kdX9_in ⟨by decide, by decide⟩ ⟨by decide, by decide⟩ [] [0] rfl (wr := [(mo, .inr (9, [.ref rw, .int st0, .int lg, .int sf, .int dg, .ref mh, .ref md, .int un, .ref mk, .ref mt, .int le, .int sm, .ref z1, .ref z2, .ref z3, .long tr, .int at_, .int be, .int rs, .ref y1, .ref y2, .ref y3, .ref y4, .int nu, .int os, .int od, .int sl, .ref ya, .int fpu, .ref yw, .int wn, .ref yp]))]) rfl (by decide +kernel) (by decide +kernel) (by decide +kernel) rfl (As := [.int y, .int 0, .int 1]) (rest := []) rfl (Nat.le_of_ble_eq_true rfl) dX9_back_3 (fun rv_ rw_ hp_ => ?_)
  obtain ⟨rfl, rfl⟩ := hp_
  refine g_rep [0] (ws' := [(mo, .inr (9, [.ref rw, .int st0, .int lg, .int sf, .int dg, .ref mh, .ref md, .int un, .ref mk, .ref mt, .int le, .int sm, .ref z1, .ref z2, .ref z3, .long tr, .int at_, .int be, .int rs, .ref y1, .ref y2, .ref y3, .ref y4, .int nu, .int os, .int od, .int sl, .ref ya, .int fpu, .ref yw, .int wn, .ref yp]))]) (st' := [.int (bI (0 ≤ y ∧ y ≤ 1))]) (n' := 0) (z' := 0) (pc' := 6) rfl rfl rfl rfl (by decide +kernel) rfl ?_
  refine g_if_ne (tgt := 11) C dX9_back_6 (by decide) (fun c6 => ?_) (fun c6 => ?_)
  · skip
    exact absurd (bI_1 c6) hb
  · skip
    refine g_iconst (v := (-1)) C dX9_back_9 (by decide) ?_
    exact g_iret C hR (⟨rfl, rfl⟩) dX9_back_10

set_option maxHeartbeats 4000000 in
set_option maxRecDepth 100000 in
theorem c_X9_keep0 (l : Launch) (E : EX) (mo : Nat) (rw : Nat) (mh : Nat) (md : Nat) (mk : Nat) (mt : Nat) (z1 : Nat) (z2 : Nat) (z3 : Nat) (y1 : Nat) (y2 : Nat) (y3 : Nat) (y4 : Nat) (ya : Nat) (yw : Nat) (yp : Nat) (st0 : Int32) (lg : Int32) (sf : Int32) (dg : Int32) (un : Int32) (le : Int32) (sm : Int32) (tr : Int64) (at_ : Int32) (be : Int32) (rs : Int32) (nu : Int32) (os : Int32) (od : Int32) (sl : Int32) (fpu : Int32) (wn : Int32) (rf : Nat → Int32) (kf : Nat → Int32) : Ct l E yX9_keep cX9_keep 2 (some .int) (rmL 3 0 0) [.ref mo, .int (nI 0)] [(mo, .inr (9, [.ref rw, .int st0, .int lg, .int sf, .int dg, .ref mh, .ref md, .int un, .ref mk, .ref mt, .int le, .int sm, .ref z1, .ref z2, .ref z3, .long tr, .int at_, .int be, .int rs, .ref y1, .ref y2, .ref y3, .ref y4, .int nu, .int os, .int od, .int sl, .ref ya, .int fpu, .ref yw, .int wn, .ref yp])), aI E rw 168 rf, aZ E mk 2 kf] (fun (rv_ : Option Value) (rw_ : va_W) => rv_ = some (.int (rf 0)) ∧ rw_ = [(mo, .inr (9, [.ref rw, .int st0, .int lg, .int sf, .int dg, .ref mh, .ref md, .int un, .ref mk, .ref mt, .int le, .int sm, .ref z1, .ref z2, .ref z3, .long tr, .int at_, .int be, .int rs, .ref y1, .ref y2, .ref y3, .ref y4, .int nu, .int os, .int od, .int sl, .ref ya, .int fpu, .ref yw, .int wn, .ref yp])), aI E rw 168 (va_cpy rf rf 0 132 12), aZ E mk 2 (upd kf 0 1)]) 0 0 := by
  refine Ct_of (by decide) (Nat.le_of_ble_eq_true rfl) ?_
  intro k hkl hnl C hR hin_
  subst hkl
  show G k E 0 0 0 [some (.ref mo), some (.int (nI 0))] [] [(mo, .inr (9, [.ref rw, .int st0, .int lg, .int sf, .int dg, .ref mh, .ref md, .int un, .ref mk, .ref mt, .int le, .int sm, .ref z1, .ref z2, .ref z3, .long tr, .int at_, .int be, .int rs, .ref y1, .ref y2, .ref y3, .ref y4, .int nu, .int os, .int od, .int sl, .ref ya, .int fpu, .ref yw, .int wn, .ref yp])), aI E rw 168 rf, aZ E mk 2 kf]
  refine g_iload_n C dX9_keep_0 rfl ?_
  refine g_iconst (v := 0) C dX9_keep_1 (by decide) ?_
  refine g_iconst (v := 1) C dX9_keep_2 (by decide) ?_
  refine g_callS C (c_X9_in k.l E (nI 0) 0 1) kmX9_69 ktX9_in knX9 kcX9_in ⟨rfl, rfl⟩ kdX9_in ⟨by decide, by decide⟩ ⟨by decide, by decide⟩ [] [0, 1, 2] rfl (wr := [(mo, .inr (9, [.ref rw, .int st0, .int lg, .int sf, .int dg, .ref mh, .ref md, .int un, .ref mk, .ref mt, .int le, .int sm, .ref z1, .ref z2, .ref z3, .long tr, .int at_, .int be, .int rs, .ref y1, .ref y2, .ref y3, .ref y4, .int nu, .int os, .int od, .int sl, .ref ya, .int fpu, .ref yw, .int wn, .ref yp])), aI E rw 168 rf, aZ E mk 2 kf]) rfl (by decide +kernel) (by decide +kernel) (by decide +kernel) rfl (As := [.int (nI 0), .int 0, .int 1]) (rest := []) rfl (Nat.le_of_ble_eq_true rfl) dX9_keep_3 (fun rv_ rw_ hp_ => ?_)
  obtain ⟨rfl, rfl⟩ := hp_
  refine g_rep [0, 1, 2] (ws' := [(mo, .inr (9, [.ref rw, .int st0, .int lg, .int sf, .int dg, .ref mh, .ref md, .int un, .ref mk, .ref mt, .int le, .int sm, .ref z1, .ref z2, .ref z3, .long tr, .int at_, .int be, .int rs, .ref y1, .ref y2, .ref y3, .ref y4, .int nu, .int os, .int od, .int sl, .ref ya, .int fpu, .ref yw, .int wn, .ref yp])), aI E rw 168 rf, aZ E mk 2 kf]) (st' := [.int (bI (0 ≤ (nI 0) ∧ (nI 0) ≤ 1))]) (n' := 0) (z' := 0) (pc' := 6) rfl rfl rfl rfl (by decide +kernel) rfl ?_
  refine g_if_ne (tgt := 11) C dX9_keep_6 (by decide) (fun c6 => ?_) (fun c6 => ?_)
  · skip
    refine g_aload_n C dX9_keep_11 rfl ?_
    refine g_iconst (v := 0) C dX9_keep_12 (by decide) ?_
    refine g_sipush (v := 132) C dX9_keep_13 (by decide) ?_
    refine g_bipush (v := 12) C dX9_keep_16 (by decide) ?_
    refine g_iload_n C dX9_keep_18 rfl ?_
    refine g_imul C dX9_keep_19 ?_
    refine g_topi (v := nI 0) (by decide) ?_
    refine g_iadd C dX9_keep_20 ?_
    refine g_topi (v := nI 132) (by decide) ?_
    refine g_callV C (c_X9_copyRow k.l E mo rw mh md mk mt z1 z2 z3 y1 y2 y3 y4 ya yw yp st0 lg sf dg un le sm tr at_ be rs nu os od sl fpu wn rf 0 132 (by decide) (by decide) (Or.inr (by decide))) kmX9_145 kiX9_copyRow ksX9_copyRow knX9 kcX9_copyRow ⟨rfl, rfl⟩ ⟨rfl, kdX9_copyRow⟩ ⟨by decide, by decide⟩ ⟨by decide, by decide⟩ [0, 1] [2] rfl (wr := [aZ E mk 2 kf]) rfl (by decide +kernel) (by decide +kernel) (by decide +kernel) 0 9 rfl rfl rfl (As := [.int 0, .int (nI 132)]) (rest := []) rfl (Nat.le_of_ble_eq_true rfl) dX9_keep_21 (fun rv_ rw_ hp_ => ?_)
    obtain ⟨rfl, rfl⟩ := hp_
    refine g_rep [1, 2, 0] (ws' := [(mo, .inr (9, [.ref rw, .int st0, .int lg, .int sf, .int dg, .ref mh, .ref md, .int un, .ref mk, .ref mt, .int le, .int sm, .ref z1, .ref z2, .ref z3, .long tr, .int at_, .int be, .int rs, .ref y1, .ref y2, .ref y3, .ref y4, .int nu, .int os, .int od, .int sl, .ref ya, .int fpu, .ref yw, .int wn, .ref yp])), aI E rw 168 (va_cpy rf rf 0 132 12), aZ E mk 2 kf]) (st' := []) (n' := 0) (z' := 0) (pc' := 24) rfl rfl rfl rfl (by decide +kernel) rfl ?_
    refine g_aload_n C dX9_keep_24 rfl ?_
    refine g_get C kwX9 0 rfl rfl 8 (by decide) kfX9_29 rfl dX9_keep_25 ?_
    refine g_iload_n C dX9_keep_28 rfl ?_
    refine g_iconst (v := 1) C dX9_keep_29 (by decide) ?_
    refine g_zast (ws' := [(mo, .inr (9, [.ref rw, .int st0, .int lg, .int sf, .int dg, .ref mh, .ref md, .int un, .ref mk, .ref mt, .int le, .int sm, .ref z1, .ref z2, .ref z3, .long tr, .int at_, .int be, .int rs, .ref y1, .ref y2, .ref y3, .ref y4, .int nu, .int os, .int od, .int sl, .ref ya, .int fpu, .ref yw, .int wn, .ref yp])), aI E rw 168 (va_cpy rf rf 0 132 12), aZ E mk 2 (upd kf 0 1)]) C 2 0 rfl (rfl) (by decide) (by decide) (rfl) rfl dX9_keep_30 ?_
    refine g_aload_n C dX9_keep_31 rfl ?_
    refine g_get C kwX9 0 rfl rfl 0 (by decide) kfX9_7 rfl dX9_keep_32 ?_
    refine g_iconst (v := 0) C dX9_keep_35 (by decide) ?_
    refine g_iald C 1 0 rfl (rfl) (by decide) (by decide) dX9_keep_36 ?_
    refine g_topi (v := rf 0) (cpyR_out (by decide)) ?_
    exact g_iret C hR (⟨rfl, rfl⟩) dX9_keep_37
  · skip
    exact absurd (by decide) (bI_0 c6)

set_option maxHeartbeats 4000000 in
set_option maxRecDepth 100000 in
theorem c_X9_back0 (l : Launch) (E : EX) (mo : Nat) (rw : Nat) (mh : Nat) (md : Nat) (mk : Nat) (mt : Nat) (z1 : Nat) (z2 : Nat) (z3 : Nat) (y1 : Nat) (y2 : Nat) (y3 : Nat) (y4 : Nat) (ya : Nat) (yw : Nat) (yp : Nat) (st0 : Int32) (lg : Int32) (sf : Int32) (dg : Int32) (un : Int32) (le : Int32) (sm : Int32) (tr : Int64) (at_ : Int32) (be : Int32) (rs : Int32) (nu : Int32) (os : Int32) (od : Int32) (sl : Int32) (fpu : Int32) (wn : Int32) (rf : Nat → Int32) (kf : Nat → Int32) (hk : ¬ kf 0 = 0) : Ct l E yX9_back cX9_back 2 (some .int) (rmL 3 0 0) [.ref mo, .int (nI 0)] [(mo, .inr (9, [.ref rw, .int st0, .int lg, .int sf, .int dg, .ref mh, .ref md, .int un, .ref mk, .ref mt, .int le, .int sm, .ref z1, .ref z2, .ref z3, .long tr, .int at_, .int be, .int rs, .ref y1, .ref y2, .ref y3, .ref y4, .int nu, .int os, .int od, .int sl, .ref ya, .int fpu, .ref yw, .int wn, .ref yp])), aI E rw 168 rf, aZ E mk 2 kf] (fun (rv_ : Option Value) (rw_ : va_W) => rv_ = some (.int (rf 132)) ∧ rw_ = [(mo, .inr (9, [.ref rw, .int st0, .int lg, .int sf, .int dg, .ref mh, .ref md, .int 0, .ref mk, .ref mt, .int le, .int sm, .ref z1, .ref z2, .ref z3, .long tr, .int at_, .int be, .int rs, .ref y1, .ref y2, .ref y3, .ref y4, .int nu, .int os, .int od, .int sl, .ref ya, .int fpu, .ref yw, .int wn, .ref yp])), aI E rw 168 (va_cpy rf rf 132 0 12), aZ E mk 2 kf]) 0 0 := by
  refine Ct_of (by decide) (Nat.le_of_ble_eq_true rfl) ?_
  intro k hkl hnl C hR hin_
  subst hkl
  show G k E 0 0 0 [some (.ref mo), some (.int (nI 0))] [] [(mo, .inr (9, [.ref rw, .int st0, .int lg, .int sf, .int dg, .ref mh, .ref md, .int un, .ref mk, .ref mt, .int le, .int sm, .ref z1, .ref z2, .ref z3, .long tr, .int at_, .int be, .int rs, .ref y1, .ref y2, .ref y3, .ref y4, .int nu, .int os, .int od, .int sl, .ref ya, .int fpu, .ref yw, .int wn, .ref yp])), aI E rw 168 rf, aZ E mk 2 kf]
  refine g_iload_n C dX9_back_0 rfl ?_
  refine g_iconst (v := 0) C dX9_back_1 (by decide) ?_
  refine g_iconst (v := 1) C dX9_back_2 (by decide) ?_
  refine g_callS C (c_X9_in k.l E (nI 0) 0 1) kmX9_69 ktX9_in knX9 kcX9_in ⟨rfl, rfl⟩ kdX9_in ⟨by decide, by decide⟩ ⟨by decide, by decide⟩ [] [0, 1, 2] rfl (wr := [(mo, .inr (9, [.ref rw, .int st0, .int lg, .int sf, .int dg, .ref mh, .ref md, .int un, .ref mk, .ref mt, .int le, .int sm, .ref z1, .ref z2, .ref z3, .long tr, .int at_, .int be, .int rs, .ref y1, .ref y2, .ref y3, .ref y4, .int nu, .int os, .int od, .int sl, .ref ya, .int fpu, .ref yw, .int wn, .ref yp])), aI E rw 168 rf, aZ E mk 2 kf]) rfl (by decide +kernel) (by decide +kernel) (by decide +kernel) rfl (As := [.int (nI 0), .int 0, .int 1]) (rest := []) rfl (Nat.le_of_ble_eq_true rfl) dX9_back_3 (fun rv_ rw_ hp_ => ?_)
  obtain ⟨rfl, rfl⟩ := hp_
  refine g_rep [0, 1, 2] (ws' := [(mo, .inr (9, [.ref rw, .int st0, .int lg, .int sf, .int dg, .ref mh, .ref md, .int un, .ref mk, .ref mt, .int le, .int sm, .ref z1, .ref z2, .ref z3, .long tr, .int at_, .int be, .int rs, .ref y1, .ref y2, .ref y3, .ref y4, .int nu, .int os, .int od, .int sl, .ref ya, .int fpu, .ref yw, .int wn, .ref yp])), aI E rw 168 rf, aZ E mk 2 kf]) (st' := [.int (bI (0 ≤ (nI 0) ∧ (nI 0) ≤ 1))]) (n' := 0) (z' := 0) (pc' := 6) rfl rfl rfl rfl (by decide +kernel) rfl ?_
  refine g_if_ne (tgt := 11) C dX9_back_6 (by decide) (fun c6 => ?_) (fun c6 => ?_)
  · skip
    refine g_aload_n C dX9_back_11 rfl ?_
    refine g_get C kwX9 0 rfl rfl 8 (by decide) kfX9_29 rfl dX9_back_12 ?_
    refine g_iload_n C dX9_back_15 rfl ?_
    refine g_zald C 2 0 rfl (rfl) (by decide) (by decide) dX9_back_16 ?_
    refine g_if_ne (tgt := 23) C dX9_back_17 (by decide) (fun c17 => ?_) (fun c17 => ?_)
    · skip
      refine g_aload_n C dX9_back_23 rfl ?_
      refine g_sipush (v := 132) C dX9_back_24 (by decide) ?_
      refine g_bipush (v := 12) C dX9_back_27 (by decide) ?_
      refine g_iload_n C dX9_back_29 rfl ?_
      refine g_imul C dX9_back_30 ?_
      refine g_topi (v := nI 0) (by decide) ?_
      refine g_iadd C dX9_back_31 ?_
      refine g_topi (v := nI 132) (by decide) ?_
      refine g_iconst (v := 0) C dX9_back_32 (by decide) ?_
      refine g_callV C (c_X9_copyRow k.l E mo rw mh md mk mt z1 z2 z3 y1 y2 y3 y4 ya yw yp st0 lg sf dg un le sm tr at_ be rs nu os od sl fpu wn rf 132 0 (by decide) (by decide) (Or.inl (by decide))) kmX9_145 kiX9_copyRow ksX9_copyRow knX9 kcX9_copyRow ⟨rfl, rfl⟩ ⟨rfl, kdX9_copyRow⟩ ⟨by decide, by decide⟩ ⟨by decide, by decide⟩ [0, 1] [2] rfl (wr := [aZ E mk 2 kf]) rfl (by decide +kernel) (by decide +kernel) (by decide +kernel) 0 9 rfl rfl rfl (As := [.int (nI 132), .int 0]) (rest := []) rfl (Nat.le_of_ble_eq_true rfl) dX9_back_33 (fun rv_ rw_ hp_ => ?_)
      obtain ⟨rfl, rfl⟩ := hp_
      refine g_rep [1, 2, 0] (ws' := [(mo, .inr (9, [.ref rw, .int st0, .int lg, .int sf, .int dg, .ref mh, .ref md, .int un, .ref mk, .ref mt, .int le, .int sm, .ref z1, .ref z2, .ref z3, .long tr, .int at_, .int be, .int rs, .ref y1, .ref y2, .ref y3, .ref y4, .int nu, .int os, .int od, .int sl, .ref ya, .int fpu, .ref yw, .int wn, .ref yp])), aI E rw 168 (va_cpy rf rf 132 0 12), aZ E mk 2 kf]) (st' := []) (n' := 0) (z' := 0) (pc' := 36) rfl rfl rfl rfl (by decide +kernel) rfl ?_
      refine g_aload_n C dX9_back_36 rfl ?_
      refine g_iconst (v := 0) C dX9_back_37 (by decide) ?_
      refine g_put (ws' := [(mo, .inr (9, [.ref rw, .int st0, .int lg, .int sf, .int dg, .ref mh, .ref md, .int 0, .ref mk, .ref mt, .int le, .int sm, .ref z1, .ref z2, .ref z3, .long tr, .int at_, .int be, .int rs, .ref y1, .ref y2, .ref y3, .ref y4, .int nu, .int os, .int od, .int sl, .ref ya, .int fpu, .ref yw, .int wn, .ref yp])), aI E rw 168 (va_cpy rf rf 132 0 12), aZ E mk 2 kf]) C kwX9 tyX9 tyX9_ok nmX9 0 rfl rfl 7 (by decide) kfX9_116 rfl rfl rfl (Nat.le_of_ble_eq_true rfl) rfl dX9_back_38 ?_
      refine g_aload_n C dX9_back_41 rfl ?_
      refine g_get C kwX9 0 rfl rfl 0 (by decide) kfX9_7 rfl dX9_back_42 ?_
      refine g_iconst (v := 0) C dX9_back_45 (by decide) ?_
      refine g_iald C 1 0 rfl (rfl) (by decide) (by decide) dX9_back_46 ?_
      refine g_topi (v := rf 132) ((cpyR_in (rf := rf) (f := 132) (t := 0) (n := 12) (i := 0) (by decide))) ?_
      exact g_iret C hR (⟨rfl, rfl⟩) dX9_back_47
    · skip
      exact absurd c17 hk
  · skip
    exact absurd (by decide) (bI_0 c6)

set_option maxHeartbeats 4000000 in
set_option maxRecDepth 100000 in
theorem c_X9_backS0 (l : Launch) (E : EX) (mo : Nat) (rw : Nat) (mh : Nat) (md : Nat) (mk : Nat) (mt : Nat) (z1 : Nat) (z2 : Nat) (z3 : Nat) (y1 : Nat) (y2 : Nat) (y3 : Nat) (y4 : Nat) (ya : Nat) (yw : Nat) (yp : Nat) (st0 : Int32) (lg : Int32) (sf : Int32) (dg : Int32) (un : Int32) (le : Int32) (sm : Int32) (tr : Int64) (at_ : Int32) (be : Int32) (rs : Int32) (nu : Int32) (os : Int32) (od : Int32) (sl : Int32) (fpu : Int32) (wn : Int32) (kf : Nat → Int32) (hk : kf 0 = 0) : Ct l E yX9_back cX9_back 2 (some .int) (rmL 3 0 0) [.ref mo, .int (nI 0)] [(mo, .inr (9, [.ref rw, .int st0, .int lg, .int sf, .int dg, .ref mh, .ref md, .int un, .ref mk, .ref mt, .int le, .int sm, .ref z1, .ref z2, .ref z3, .long tr, .int at_, .int be, .int rs, .ref y1, .ref y2, .ref y3, .ref y4, .int nu, .int os, .int od, .int sl, .ref ya, .int fpu, .ref yw, .int wn, .ref yp])), aZ E mk 2 kf] (fun (rv_ : Option Value) (rw_ : va_W) => rv_ = some (.int (-2)) ∧ rw_ = [(mo, .inr (9, [.ref rw, .int st0, .int lg, .int sf, .int dg, .ref mh, .ref md, .int un, .ref mk, .ref mt, .int le, .int sm, .ref z1, .ref z2, .ref z3, .long tr, .int at_, .int be, .int rs, .ref y1, .ref y2, .ref y3, .ref y4, .int nu, .int os, .int od, .int sl, .ref ya, .int fpu, .ref yw, .int wn, .ref yp])), aZ E mk 2 kf]) 0 0 := by
  refine Ct_of (by decide) (Nat.le_of_ble_eq_true rfl) ?_
  intro k hkl hnl C hR hin_
  subst hkl
  show G k E 0 0 0 [some (.ref mo), some (.int (nI 0))] [] [(mo, .inr (9, [.ref rw, .int st0, .int lg, .int sf, .int dg, .ref mh, .ref md, .int un, .ref mk, .ref mt, .int le, .int sm, .ref z1, .ref z2, .ref z3, .long tr, .int at_, .int be, .int rs, .ref y1, .ref y2, .ref y3, .ref y4, .int nu, .int os, .int od, .int sl, .ref ya, .int fpu, .ref yw, .int wn, .ref yp])), aZ E mk 2 kf]
  refine g_iload_n C dX9_back_0 rfl ?_
  refine g_iconst (v := 0) C dX9_back_1 (by decide) ?_
  refine g_iconst (v := 1) C dX9_back_2 (by decide) ?_
  refine g_callS C (c_X9_in k.l E (nI 0) 0 1) kmX9_69 ktX9_in knX9 kcX9_in ⟨rfl, rfl⟩ kdX9_in ⟨by decide, by decide⟩ ⟨by decide, by decide⟩ [] [0, 1] rfl (wr := [(mo, .inr (9, [.ref rw, .int st0, .int lg, .int sf, .int dg, .ref mh, .ref md, .int un, .ref mk, .ref mt, .int le, .int sm, .ref z1, .ref z2, .ref z3, .long tr, .int at_, .int be, .int rs, .ref y1, .ref y2, .ref y3, .ref y4, .int nu, .int os, .int od, .int sl, .ref ya, .int fpu, .ref yw, .int wn, .ref yp])), aZ E mk 2 kf]) rfl (by decide +kernel) (by decide +kernel) (by decide +kernel) rfl (As := [.int (nI 0), .int 0, .int 1]) (rest := []) rfl (Nat.le_of_ble_eq_true rfl) dX9_back_3 (fun rv_ rw_ hp_ => ?_)
  obtain ⟨rfl, rfl⟩ := hp_
  refine g_rep [0, 1] (ws' := [(mo, .inr (9, [.ref rw, .int st0, .int lg, .int sf, .int dg, .ref mh, .ref md, .int un, .ref mk, .ref mt, .int le, .int sm, .ref z1, .ref z2, .ref z3, .long tr, .int at_, .int be, .int rs, .ref y1, .ref y2, .ref y3, .ref y4, .int nu, .int os, .int od, .int sl, .ref ya, .int fpu, .ref yw, .int wn, .ref yp])), aZ E mk 2 kf]) (st' := [.int (bI (0 ≤ (nI 0) ∧ (nI 0) ≤ 1))]) (n' := 0) (z' := 0) (pc' := 6) rfl rfl rfl rfl (by decide +kernel) rfl ?_
  refine g_if_ne (tgt := 11) C dX9_back_6 (by decide) (fun c6 => ?_) (fun c6 => ?_)
  · skip
    refine g_aload_n C dX9_back_11 rfl ?_
    refine g_get C kwX9 0 rfl rfl 8 (by decide) kfX9_29 rfl dX9_back_12 ?_
    refine g_iload_n C dX9_back_15 rfl ?_
    refine g_zald C 1 0 rfl (rfl) (by decide) (by decide) dX9_back_16 ?_
    refine g_if_ne (tgt := 23) C dX9_back_17 (by decide) (fun c17 => ?_) (fun c17 => ?_)
    · skip
      exact absurd hk c17
    · skip
      refine g_bipush (v := (-2)) C dX9_back_20 (by decide) ?_
      exact g_iret C hR (⟨rfl, rfl⟩) dX9_back_22
  · skip
    exact absurd (by decide) (bI_0 c6)

set_option maxHeartbeats 4000000 in
set_option maxRecDepth 100000 in
theorem c_X9_keep1 (l : Launch) (E : EX) (mo : Nat) (rw : Nat) (mh : Nat) (md : Nat) (mk : Nat) (mt : Nat) (z1 : Nat) (z2 : Nat) (z3 : Nat) (y1 : Nat) (y2 : Nat) (y3 : Nat) (y4 : Nat) (ya : Nat) (yw : Nat) (yp : Nat) (st0 : Int32) (lg : Int32) (sf : Int32) (dg : Int32) (un : Int32) (le : Int32) (sm : Int32) (tr : Int64) (at_ : Int32) (be : Int32) (rs : Int32) (nu : Int32) (os : Int32) (od : Int32) (sl : Int32) (fpu : Int32) (wn : Int32) (rf : Nat → Int32) (kf : Nat → Int32) : Ct l E yX9_keep cX9_keep 2 (some .int) (rmL 3 0 0) [.ref mo, .int (nI 1)] [(mo, .inr (9, [.ref rw, .int st0, .int lg, .int sf, .int dg, .ref mh, .ref md, .int un, .ref mk, .ref mt, .int le, .int sm, .ref z1, .ref z2, .ref z3, .long tr, .int at_, .int be, .int rs, .ref y1, .ref y2, .ref y3, .ref y4, .int nu, .int os, .int od, .int sl, .ref ya, .int fpu, .ref yw, .int wn, .ref yp])), aI E rw 168 rf, aZ E mk 2 kf] (fun (rv_ : Option Value) (rw_ : va_W) => rv_ = some (.int (rf 0)) ∧ rw_ = [(mo, .inr (9, [.ref rw, .int st0, .int lg, .int sf, .int dg, .ref mh, .ref md, .int un, .ref mk, .ref mt, .int le, .int sm, .ref z1, .ref z2, .ref z3, .long tr, .int at_, .int be, .int rs, .ref y1, .ref y2, .ref y3, .ref y4, .int nu, .int os, .int od, .int sl, .ref ya, .int fpu, .ref yw, .int wn, .ref yp])), aI E rw 168 (va_cpy rf rf 0 144 12), aZ E mk 2 (upd kf 1 1)]) 0 0 := by
  refine Ct_of (by decide) (Nat.le_of_ble_eq_true rfl) ?_
  intro k hkl hnl C hR hin_
  subst hkl
  show G k E 0 0 0 [some (.ref mo), some (.int (nI 1))] [] [(mo, .inr (9, [.ref rw, .int st0, .int lg, .int sf, .int dg, .ref mh, .ref md, .int un, .ref mk, .ref mt, .int le, .int sm, .ref z1, .ref z2, .ref z3, .long tr, .int at_, .int be, .int rs, .ref y1, .ref y2, .ref y3, .ref y4, .int nu, .int os, .int od, .int sl, .ref ya, .int fpu, .ref yw, .int wn, .ref yp])), aI E rw 168 rf, aZ E mk 2 kf]
  refine g_iload_n C dX9_keep_0 rfl ?_
  refine g_iconst (v := 0) C dX9_keep_1 (by decide) ?_
  refine g_iconst (v := 1) C dX9_keep_2 (by decide) ?_
  refine g_callS C (c_X9_in k.l E (nI 1) 0 1) kmX9_69 ktX9_in knX9 kcX9_in ⟨rfl, rfl⟩ kdX9_in ⟨by decide, by decide⟩ ⟨by decide, by decide⟩ [] [0, 1, 2] rfl (wr := [(mo, .inr (9, [.ref rw, .int st0, .int lg, .int sf, .int dg, .ref mh, .ref md, .int un, .ref mk, .ref mt, .int le, .int sm, .ref z1, .ref z2, .ref z3, .long tr, .int at_, .int be, .int rs, .ref y1, .ref y2, .ref y3, .ref y4, .int nu, .int os, .int od, .int sl, .ref ya, .int fpu, .ref yw, .int wn, .ref yp])), aI E rw 168 rf, aZ E mk 2 kf]) rfl (by decide +kernel) (by decide +kernel) (by decide +kernel) rfl (As := [.int (nI 1), .int 0, .int 1]) (rest := []) rfl (Nat.le_of_ble_eq_true rfl) dX9_keep_3 (fun rv_ rw_ hp_ => ?_)
  obtain ⟨rfl, rfl⟩ := hp_
  refine g_rep [0, 1, 2] (ws' := [(mo, .inr (9, [.ref rw, .int st0, .int lg, .int sf, .int dg, .ref mh, .ref md, .int un, .ref mk, .ref mt, .int le, .int sm, .ref z1, .ref z2, .ref z3, .long tr, .int at_, .int be, .int rs, .ref y1, .ref y2, .ref y3, .ref y4, .int nu, .int os, .int od, .int sl, .ref ya, .int fpu, .ref yw, .int wn, .ref yp])), aI E rw 168 rf, aZ E mk 2 kf]) (st' := [.int (bI (0 ≤ (nI 1) ∧ (nI 1) ≤ 1))]) (n' := 0) (z' := 0) (pc' := 6) rfl rfl rfl rfl (by decide +kernel) rfl ?_
  refine g_if_ne (tgt := 11) C dX9_keep_6 (by decide) (fun c6 => ?_) (fun c6 => ?_)
  · skip
    refine g_aload_n C dX9_keep_11 rfl ?_
    refine g_iconst (v := 0) C dX9_keep_12 (by decide) ?_
    refine g_sipush (v := 132) C dX9_keep_13 (by decide) ?_
    refine g_bipush (v := 12) C dX9_keep_16 (by decide) ?_
    refine g_iload_n C dX9_keep_18 rfl ?_
    refine g_imul C dX9_keep_19 ?_
    refine g_topi (v := nI 12) (by decide) ?_
    refine g_iadd C dX9_keep_20 ?_
    refine g_topi (v := nI 144) (by decide) ?_
    refine g_callV C (c_X9_copyRow k.l E mo rw mh md mk mt z1 z2 z3 y1 y2 y3 y4 ya yw yp st0 lg sf dg un le sm tr at_ be rs nu os od sl fpu wn rf 0 144 (by decide) (by decide) (Or.inr (by decide))) kmX9_145 kiX9_copyRow ksX9_copyRow knX9 kcX9_copyRow ⟨rfl, rfl⟩ ⟨rfl, kdX9_copyRow⟩ ⟨by decide, by decide⟩ ⟨by decide, by decide⟩ [0, 1] [2] rfl (wr := [aZ E mk 2 kf]) rfl (by decide +kernel) (by decide +kernel) (by decide +kernel) 0 9 rfl rfl rfl (As := [.int 0, .int (nI 144)]) (rest := []) rfl (Nat.le_of_ble_eq_true rfl) dX9_keep_21 (fun rv_ rw_ hp_ => ?_)
    obtain ⟨rfl, rfl⟩ := hp_
    refine g_rep [1, 2, 0] (ws' := [(mo, .inr (9, [.ref rw, .int st0, .int lg, .int sf, .int dg, .ref mh, .ref md, .int un, .ref mk, .ref mt, .int le, .int sm, .ref z1, .ref z2, .ref z3, .long tr, .int at_, .int be, .int rs, .ref y1, .ref y2, .ref y3, .ref y4, .int nu, .int os, .int od, .int sl, .ref ya, .int fpu, .ref yw, .int wn, .ref yp])), aI E rw 168 (va_cpy rf rf 0 144 12), aZ E mk 2 kf]) (st' := []) (n' := 0) (z' := 0) (pc' := 24) rfl rfl rfl rfl (by decide +kernel) rfl ?_
    refine g_aload_n C dX9_keep_24 rfl ?_
    refine g_get C kwX9 0 rfl rfl 8 (by decide) kfX9_29 rfl dX9_keep_25 ?_
    refine g_iload_n C dX9_keep_28 rfl ?_
    refine g_iconst (v := 1) C dX9_keep_29 (by decide) ?_
    refine g_zast (ws' := [(mo, .inr (9, [.ref rw, .int st0, .int lg, .int sf, .int dg, .ref mh, .ref md, .int un, .ref mk, .ref mt, .int le, .int sm, .ref z1, .ref z2, .ref z3, .long tr, .int at_, .int be, .int rs, .ref y1, .ref y2, .ref y3, .ref y4, .int nu, .int os, .int od, .int sl, .ref ya, .int fpu, .ref yw, .int wn, .ref yp])), aI E rw 168 (va_cpy rf rf 0 144 12), aZ E mk 2 (upd kf 1 1)]) C 2 1 rfl (rfl) (by decide) (by decide) (rfl) rfl dX9_keep_30 ?_
    refine g_aload_n C dX9_keep_31 rfl ?_
    refine g_get C kwX9 0 rfl rfl 0 (by decide) kfX9_7 rfl dX9_keep_32 ?_
    refine g_iconst (v := 0) C dX9_keep_35 (by decide) ?_
    refine g_iald C 1 0 rfl (rfl) (by decide) (by decide) dX9_keep_36 ?_
    refine g_topi (v := rf 0) (cpyR_out (by decide)) ?_
    exact g_iret C hR (⟨rfl, rfl⟩) dX9_keep_37
  · skip
    exact absurd (by decide) (bI_0 c6)

set_option maxHeartbeats 4000000 in
set_option maxRecDepth 100000 in
theorem c_X9_back1 (l : Launch) (E : EX) (mo : Nat) (rw : Nat) (mh : Nat) (md : Nat) (mk : Nat) (mt : Nat) (z1 : Nat) (z2 : Nat) (z3 : Nat) (y1 : Nat) (y2 : Nat) (y3 : Nat) (y4 : Nat) (ya : Nat) (yw : Nat) (yp : Nat) (st0 : Int32) (lg : Int32) (sf : Int32) (dg : Int32) (un : Int32) (le : Int32) (sm : Int32) (tr : Int64) (at_ : Int32) (be : Int32) (rs : Int32) (nu : Int32) (os : Int32) (od : Int32) (sl : Int32) (fpu : Int32) (wn : Int32) (rf : Nat → Int32) (kf : Nat → Int32) (hk : ¬ kf 1 = 0) : Ct l E yX9_back cX9_back 2 (some .int) (rmL 3 0 0) [.ref mo, .int (nI 1)] [(mo, .inr (9, [.ref rw, .int st0, .int lg, .int sf, .int dg, .ref mh, .ref md, .int un, .ref mk, .ref mt, .int le, .int sm, .ref z1, .ref z2, .ref z3, .long tr, .int at_, .int be, .int rs, .ref y1, .ref y2, .ref y3, .ref y4, .int nu, .int os, .int od, .int sl, .ref ya, .int fpu, .ref yw, .int wn, .ref yp])), aI E rw 168 rf, aZ E mk 2 kf] (fun (rv_ : Option Value) (rw_ : va_W) => rv_ = some (.int (rf 144)) ∧ rw_ = [(mo, .inr (9, [.ref rw, .int st0, .int lg, .int sf, .int dg, .ref mh, .ref md, .int 0, .ref mk, .ref mt, .int le, .int sm, .ref z1, .ref z2, .ref z3, .long tr, .int at_, .int be, .int rs, .ref y1, .ref y2, .ref y3, .ref y4, .int nu, .int os, .int od, .int sl, .ref ya, .int fpu, .ref yw, .int wn, .ref yp])), aI E rw 168 (va_cpy rf rf 144 0 12), aZ E mk 2 kf]) 0 0 := by
  refine Ct_of (by decide) (Nat.le_of_ble_eq_true rfl) ?_
  intro k hkl hnl C hR hin_
  subst hkl
  show G k E 0 0 0 [some (.ref mo), some (.int (nI 1))] [] [(mo, .inr (9, [.ref rw, .int st0, .int lg, .int sf, .int dg, .ref mh, .ref md, .int un, .ref mk, .ref mt, .int le, .int sm, .ref z1, .ref z2, .ref z3, .long tr, .int at_, .int be, .int rs, .ref y1, .ref y2, .ref y3, .ref y4, .int nu, .int os, .int od, .int sl, .ref ya, .int fpu, .ref yw, .int wn, .ref yp])), aI E rw 168 rf, aZ E mk 2 kf]
  refine g_iload_n C dX9_back_0 rfl ?_
  refine g_iconst (v := 0) C dX9_back_1 (by decide) ?_
  refine g_iconst (v := 1) C dX9_back_2 (by decide) ?_
  refine g_callS C (c_X9_in k.l E (nI 1) 0 1) kmX9_69 ktX9_in knX9 kcX9_in ⟨rfl, rfl⟩ kdX9_in ⟨by decide, by decide⟩ ⟨by decide, by decide⟩ [] [0, 1, 2] rfl (wr := [(mo, .inr (9, [.ref rw, .int st0, .int lg, .int sf, .int dg, .ref mh, .ref md, .int un, .ref mk, .ref mt, .int le, .int sm, .ref z1, .ref z2, .ref z3, .long tr, .int at_, .int be, .int rs, .ref y1, .ref y2, .ref y3, .ref y4, .int nu, .int os, .int od, .int sl, .ref ya, .int fpu, .ref yw, .int wn, .ref yp])), aI E rw 168 rf, aZ E mk 2 kf]) rfl (by decide +kernel) (by decide +kernel) (by decide +kernel) rfl (As := [.int (nI 1), .int 0, .int 1]) (rest := []) rfl (Nat.le_of_ble_eq_true rfl) dX9_back_3 (fun rv_ rw_ hp_ => ?_)
  obtain ⟨rfl, rfl⟩ := hp_
  refine g_rep [0, 1, 2] (ws' := [(mo, .inr (9, [.ref rw, .int st0, .int lg, .int sf, .int dg, .ref mh, .ref md, .int un, .ref mk, .ref mt, .int le, .int sm, .ref z1, .ref z2, .ref z3, .long tr, .int at_, .int be, .int rs, .ref y1, .ref y2, .ref y3, .ref y4, .int nu, .int os, .int od, .int sl, .ref ya, .int fpu, .ref yw, .int wn, .ref yp])), aI E rw 168 rf, aZ E mk 2 kf]) (st' := [.int (bI (0 ≤ (nI 1) ∧ (nI 1) ≤ 1))]) (n' := 0) (z' := 0) (pc' := 6) rfl rfl rfl rfl (by decide +kernel) rfl ?_
  refine g_if_ne (tgt := 11) C dX9_back_6 (by decide) (fun c6 => ?_) (fun c6 => ?_)
  · skip
    refine g_aload_n C dX9_back_11 rfl ?_
    refine g_get C kwX9 0 rfl rfl 8 (by decide) kfX9_29 rfl dX9_back_12 ?_
    refine g_iload_n C dX9_back_15 rfl ?_
    refine g_zald C 2 1 rfl (rfl) (by decide) (by decide) dX9_back_16 ?_
    refine g_if_ne (tgt := 23) C dX9_back_17 (by decide) (fun c17 => ?_) (fun c17 => ?_)
    · skip
      refine g_aload_n C dX9_back_23 rfl ?_
      refine g_sipush (v := 132) C dX9_back_24 (by decide) ?_
      refine g_bipush (v := 12) C dX9_back_27 (by decide) ?_
      refine g_iload_n C dX9_back_29 rfl ?_
      refine g_imul C dX9_back_30 ?_
      refine g_topi (v := nI 12) (by decide) ?_
      refine g_iadd C dX9_back_31 ?_
      refine g_topi (v := nI 144) (by decide) ?_
      refine g_iconst (v := 0) C dX9_back_32 (by decide) ?_
      refine g_callV C (c_X9_copyRow k.l E mo rw mh md mk mt z1 z2 z3 y1 y2 y3 y4 ya yw yp st0 lg sf dg un le sm tr at_ be rs nu os od sl fpu wn rf 144 0 (by decide) (by decide) (Or.inl (by decide))) kmX9_145 kiX9_copyRow ksX9_copyRow knX9 kcX9_copyRow ⟨rfl, rfl⟩ ⟨rfl, kdX9_copyRow⟩ ⟨by decide, by decide⟩ ⟨by decide, by decide⟩ [0, 1] [2] rfl (wr := [aZ E mk 2 kf]) rfl (by decide +kernel) (by decide +kernel) (by decide +kernel) 0 9 rfl rfl rfl (As := [.int (nI 144), .int 0]) (rest := []) rfl (Nat.le_of_ble_eq_true rfl) dX9_back_33 (fun rv_ rw_ hp_ => ?_)
      obtain ⟨rfl, rfl⟩ := hp_
      refine g_rep [1, 2, 0] (ws' := [(mo, .inr (9, [.ref rw, .int st0, .int lg, .int sf, .int dg, .ref mh, .ref md, .int un, .ref mk, .ref mt, .int le, .int sm, .ref z1, .ref z2, .ref z3, .long tr, .int at_, .int be, .int rs, .ref y1, .ref y2, .ref y3, .ref y4, .int nu, .int os, .int od, .int sl, .ref ya, .int fpu, .ref yw, .int wn, .ref yp])), aI E rw 168 (va_cpy rf rf 144 0 12), aZ E mk 2 kf]) (st' := []) (n' := 0) (z' := 0) (pc' := 36) rfl rfl rfl rfl (by decide +kernel) rfl ?_
      refine g_aload_n C dX9_back_36 rfl ?_
      refine g_iconst (v := 0) C dX9_back_37 (by decide) ?_
      refine g_put (ws' := [(mo, .inr (9, [.ref rw, .int st0, .int lg, .int sf, .int dg, .ref mh, .ref md, .int 0, .ref mk, .ref mt, .int le, .int sm, .ref z1, .ref z2, .ref z3, .long tr, .int at_, .int be, .int rs, .ref y1, .ref y2, .ref y3, .ref y4, .int nu, .int os, .int od, .int sl, .ref ya, .int fpu, .ref yw, .int wn, .ref yp])), aI E rw 168 (va_cpy rf rf 144 0 12), aZ E mk 2 kf]) C kwX9 tyX9 tyX9_ok nmX9 0 rfl rfl 7 (by decide) kfX9_116 rfl rfl rfl (Nat.le_of_ble_eq_true rfl) rfl dX9_back_38 ?_
      refine g_aload_n C dX9_back_41 rfl ?_
      refine g_get C kwX9 0 rfl rfl 0 (by decide) kfX9_7 rfl dX9_back_42 ?_
      refine g_iconst (v := 0) C dX9_back_45 (by decide) ?_
      refine g_iald C 1 0 rfl (rfl) (by decide) (by decide) dX9_back_46 ?_
      refine g_topi (v := rf 144) ((cpyR_in (rf := rf) (f := 144) (t := 0) (n := 12) (i := 0) (by decide))) ?_
      exact g_iret C hR (⟨rfl, rfl⟩) dX9_back_47
    · skip
      exact absurd c17 hk
  · skip
    exact absurd (by decide) (bI_0 c6)

set_option maxHeartbeats 4000000 in
set_option maxRecDepth 100000 in
theorem c_X9_backS1 (l : Launch) (E : EX) (mo : Nat) (rw : Nat) (mh : Nat) (md : Nat) (mk : Nat) (mt : Nat) (z1 : Nat) (z2 : Nat) (z3 : Nat) (y1 : Nat) (y2 : Nat) (y3 : Nat) (y4 : Nat) (ya : Nat) (yw : Nat) (yp : Nat) (st0 : Int32) (lg : Int32) (sf : Int32) (dg : Int32) (un : Int32) (le : Int32) (sm : Int32) (tr : Int64) (at_ : Int32) (be : Int32) (rs : Int32) (nu : Int32) (os : Int32) (od : Int32) (sl : Int32) (fpu : Int32) (wn : Int32) (kf : Nat → Int32) (hk : kf 1 = 0) : Ct l E yX9_back cX9_back 2 (some .int) (rmL 3 0 0) [.ref mo, .int (nI 1)] [(mo, .inr (9, [.ref rw, .int st0, .int lg, .int sf, .int dg, .ref mh, .ref md, .int un, .ref mk, .ref mt, .int le, .int sm, .ref z1, .ref z2, .ref z3, .long tr, .int at_, .int be, .int rs, .ref y1, .ref y2, .ref y3, .ref y4, .int nu, .int os, .int od, .int sl, .ref ya, .int fpu, .ref yw, .int wn, .ref yp])), aZ E mk 2 kf] (fun (rv_ : Option Value) (rw_ : va_W) => rv_ = some (.int (-2)) ∧ rw_ = [(mo, .inr (9, [.ref rw, .int st0, .int lg, .int sf, .int dg, .ref mh, .ref md, .int un, .ref mk, .ref mt, .int le, .int sm, .ref z1, .ref z2, .ref z3, .long tr, .int at_, .int be, .int rs, .ref y1, .ref y2, .ref y3, .ref y4, .int nu, .int os, .int od, .int sl, .ref ya, .int fpu, .ref yw, .int wn, .ref yp])), aZ E mk 2 kf]) 0 0 := by
  refine Ct_of (by decide) (Nat.le_of_ble_eq_true rfl) ?_
  intro k hkl hnl C hR hin_
  subst hkl
  show G k E 0 0 0 [some (.ref mo), some (.int (nI 1))] [] [(mo, .inr (9, [.ref rw, .int st0, .int lg, .int sf, .int dg, .ref mh, .ref md, .int un, .ref mk, .ref mt, .int le, .int sm, .ref z1, .ref z2, .ref z3, .long tr, .int at_, .int be, .int rs, .ref y1, .ref y2, .ref y3, .ref y4, .int nu, .int os, .int od, .int sl, .ref ya, .int fpu, .ref yw, .int wn, .ref yp])), aZ E mk 2 kf]
  refine g_iload_n C dX9_back_0 rfl ?_
  refine g_iconst (v := 0) C dX9_back_1 (by decide) ?_
  refine g_iconst (v := 1) C dX9_back_2 (by decide) ?_
  refine g_callS C (c_X9_in k.l E (nI 1) 0 1) kmX9_69 ktX9_in knX9 kcX9_in ⟨rfl, rfl⟩ kdX9_in ⟨by decide, by decide⟩ ⟨by decide, by decide⟩ [] [0, 1] rfl (wr := [(mo, .inr (9, [.ref rw, .int st0, .int lg, .int sf, .int dg, .ref mh, .ref md, .int un, .ref mk, .ref mt, .int le, .int sm, .ref z1, .ref z2, .ref z3, .long tr, .int at_, .int be, .int rs, .ref y1, .ref y2, .ref y3, .ref y4, .int nu, .int os, .int od, .int sl, .ref ya, .int fpu, .ref yw, .int wn, .ref yp])), aZ E mk 2 kf]) rfl (by decide +kernel) (by decide +kernel) (by decide +kernel) rfl (As := [.int (nI 1), .int 0, .int 1]) (rest := []) rfl (Nat.le_of_ble_eq_true rfl) dX9_back_3 (fun rv_ rw_ hp_ => ?_)
  obtain ⟨rfl, rfl⟩ := hp_
  refine g_rep [0, 1] (ws' := [(mo, .inr (9, [.ref rw, .int st0, .int lg, .int sf, .int dg, .ref mh, .ref md, .int un, .ref mk, .ref mt, .int le, .int sm, .ref z1, .ref z2, .ref z3, .long tr, .int at_, .int be, .int rs, .ref y1, .ref y2, .ref y3, .ref y4, .int nu, .int os, .int od, .int sl, .ref ya, .int fpu, .ref yw, .int wn, .ref yp])), aZ E mk 2 kf]) (st' := [.int (bI (0 ≤ (nI 1) ∧ (nI 1) ≤ 1))]) (n' := 0) (z' := 0) (pc' := 6) rfl rfl rfl rfl (by decide +kernel) rfl ?_
  refine g_if_ne (tgt := 11) C dX9_back_6 (by decide) (fun c6 => ?_) (fun c6 => ?_)
  · skip
    refine g_aload_n C dX9_back_11 rfl ?_
    refine g_get C kwX9 0 rfl rfl 8 (by decide) kfX9_29 rfl dX9_back_12 ?_
    refine g_iload_n C dX9_back_15 rfl ?_
    refine g_zald C 1 1 rfl (rfl) (by decide) (by decide) dX9_back_16 ?_
    refine g_if_ne (tgt := 23) C dX9_back_17 (by decide) (fun c17 => ?_) (fun c17 => ?_)
    · skip
      exact absurd hk c17
    · skip
      refine g_bipush (v := (-2)) C dX9_back_20 (by decide) ?_
      exact g_iret C hR (⟨rfl, rfl⟩) dX9_back_22
  · skip
    exact absurd (by decide) (bI_0 c6)

set_option maxHeartbeats 4000000 in
set_option maxRecDepth 100000 in
theorem c_X9_sees (l : Launch) (E : EX) (mo : Nat) (rw : Nat) (mh : Nat) (md : Nat) (mk : Nat) (mt : Nat) (z1 : Nat) (z2 : Nat) (z3 : Nat) (y1 : Nat) (y2 : Nat) (y3 : Nat) (y4 : Nat) (ya : Nat) (yw : Nat) (yp : Nat) (lg : Int32) (sf : Int32) (dg : Int32) (un : Int32) (le : Int32) (tr : Int64) (at_ : Int32) (be : Int32) (rs : Int32) (nu : Int32) (os : Int32) (od : Int32) (sl : Int32) (fpu : Int32) (wn : Int32) (n : Nat) (m : Nat) (e1 : Nat → Int32) (e2 : Nat → Int32) (e3 : Nat → Int32) (j : Nat) (y : Int32) (z0 : Int32) (hn : n ≤ 9) (hj : j < n) (hy : 1 ≤ y ∧ y ≤ 60) (hz : 0 ≤ z0 ∧ z0 ≤ nI n) (hm6 : m < 6) : Ct l E yX9_sees cX9_sees 4 (some .int) (rmL 3 0 0) [.ref mo, .int (nI j), .int y, .int z0] [(mo, .inr (9, [.ref rw, .int (nI n), .int lg, .int sf, .int dg, .ref mh, .ref md, .int un, .ref mk, .ref mt, .int le, .int (nI m), .ref z1, .ref z2, .ref z3, .long tr, .int at_, .int be, .int rs, .ref y1, .ref y2, .ref y3, .ref y4, .int nu, .int os, .int od, .int sl, .ref ya, .int fpu, .ref yw, .int wn, .ref yp])), aI E z1 6 e1, aI E z2 6 e2, aI E z3 6 e3] (fun (rv_ : Option Value) (rw_ : va_W) => rv_ = some (.int (nI (m + 1))) ∧ rw_ = [(mo, .inr (9, [.ref rw, .int (nI n), .int lg, .int sf, .int dg, .ref mh, .ref md, .int un, .ref mk, .ref mt, .int le, .int (nI (m + 1)), .ref z1, .ref z2, .ref z3, .long tr, .int at_, .int be, .int rs, .ref y1, .ref y2, .ref y3, .ref y4, .int nu, .int os, .int od, .int sl, .ref ya, .int fpu, .ref yw, .int wn, .ref yp])), aI E z1 6 (upd e1 m (nI j)), aI E z2 6 (upd e2 m y), aI E z3 6 (upd e3 m z0)]) 0 0 := by
  refine Ct_of (by decide) (Nat.le_of_ble_eq_true rfl) ?_
  intro k hkl hnl C hR hin_
  subst hkl
  show G k E 0 0 0 [some (.ref mo), some (.int (nI j)), some (.int y), some (.int z0)] [] [(mo, .inr (9, [.ref rw, .int (nI n), .int lg, .int sf, .int dg, .ref mh, .ref md, .int un, .ref mk, .ref mt, .int le, .int (nI m), .ref z1, .ref z2, .ref z3, .long tr, .int at_, .int be, .int rs, .ref y1, .ref y2, .ref y3, .ref y4, .int nu, .int os, .int od, .int sl, .ref ya, .int fpu, .ref yw, .int wn, .ref yp])), aI E z1 6 e1, aI E z2 6 e2, aI E z3 6 e3]
  refine g_aload_n C dX9_sees_0 rfl ?_
  refine g_iload_n C dX9_sees_1 rfl ?_
  refine g_callV C (c_X9_isStep k.l E mo rw mh md mk mt z1 z2 z3 y1 y2 y3 y4 ya yw yp (nI n) lg sf dg un le (nI m) tr at_ be rs nu os od sl fpu wn (nI j)) kmX9_122 kiX9_isStep ksX9_isStep knX9 kcX9_isStep ⟨rfl, rfl⟩ ⟨rfl, kdX9_isStep⟩ ⟨by decide, by decide⟩ ⟨by decide, by decide⟩ [0] [1, 2, 3] rfl (wr := [aI E z1 6 e1, aI E z2 6 e2, aI E z3 6 e3]) rfl (by decide +kernel) (by decide +kernel) (by decide +kernel) 0 9 rfl rfl rfl (As := [.int (nI j)]) (rest := []) rfl (Nat.le_of_ble_eq_true rfl) dX9_sees_2 (fun rv_ rw_ hp_ => ?_)
  obtain ⟨rfl, rfl⟩ := hp_
  refine g_rep [3, 0, 1, 2] (ws' := [(mo, .inr (9, [.ref rw, .int (nI n), .int lg, .int sf, .int dg, .ref mh, .ref md, .int un, .ref mk, .ref mt, .int le, .int (nI m), .ref z1, .ref z2, .ref z3, .long tr, .int at_, .int be, .int rs, .ref y1, .ref y2, .ref y3, .ref y4, .int nu, .int os, .int od, .int sl, .ref ya, .int fpu, .ref yw, .int wn, .ref yp])), aI E z1 6 e1, aI E z2 6 e2, aI E z3 6 e3]) (st' := [.int (bI (0 ≤ (nI j) ∧ (nI j) ≤ (nI n) - 1))]) (n' := 0) (z' := 0) (pc' := 5) rfl rfl rfl rfl (by decide +kernel) rfl ?_
  refine g_if_eq (tgt := 30) C dX9_sees_5 (by decide) (fun c5 => ?_) (fun c5 => ?_)
  · skip
    exact absurd (has_t hj (by omega)) (bI_0 c5)
  · skip
    refine g_iload_n C dX9_sees_8 rfl ?_
    refine g_iconst (v := 1) C dX9_sees_9 (by decide) ?_
    refine g_bipush (v := 60) C dX9_sees_10 (by decide) ?_
    refine g_callS C (c_X9_in k.l E y 1 60) kmX9_69 ktX9_in knX9 kcX9_in ⟨rfl, rfl⟩ kdX9_in ⟨by decide, by decide⟩ ⟨by decide, by decide⟩ [] [0, 1, 2, 3] rfl (wr := [(mo, .inr (9, [.ref rw, .int (nI n), .int lg, .int sf, .int dg, .ref mh, .ref md, .int un, .ref mk, .ref mt, .int le, .int (nI m), .ref z1, .ref z2, .ref z3, .long tr, .int at_, .int be, .int rs, .ref y1, .ref y2, .ref y3, .ref y4, .int nu, .int os, .int od, .int sl, .ref ya, .int fpu, .ref yw, .int wn, .ref yp])), aI E z1 6 e1, aI E z2 6 e2, aI E z3 6 e3]) rfl (by decide +kernel) (by decide +kernel) (by decide +kernel) rfl (As := [.int y, .int 1, .int 60]) (rest := []) rfl (Nat.le_of_ble_eq_true rfl) dX9_sees_12 (fun rv_ rw_ hp_ => ?_)
    obtain ⟨rfl, rfl⟩ := hp_
    refine g_rep [0, 1, 2, 3] (ws' := [(mo, .inr (9, [.ref rw, .int (nI n), .int lg, .int sf, .int dg, .ref mh, .ref md, .int un, .ref mk, .ref mt, .int le, .int (nI m), .ref z1, .ref z2, .ref z3, .long tr, .int at_, .int be, .int rs, .ref y1, .ref y2, .ref y3, .ref y4, .int nu, .int os, .int od, .int sl, .ref ya, .int fpu, .ref yw, .int wn, .ref yp])), aI E z1 6 e1, aI E z2 6 e2, aI E z3 6 e3]) (st' := [.int (bI (1 ≤ y ∧ y ≤ 60))]) (n' := 0) (z' := 0) (pc' := 15) rfl rfl rfl rfl (by decide +kernel) rfl ?_
    refine g_if_eq (tgt := 30) C dX9_sees_15 (by decide) (fun c15 => ?_) (fun c15 => ?_)
    · skip
      exact absurd hy (bI_0 c15)
    · skip
      refine g_iload_n C dX9_sees_18 rfl ?_
      refine g_iconst (v := 0) C dX9_sees_19 (by decide) ?_
      refine g_aload_n C dX9_sees_20 rfl ?_
      refine g_get C kwX9 0 rfl rfl 1 (by decide) kfX9_66 rfl dX9_sees_21 ?_
      refine g_callS C (c_X9_in k.l E z0 0 (nI n)) kmX9_69 ktX9_in knX9 kcX9_in ⟨rfl, rfl⟩ kdX9_in ⟨by decide, by decide⟩ ⟨by decide, by decide⟩ [] [0, 1, 2, 3] rfl (wr := [(mo, .inr (9, [.ref rw, .int (nI n), .int lg, .int sf, .int dg, .ref mh, .ref md, .int un, .ref mk, .ref mt, .int le, .int (nI m), .ref z1, .ref z2, .ref z3, .long tr, .int at_, .int be, .int rs, .ref y1, .ref y2, .ref y3, .ref y4, .int nu, .int os, .int od, .int sl, .ref ya, .int fpu, .ref yw, .int wn, .ref yp])), aI E z1 6 e1, aI E z2 6 e2, aI E z3 6 e3]) rfl (by decide +kernel) (by decide +kernel) (by decide +kernel) rfl (As := [.int z0, .int 0, .int (nI n)]) (rest := []) rfl (Nat.le_of_ble_eq_true rfl) dX9_sees_24 (fun rv_ rw_ hp_ => ?_)
      obtain ⟨rfl, rfl⟩ := hp_
      refine g_rep [0, 1, 2, 3] (ws' := [(mo, .inr (9, [.ref rw, .int (nI n), .int lg, .int sf, .int dg, .ref mh, .ref md, .int un, .ref mk, .ref mt, .int le, .int (nI m), .ref z1, .ref z2, .ref z3, .long tr, .int at_, .int be, .int rs, .ref y1, .ref y2, .ref y3, .ref y4, .int nu, .int os, .int od, .int sl, .ref ya, .int fpu, .ref yw, .int wn, .ref yp])), aI E z1 6 e1, aI E z2 6 e2, aI E z3 6 e3]) (st' := [.int (bI (0 ≤ z0 ∧ z0 ≤ (nI n)))]) (n' := 0) (z' := 0) (pc' := 27) rfl rfl rfl rfl (by decide +kernel) rfl ?_
      refine g_if_ne (tgt := 32) C dX9_sees_27 (by decide) (fun c27 => ?_) (fun c27 => ?_)
      · skip
        refine g_aload_n C dX9_sees_32 rfl ?_
        refine g_get C kwX9 0 rfl rfl 11 (by decide) kfX9_119 rfl dX9_sees_33 ?_
        refine g_bipush (v := 6) C dX9_sees_36 (by decide) ?_
        refine g_icmp_ne (tgt := 44) C dX9_sees_38 (by decide) (fun c38 => ?_) (fun c38 => ?_)
        · skip
          refine g_aload_n C dX9_sees_44 rfl ?_
          refine g_get C kwX9 0 rfl rfl 12 (by decide) kfX9_36 rfl dX9_sees_45 ?_
          refine g_aload_n C dX9_sees_48 rfl ?_
          refine g_get C kwX9 0 rfl rfl 11 (by decide) kfX9_119 rfl dX9_sees_49 ?_
          refine g_iload_n C dX9_sees_52 rfl ?_
          refine g_iast (ws' := [(mo, .inr (9, [.ref rw, .int (nI n), .int lg, .int sf, .int dg, .ref mh, .ref md, .int un, .ref mk, .ref mt, .int le, .int (nI m), .ref z1, .ref z2, .ref z3, .long tr, .int at_, .int be, .int rs, .ref y1, .ref y2, .ref y3, .ref y4, .int nu, .int os, .int od, .int sl, .ref ya, .int fpu, .ref yw, .int wn, .ref yp])), aI E z1 6 (upd e1 m (nI j)), aI E z2 6 e2, aI E z3 6 e3]) C 1 m rfl (rfl) (by omega) (by decide) rfl dX9_sees_53 ?_
          refine g_aload_n C dX9_sees_54 rfl ?_
          refine g_get C kwX9 0 rfl rfl 13 (by decide) kfX9_39 rfl dX9_sees_55 ?_
          refine g_aload_n C dX9_sees_58 rfl ?_
          refine g_get C kwX9 0 rfl rfl 11 (by decide) kfX9_119 rfl dX9_sees_59 ?_
          refine g_iload_n C dX9_sees_62 rfl ?_
          refine g_iast (ws' := [(mo, .inr (9, [.ref rw, .int (nI n), .int lg, .int sf, .int dg, .ref mh, .ref md, .int un, .ref mk, .ref mt, .int le, .int (nI m), .ref z1, .ref z2, .ref z3, .long tr, .int at_, .int be, .int rs, .ref y1, .ref y2, .ref y3, .ref y4, .int nu, .int os, .int od, .int sl, .ref ya, .int fpu, .ref yw, .int wn, .ref yp])), aI E z1 6 (upd e1 m (nI j)), aI E z2 6 (upd e2 m y), aI E z3 6 e3]) C 2 m rfl (rfl) (by omega) (by decide) rfl dX9_sees_63 ?_
          refine g_aload_n C dX9_sees_64 rfl ?_
          refine g_get C kwX9 0 rfl rfl 14 (by decide) kfX9_42 rfl dX9_sees_65 ?_
          refine g_aload_n C dX9_sees_68 rfl ?_
          refine g_get C kwX9 0 rfl rfl 11 (by decide) kfX9_119 rfl dX9_sees_69 ?_
          refine g_iload_n C dX9_sees_72 rfl ?_
          refine g_iast (ws' := [(mo, .inr (9, [.ref rw, .int (nI n), .int lg, .int sf, .int dg, .ref mh, .ref md, .int un, .ref mk, .ref mt, .int le, .int (nI m), .ref z1, .ref z2, .ref z3, .long tr, .int at_, .int be, .int rs, .ref y1, .ref y2, .ref y3, .ref y4, .int nu, .int os, .int od, .int sl, .ref ya, .int fpu, .ref yw, .int wn, .ref yp])), aI E z1 6 (upd e1 m (nI j)), aI E z2 6 (upd e2 m y), aI E z3 6 (upd e3 m z0)]) C 3 m rfl (rfl) (by omega) (by decide) rfl dX9_sees_73 ?_
          refine g_aload_n C dX9_sees_74 rfl ?_
          refine g_dup C dX9_sees_75 rfl ?_
          refine g_get C kwX9 0 rfl rfl 11 (by decide) kfX9_119 rfl dX9_sees_76 ?_
          refine g_iconst (v := 1) C dX9_sees_79 (by decide) ?_
          refine g_iadd C dX9_sees_80 ?_
          refine g_topi (v := nI (m + 1)) (nI_1 m) ?_
          refine g_put (ws' := [(mo, .inr (9, [.ref rw, .int (nI n), .int lg, .int sf, .int dg, .ref mh, .ref md, .int un, .ref mk, .ref mt, .int le, .int (nI (m + 1)), .ref z1, .ref z2, .ref z3, .long tr, .int at_, .int be, .int rs, .ref y1, .ref y2, .ref y3, .ref y4, .int nu, .int os, .int od, .int sl, .ref ya, .int fpu, .ref yw, .int wn, .ref yp])), aI E z1 6 (upd e1 m (nI j)), aI E z2 6 (upd e2 m y), aI E z3 6 (upd e3 m z0)]) C kwX9 tyX9 tyX9_ok nmX9 0 rfl rfl 11 (by decide) kfX9_119 rfl rfl rfl (Nat.le_of_ble_eq_true rfl) rfl dX9_sees_81 ?_
          refine g_aload_n C dX9_sees_84 rfl ?_
          refine g_get C kwX9 0 rfl rfl 11 (by decide) kfX9_119 rfl dX9_sees_85 ?_
          exact g_iret C hR (⟨rfl, rfl⟩) dX9_sees_88
        · skip
          exact absurd ((nI_eq (b := 6) (by omega) (by decide)).mp c38) (by omega)
      · skip
        exact absurd hz (bI_0 c27)

set_option maxHeartbeats 4000000 in
set_option maxRecDepth 100000 in
theorem c_X9_seesF (l : Launch) (E : EX) (mo : Nat) (rw : Nat) (mh : Nat) (md : Nat) (mk : Nat) (mt : Nat) (z1 : Nat) (z2 : Nat) (z3 : Nat) (y1 : Nat) (y2 : Nat) (y3 : Nat) (y4 : Nat) (ya : Nat) (yw : Nat) (yp : Nat) (lg : Int32) (sf : Int32) (dg : Int32) (un : Int32) (le : Int32) (tr : Int64) (at_ : Int32) (be : Int32) (rs : Int32) (nu : Int32) (os : Int32) (od : Int32) (sl : Int32) (fpu : Int32) (wn : Int32) (n : Nat) (j : Nat) (y : Int32) (z0 : Int32) (hn : n ≤ 9) (hj : j < n) (hy : 1 ≤ y ∧ y ≤ 60) (hz : 0 ≤ z0 ∧ z0 ≤ nI n) : Ct l E yX9_sees cX9_sees 4 (some .int) (rmL 3 0 0) [.ref mo, .int (nI j), .int y, .int z0] [(mo, .inr (9, [.ref rw, .int (nI n), .int lg, .int sf, .int dg, .ref mh, .ref md, .int un, .ref mk, .ref mt, .int le, .int (nI 6), .ref z1, .ref z2, .ref z3, .long tr, .int at_, .int be, .int rs, .ref y1, .ref y2, .ref y3, .ref y4, .int nu, .int os, .int od, .int sl, .ref ya, .int fpu, .ref yw, .int wn, .ref yp]))] (fun (rv_ : Option Value) (rw_ : va_W) => rv_ = some (.int (-3)) ∧ rw_ = [(mo, .inr (9, [.ref rw, .int (nI n), .int lg, .int sf, .int dg, .ref mh, .ref md, .int un, .ref mk, .ref mt, .int le, .int (nI 6), .ref z1, .ref z2, .ref z3, .long tr, .int at_, .int be, .int rs, .ref y1, .ref y2, .ref y3, .ref y4, .int nu, .int os, .int od, .int sl, .ref ya, .int fpu, .ref yw, .int wn, .ref yp]))]) 0 0 := by
  refine Ct_of (by decide) (Nat.le_of_ble_eq_true rfl) ?_
  intro k hkl hnl C hR hin_
  subst hkl
  show G k E 0 0 0 [some (.ref mo), some (.int (nI j)), some (.int y), some (.int z0)] [] [(mo, .inr (9, [.ref rw, .int (nI n), .int lg, .int sf, .int dg, .ref mh, .ref md, .int un, .ref mk, .ref mt, .int le, .int (nI 6), .ref z1, .ref z2, .ref z3, .long tr, .int at_, .int be, .int rs, .ref y1, .ref y2, .ref y3, .ref y4, .int nu, .int os, .int od, .int sl, .ref ya, .int fpu, .ref yw, .int wn, .ref yp]))]
  refine g_aload_n C dX9_sees_0 rfl ?_
  refine g_iload_n C dX9_sees_1 rfl ?_
  refine g_callV C (c_X9_isStep k.l E mo rw mh md mk mt z1 z2 z3 y1 y2 y3 y4 ya yw yp (nI n) lg sf dg un le (nI 6) tr at_ be rs nu os od sl fpu wn (nI j)) kmX9_122 kiX9_isStep ksX9_isStep knX9 kcX9_isStep ⟨rfl, rfl⟩ ⟨rfl, kdX9_isStep⟩ ⟨by decide, by decide⟩ ⟨by decide, by decide⟩ [0] [] rfl (wr := []) rfl (by decide +kernel) (by decide +kernel) (by decide +kernel) 0 9 rfl rfl rfl (As := [.int (nI j)]) (rest := []) rfl (Nat.le_of_ble_eq_true rfl) dX9_sees_2 (fun rv_ rw_ hp_ => ?_)
  obtain ⟨rfl, rfl⟩ := hp_
  refine g_rep [0] (ws' := [(mo, .inr (9, [.ref rw, .int (nI n), .int lg, .int sf, .int dg, .ref mh, .ref md, .int un, .ref mk, .ref mt, .int le, .int (nI 6), .ref z1, .ref z2, .ref z3, .long tr, .int at_, .int be, .int rs, .ref y1, .ref y2, .ref y3, .ref y4, .int nu, .int os, .int od, .int sl, .ref ya, .int fpu, .ref yw, .int wn, .ref yp]))]) (st' := [.int (bI (0 ≤ (nI j) ∧ (nI j) ≤ (nI n) - 1))]) (n' := 0) (z' := 0) (pc' := 5) rfl rfl rfl rfl (by decide +kernel) rfl ?_
  refine g_if_eq (tgt := 30) C dX9_sees_5 (by decide) (fun c5 => ?_) (fun c5 => ?_)
  · skip
    exact absurd (has_t hj (by omega)) (bI_0 c5)
  · skip
    refine g_iload_n C dX9_sees_8 rfl ?_
    refine g_iconst (v := 1) C dX9_sees_9 (by decide) ?_
    refine g_bipush (v := 60) C dX9_sees_10 (by decide) ?_
    refine g_callS C (c_X9_in k.l E y 1 60) kmX9_69 ktX9_in knX9 kcX9_in ⟨rfl, rfl⟩ kdX9_in ⟨by decide, by decide⟩ ⟨by decide, by decide⟩ [] [0] rfl (wr := [(mo, .inr (9, [.ref rw, .int (nI n), .int lg, .int sf, .int dg, .ref mh, .ref md, .int un, .ref mk, .ref mt, .int le, .int (nI 6), .ref z1, .ref z2, .ref z3, .long tr, .int at_, .int be, .int rs, .ref y1, .ref y2, .ref y3, .ref y4, .int nu, .int os, .int od, .int sl, .ref ya, .int fpu, .ref yw, .int wn, .ref yp]))]) rfl (by decide +kernel) (by decide +kernel) (by decide +kernel) rfl (As := [.int y, .int 1, .int 60]) (rest := []) rfl (Nat.le_of_ble_eq_true rfl) dX9_sees_12 (fun rv_ rw_ hp_ => ?_)
    obtain ⟨rfl, rfl⟩ := hp_
    refine g_rep [0] (ws' := [(mo, .inr (9, [.ref rw, .int (nI n), .int lg, .int sf, .int dg, .ref mh, .ref md, .int un, .ref mk, .ref mt, .int le, .int (nI 6), .ref z1, .ref z2, .ref z3, .long tr, .int at_, .int be, .int rs, .ref y1, .ref y2, .ref y3, .ref y4, .int nu, .int os, .int od, .int sl, .ref ya, .int fpu, .ref yw, .int wn, .ref yp]))]) (st' := [.int (bI (1 ≤ y ∧ y ≤ 60))]) (n' := 0) (z' := 0) (pc' := 15) rfl rfl rfl rfl (by decide +kernel) rfl ?_
    refine g_if_eq (tgt := 30) C dX9_sees_15 (by decide) (fun c15 => ?_) (fun c15 => ?_)
    · skip
      exact absurd hy (bI_0 c15)
    · skip
      refine g_iload_n C dX9_sees_18 rfl ?_
      refine g_iconst (v := 0) C dX9_sees_19 (by decide) ?_
      refine g_aload_n C dX9_sees_20 rfl ?_
      refine g_get C kwX9 0 rfl rfl 1 (by decide) kfX9_66 rfl dX9_sees_21 ?_
      refine g_callS C (c_X9_in k.l E z0 0 (nI n)) kmX9_69 ktX9_in knX9 kcX9_in ⟨rfl, rfl⟩ kdX9_in ⟨by decide, by decide⟩ ⟨by decide, by decide⟩ [] [0] rfl (wr := [(mo, .inr (9, [.ref rw, .int (nI n), .int lg, .int sf, .int dg, .ref mh, .ref md, .int un, .ref mk, .ref mt, .int le, .int (nI 6), .ref z1, .ref z2, .ref z3, .long tr, .int at_, .int be, .int rs, .ref y1, .ref y2, .ref y3, .ref y4, .int nu, .int os, .int od, .int sl, .ref ya, .int fpu, .ref yw, .int wn, .ref yp]))]) rfl (by decide +kernel) (by decide +kernel) (by decide +kernel) rfl (As := [.int z0, .int 0, .int (nI n)]) (rest := []) rfl (Nat.le_of_ble_eq_true rfl) dX9_sees_24 (fun rv_ rw_ hp_ => ?_)
      obtain ⟨rfl, rfl⟩ := hp_
      refine g_rep [0] (ws' := [(mo, .inr (9, [.ref rw, .int (nI n), .int lg, .int sf, .int dg, .ref mh, .ref md, .int un, .ref mk, .ref mt, .int le, .int (nI 6), .ref z1, .ref z2, .ref z3, .long tr, .int at_, .int be, .int rs, .ref y1, .ref y2, .ref y3, .ref y4, .int nu, .int os, .int od, .int sl, .ref ya, .int fpu, .ref yw, .int wn, .ref yp]))]) (st' := [.int (bI (0 ≤ z0 ∧ z0 ≤ (nI n)))]) (n' := 0) (z' := 0) (pc' := 27) rfl rfl rfl rfl (by decide +kernel) rfl ?_
      refine g_if_ne (tgt := 32) C dX9_sees_27 (by decide) (fun c27 => ?_) (fun c27 => ?_)
      · skip
        refine g_aload_n C dX9_sees_32 rfl ?_
        refine g_get C kwX9 0 rfl rfl 11 (by decide) kfX9_119 rfl dX9_sees_33 ?_
        refine g_bipush (v := 6) C dX9_sees_36 (by decide) ?_
        refine g_icmp_ne (tgt := 44) C dX9_sees_38 (by decide) (fun c38 => ?_) (fun c38 => ?_)
        · skip
          exact absurd rfl c38
        · skip
          refine g_bipush (v := (-3)) C dX9_sees_41 (by decide) ?_
          exact g_iret C hR (⟨rfl, rfl⟩) dX9_sees_43
      · skip
        exact absurd hz (bI_0 c27)

set_option maxHeartbeats 4000000 in
set_option maxRecDepth 100000 in
theorem c_X9_seesB (l : Launch) (E : EX) (mo : Nat) (rw : Nat) (mh : Nat) (md : Nat) (mk : Nat) (mt : Nat) (z1 : Nat) (z2 : Nat) (z3 : Nat) (y1 : Nat) (y2 : Nat) (y3 : Nat) (y4 : Nat) (ya : Nat) (yw : Nat) (yp : Nat) (st0 : Int32) (lg : Int32) (sf : Int32) (dg : Int32) (un : Int32) (le : Int32) (sm : Int32) (tr : Int64) (at_ : Int32) (be : Int32) (rs : Int32) (nu : Int32) (os : Int32) (od : Int32) (sl : Int32) (fpu : Int32) (wn : Int32) (y0 : Int32) (y : Int32) (z0 : Int32) (hb : ¬ ((0 ≤ y0 ∧ y0 ≤ st0 - 1) ∧ (1 ≤ y ∧ y ≤ 60) ∧ (0 ≤ z0 ∧ z0 ≤ st0))) : Ct l E yX9_sees cX9_sees 4 (some .int) (rmL 3 0 0) [.ref mo, .int y0, .int y, .int z0] [(mo, .inr (9, [.ref rw, .int st0, .int lg, .int sf, .int dg, .ref mh, .ref md, .int un, .ref mk, .ref mt, .int le, .int sm, .ref z1, .ref z2, .ref z3, .long tr, .int at_, .int be, .int rs, .ref y1, .ref y2, .ref y3, .ref y4, .int nu, .int os, .int od, .int sl, .ref ya, .int fpu, .ref yw, .int wn, .ref yp]))] (fun (rv_ : Option Value) (rw_ : va_W) => rv_ = some (.int (-1)) ∧ rw_ = [(mo, .inr (9, [.ref rw, .int st0, .int lg, .int sf, .int dg, .ref mh, .ref md, .int un, .ref mk, .ref mt, .int le, .int sm, .ref z1, .ref z2, .ref z3, .long tr, .int at_, .int be, .int rs, .ref y1, .ref y2, .ref y3, .ref y4, .int nu, .int os, .int od, .int sl, .ref ya, .int fpu, .ref yw, .int wn, .ref yp]))]) 0 0 := by
  refine Ct_of (by decide) (Nat.le_of_ble_eq_true rfl) ?_
  intro k hkl hnl C hR hin_
  subst hkl
  show G k E 0 0 0 [some (.ref mo), some (.int y0), some (.int y), some (.int z0)] [] [(mo, .inr (9, [.ref rw, .int st0, .int lg, .int sf, .int dg, .ref mh, .ref md, .int un, .ref mk, .ref mt, .int le, .int sm, .ref z1, .ref z2, .ref z3, .long tr, .int at_, .int be, .int rs, .ref y1, .ref y2, .ref y3, .ref y4, .int nu, .int os, .int od, .int sl, .ref ya, .int fpu, .ref yw, .int wn, .ref yp]))]
  refine g_aload_n C dX9_sees_0 rfl ?_
  refine g_iload_n C dX9_sees_1 rfl ?_
  refine g_callV C (c_X9_isStep k.l E mo rw mh md mk mt z1 z2 z3 y1 y2 y3 y4 ya yw yp st0 lg sf dg un le sm tr at_ be rs nu os od sl fpu wn y0) kmX9_122 kiX9_isStep ksX9_isStep knX9 kcX9_isStep ⟨rfl, rfl⟩ ⟨rfl, kdX9_isStep⟩ ⟨by decide, by decide⟩ ⟨by decide, by decide⟩ [0] [] rfl (wr := []) rfl (by decide +kernel) (by decide +kernel) (by decide +kernel) 0 9 rfl rfl rfl (As := [.int y0]) (rest := []) rfl (Nat.le_of_ble_eq_true rfl) dX9_sees_2 (fun rv_ rw_ hp_ => ?_)
  obtain ⟨rfl, rfl⟩ := hp_
  refine g_rep [0] (ws' := [(mo, .inr (9, [.ref rw, .int st0, .int lg, .int sf, .int dg, .ref mh, .ref md, .int un, .ref mk, .ref mt, .int le, .int sm, .ref z1, .ref z2, .ref z3, .long tr, .int at_, .int be, .int rs, .ref y1, .ref y2, .ref y3, .ref y4, .int nu, .int os, .int od, .int sl, .ref ya, .int fpu, .ref yw, .int wn, .ref yp]))]) (st' := [.int (bI (0 ≤ y0 ∧ y0 ≤ st0 - 1))]) (n' := 0) (z' := 0) (pc' := 5) rfl rfl rfl rfl (by decide +kernel) rfl ?_
  refine g_if_eq (tgt := 30) C dX9_sees_5 (by decide) (fun c5 => ?_) (fun c5 => ?_)
  · skip
    refine g_iconst (v := (-1)) C dX9_sees_30 (by decide) ?_
    exact g_iret C hR (⟨rfl, rfl⟩) dX9_sees_31
  · skip
    refine g_iload_n C dX9_sees_8 rfl ?_
    refine g_iconst (v := 1) C dX9_sees_9 (by decide) ?_
    refine g_bipush (v := 60) C dX9_sees_10 (by decide) ?_
    refine g_callS C (c_X9_in k.l E y 1 60) kmX9_69 ktX9_in knX9 kcX9_in ⟨rfl, rfl⟩ kdX9_in ⟨by decide, by decide⟩ ⟨by decide, by decide⟩ [] [0] rfl (wr := [(mo, .inr (9, [.ref rw, .int st0, .int lg, .int sf, .int dg, .ref mh, .ref md, .int un, .ref mk, .ref mt, .int le, .int sm, .ref z1, .ref z2, .ref z3, .long tr, .int at_, .int be, .int rs, .ref y1, .ref y2, .ref y3, .ref y4, .int nu, .int os, .int od, .int sl, .ref ya, .int fpu, .ref yw, .int wn, .ref yp]))]) rfl (by decide +kernel) (by decide +kernel) (by decide +kernel) rfl (As := [.int y, .int 1, .int 60]) (rest := []) rfl (Nat.le_of_ble_eq_true rfl) dX9_sees_12 (fun rv_ rw_ hp_ => ?_)
    obtain ⟨rfl, rfl⟩ := hp_
    refine g_rep [0] (ws' := [(mo, .inr (9, [.ref rw, .int st0, .int lg, .int sf, .int dg, .ref mh, .ref md, .int un, .ref mk, .ref mt, .int le, .int sm, .ref z1, .ref z2, .ref z3, .long tr, .int at_, .int be, .int rs, .ref y1, .ref y2, .ref y3, .ref y4, .int nu, .int os, .int od, .int sl, .ref ya, .int fpu, .ref yw, .int wn, .ref yp]))]) (st' := [.int (bI (1 ≤ y ∧ y ≤ 60))]) (n' := 0) (z' := 0) (pc' := 15) rfl rfl rfl rfl (by decide +kernel) rfl ?_
    refine g_if_eq (tgt := 30) C dX9_sees_15 (by decide) (fun c15 => ?_) (fun c15 => ?_)
    · skip
      refine g_iconst (v := (-1)) C dX9_sees_30 (by decide) ?_
      exact g_iret C hR (⟨rfl, rfl⟩) dX9_sees_31
    · skip
      refine g_iload_n C dX9_sees_18 rfl ?_
      refine g_iconst (v := 0) C dX9_sees_19 (by decide) ?_
      refine g_aload_n C dX9_sees_20 rfl ?_
      refine g_get C kwX9 0 rfl rfl 1 (by decide) kfX9_66 rfl dX9_sees_21 ?_
      refine g_callS C (c_X9_in k.l E z0 0 st0) kmX9_69 ktX9_in knX9 kcX9_in ⟨rfl, rfl⟩ kdX9_in ⟨by decide, by decide⟩ ⟨by decide, by decide⟩ [] [0] rfl (wr := [(mo, .inr (9, [.ref rw, .int st0, .int lg, .int sf, .int dg, .ref mh, .ref md, .int un, .ref mk, .ref mt, .int le, .int sm, .ref z1, .ref z2, .ref z3, .long tr, .int at_, .int be, .int rs, .ref y1, .ref y2, .ref y3, .ref y4, .int nu, .int os, .int od, .int sl, .ref ya, .int fpu, .ref yw, .int wn, .ref yp]))]) rfl (by decide +kernel) (by decide +kernel) (by decide +kernel) rfl (As := [.int z0, .int 0, .int st0]) (rest := []) rfl (Nat.le_of_ble_eq_true rfl) dX9_sees_24 (fun rv_ rw_ hp_ => ?_)
      obtain ⟨rfl, rfl⟩ := hp_
      refine g_rep [0] (ws' := [(mo, .inr (9, [.ref rw, .int st0, .int lg, .int sf, .int dg, .ref mh, .ref md, .int un, .ref mk, .ref mt, .int le, .int sm, .ref z1, .ref z2, .ref z3, .long tr, .int at_, .int be, .int rs, .ref y1, .ref y2, .ref y3, .ref y4, .int nu, .int os, .int od, .int sl, .ref ya, .int fpu, .ref yw, .int wn, .ref yp]))]) (st' := [.int (bI (0 ≤ z0 ∧ z0 ≤ st0))]) (n' := 0) (z' := 0) (pc' := 27) rfl rfl rfl rfl (by decide +kernel) rfl ?_
      refine g_if_ne (tgt := 32) C dX9_sees_27 (by decide) (fun c27 => ?_) (fun c27 => ?_)
      · skip
        exact absurd ⟨bI_1 c5, bI_1 c15, bI_1 c27⟩ hb
      · skip
        refine g_iconst (v := (-1)) C dX9_sees_30 (by decide) ?_
        exact g_iret C hR (⟨rfl, rfl⟩) dX9_sees_31

set_option maxHeartbeats 4000000 in
set_option maxRecDepth 100000 in
theorem c_X9_init (l : Launch) (E : EX) (mo : Nat) : Ct l E yX9_init cX9_init 1 none (rmL 1 15 1382) [.ref mo] [(mo, .inr (9, [.null, .int 0, .int 0, .int 0, .int 0, .null, .null, .int 0, .null, .null, .int 0, .int 0, .null, .null, .null, .long 0, .int 0, .int 0, .int 0, .null, .null, .null, .null, .int 0, .int 0, .int 0, .int 0, .null, .int 0, .null, .int 0, .null]))] (fun (rv_ : Option Value) (rw_ : va_W) => ∃ (rw : Nat) (mh : Nat) (md : Nat) (mk : Nat) (mt : Nat) (z1 : Nat) (z2 : Nat) (z3 : Nat) (y1 : Nat) (y2 : Nat) (y3 : Nat) (y4 : Nat) (ya : Nat) (yw : Nat) (yp : Nat), rv_ = none ∧ rw_ = [(mo, .inr (9, [.ref rw, .int 0, .int 4, .int 3, .int 1, .ref mh, .ref md, .int 0, .ref mk, .ref mt, .int 0, .int 0, .ref z1, .ref z2, .ref z3, .long 0, .int 0, .int 0, .int 0, .ref y1, .ref y2, .ref y3, .ref y4, .int 0, .int 0, .int 0, .int 0, .ref ya, .int 0, .ref yw, .int 0, .ref yp])), aI E rw 168 (fun _ => 0), aI E mh 9 (fun _ => 0), aI E md 9 (fun _ => 0), aZ E mk 2 (fun _ => 0), aI E mt 100 (fun _ => 0), aI E z1 6 (fun _ => 0), aI E z2 6 (fun _ => 0), aI E z3 6 (fun _ => 0), aI E y1 9 (fun _ => 0), aI E y2 9 (fun _ => 0), aI E y3 9 (fun _ => 0), aI E y4 3 (fun _ => 0), aI E ya 1000 (fun _ => 0), aI E yw 36 (fun _ => 0), aI E yp 10 (fun _ => 0)]) 15 1382 := by
  refine Ct_of (by decide) (Nat.le_of_ble_eq_true rfl) ?_
  intro k hkl hnl C hR hin_
  subst hkl
  show G k E 0 0 0 [some (.ref mo)] [] [(mo, .inr (9, [.null, .int 0, .int 0, .int 0, .int 0, .null, .null, .int 0, .null, .null, .int 0, .int 0, .null, .null, .null, .long 0, .int 0, .int 0, .int 0, .null, .null, .null, .null, .int 0, .int 0, .int 0, .int 0, .null, .int 0, .null, .int 0, .null]))]
  refine g_aload_n C dX9_init_0 rfl ?_
  refine g_obj C kmX9_1 (by decide) (Nat.le_of_ble_eq_true rfl) dX9_init_1 ?_
  refine g_aload_n C dX9_init_4 rfl ?_
  refine g_sipush (v := 168) C dX9_init_5 (by decide) ?_
  refine g_newI C 168 rfl (by decide) (by decide) (by decide) dX9_init_8 (fun rw => ?_)
  refine g_re (ws' := [(mo, .inr (9, [.null, .int 0, .int 0, .int 0, .int 0, .null, .null, .int 0, .null, .null, .int 0, .int 0, .null, .null, .null, .long 0, .int 0, .int 0, .int 0, .null, .null, .null, .null, .int 0, .int 0, .int 0, .int 0, .null, .int 0, .null, .int 0, .null])), aI E rw 168 (fun _ => 0)]) (st' := [.ref rw, .ref mo]) (n' := 1) (z' := 168) (pc' := 10) rfl rfl rfl rfl ?_
  refine g_putF (ws' := [(mo, .inr (9, [.ref rw, .int 0, .int 0, .int 0, .int 0, .null, .null, .int 0, .null, .null, .int 0, .int 0, .null, .null, .null, .long 0, .int 0, .int 0, .int 0, .null, .null, .null, .null, .int 0, .int 0, .int 0, .int 0, .null, .int 0, .null, .int 0, .null])), aI E rw 168 (fun _ => 0)]) C hin_ kwX9 tyX9 tyX9_ok nmX9 0 rfl rfl 0 (by decide) kfX9_7 rfl rfl rfl rfl (Nat.le_of_ble_eq_true rfl) rfl dX9_init_10 ?_
  refine g_aload_n C dX9_init_13 rfl ?_
  refine g_iconst (v := 4) C dX9_init_14 (by decide) ?_
  refine g_put (ws' := [(mo, .inr (9, [.ref rw, .int 0, .int 4, .int 0, .int 0, .null, .null, .int 0, .null, .null, .int 0, .int 0, .null, .null, .null, .long 0, .int 0, .int 0, .int 0, .null, .null, .null, .null, .int 0, .int 0, .int 0, .int 0, .null, .int 0, .null, .int 0, .null])), aI E rw 168 (fun _ => 0)]) C kwX9 tyX9 tyX9_ok nmX9 0 rfl rfl 2 (by decide) kfX9_13 rfl rfl rfl (Nat.le_of_ble_eq_true rfl) rfl dX9_init_15 ?_
  refine g_aload_n C dX9_init_18 rfl ?_
  refine g_iconst (v := 3) C dX9_init_19 (by decide) ?_
  refine g_put (ws' := [(mo, .inr (9, [.ref rw, .int 0, .int 4, .int 3, .int 0, .null, .null, .int 0, .null, .null, .int 0, .int 0, .null, .null, .null, .long 0, .int 0, .int 0, .int 0, .null, .null, .null, .null, .int 0, .int 0, .int 0, .int 0, .null, .int 0, .null, .int 0, .null])), aI E rw 168 (fun _ => 0)]) C kwX9 tyX9 tyX9_ok nmX9 0 rfl rfl 3 (by decide) kfX9_17 rfl rfl rfl (Nat.le_of_ble_eq_true rfl) rfl dX9_init_20 ?_
  refine g_aload_n C dX9_init_23 rfl ?_
  refine g_iconst (v := 1) C dX9_init_24 (by decide) ?_
  refine g_put (ws' := [(mo, .inr (9, [.ref rw, .int 0, .int 4, .int 3, .int 1, .null, .null, .int 0, .null, .null, .int 0, .int 0, .null, .null, .null, .long 0, .int 0, .int 0, .int 0, .null, .null, .null, .null, .int 0, .int 0, .int 0, .int 0, .null, .int 0, .null, .int 0, .null])), aI E rw 168 (fun _ => 0)]) C kwX9 tyX9 tyX9_ok nmX9 0 rfl rfl 4 (by decide) kfX9_20 rfl rfl rfl (Nat.le_of_ble_eq_true rfl) rfl dX9_init_25 ?_
  refine g_aload_n C dX9_init_28 rfl ?_
  refine g_bipush (v := 9) C dX9_init_29 (by decide) ?_
  refine g_newI C 9 rfl (by decide) (by decide) (by decide) dX9_init_31 (fun mh => ?_)
  refine g_re (ws' := [(mo, .inr (9, [.ref rw, .int 0, .int 4, .int 3, .int 1, .null, .null, .int 0, .null, .null, .int 0, .int 0, .null, .null, .null, .long 0, .int 0, .int 0, .int 0, .null, .null, .null, .null, .int 0, .int 0, .int 0, .int 0, .null, .int 0, .null, .int 0, .null])), aI E rw 168 (fun _ => 0), aI E mh 9 (fun _ => 0)]) (st' := [.ref mh, .ref mo]) (n' := 2) (z' := 177) (pc' := 33) rfl rfl rfl rfl ?_
  refine g_putF (ws' := [(mo, .inr (9, [.ref rw, .int 0, .int 4, .int 3, .int 1, .ref mh, .null, .int 0, .null, .null, .int 0, .int 0, .null, .null, .null, .long 0, .int 0, .int 0, .int 0, .null, .null, .null, .null, .int 0, .int 0, .int 0, .int 0, .null, .int 0, .null, .int 0, .null])), aI E rw 168 (fun _ => 0), aI E mh 9 (fun _ => 0)]) C hin_ kwX9 tyX9 tyX9_ok nmX9 0 rfl rfl 5 (by decide) kfX9_23 rfl rfl rfl rfl (Nat.le_of_ble_eq_true rfl) rfl dX9_init_33 ?_
  refine g_aload_n C dX9_init_36 rfl ?_
  refine g_bipush (v := 9) C dX9_init_37 (by decide) ?_
  refine g_newI C 9 rfl (by decide) (by decide) (by decide) dX9_init_39 (fun md => ?_)
  refine g_re (ws' := [(mo, .inr (9, [.ref rw, .int 0, .int 4, .int 3, .int 1, .ref mh, .null, .int 0, .null, .null, .int 0, .int 0, .null, .null, .null, .long 0, .int 0, .int 0, .int 0, .null, .null, .null, .null, .int 0, .int 0, .int 0, .int 0, .null, .int 0, .null, .int 0, .null])), aI E rw 168 (fun _ => 0), aI E mh 9 (fun _ => 0), aI E md 9 (fun _ => 0)]) (st' := [.ref md, .ref mo]) (n' := 3) (z' := 186) (pc' := 41) rfl rfl rfl rfl ?_
  refine g_putF (ws' := [(mo, .inr (9, [.ref rw, .int 0, .int 4, .int 3, .int 1, .ref mh, .ref md, .int 0, .null, .null, .int 0, .int 0, .null, .null, .null, .long 0, .int 0, .int 0, .int 0, .null, .null, .null, .null, .int 0, .int 0, .int 0, .int 0, .null, .int 0, .null, .int 0, .null])), aI E rw 168 (fun _ => 0), aI E mh 9 (fun _ => 0), aI E md 9 (fun _ => 0)]) C hin_ kwX9 tyX9 tyX9_ok nmX9 0 rfl rfl 6 (by decide) kfX9_26 rfl rfl rfl rfl (Nat.le_of_ble_eq_true rfl) rfl dX9_init_41 ?_
  refine g_aload_n C dX9_init_44 rfl ?_
  refine g_iconst (v := 2) C dX9_init_45 (by decide) ?_
  refine g_newZ C 2 rfl (by decide) (by decide) (by decide) dX9_init_46 (fun mk => ?_)
  refine g_re (ws' := [(mo, .inr (9, [.ref rw, .int 0, .int 4, .int 3, .int 1, .ref mh, .ref md, .int 0, .null, .null, .int 0, .int 0, .null, .null, .null, .long 0, .int 0, .int 0, .int 0, .null, .null, .null, .null, .int 0, .int 0, .int 0, .int 0, .null, .int 0, .null, .int 0, .null])), aI E rw 168 (fun _ => 0), aI E mh 9 (fun _ => 0), aI E md 9 (fun _ => 0), aZ E mk 2 (fun _ => 0)]) (st' := [.ref mk, .ref mo]) (n' := 4) (z' := 188) (pc' := 48) rfl rfl rfl rfl ?_
  refine g_putF (ws' := [(mo, .inr (9, [.ref rw, .int 0, .int 4, .int 3, .int 1, .ref mh, .ref md, .int 0, .ref mk, .null, .int 0, .int 0, .null, .null, .null, .long 0, .int 0, .int 0, .int 0, .null, .null, .null, .null, .int 0, .int 0, .int 0, .int 0, .null, .int 0, .null, .int 0, .null])), aI E rw 168 (fun _ => 0), aI E mh 9 (fun _ => 0), aI E md 9 (fun _ => 0), aZ E mk 2 (fun _ => 0)]) C hin_ kwX9 tyX9 tyX9_ok nmX9 0 rfl rfl 8 (by decide) kfX9_29 rfl rfl rfl rfl (Nat.le_of_ble_eq_true rfl) rfl dX9_init_48 ?_
  refine g_aload_n C dX9_init_51 rfl ?_
  refine g_bipush (v := 100) C dX9_init_52 (by decide) ?_
  refine g_newI C 100 rfl (by decide) (by decide) (by decide) dX9_init_54 (fun mt => ?_)
  refine g_re (ws' := [(mo, .inr (9, [.ref rw, .int 0, .int 4, .int 3, .int 1, .ref mh, .ref md, .int 0, .ref mk, .null, .int 0, .int 0, .null, .null, .null, .long 0, .int 0, .int 0, .int 0, .null, .null, .null, .null, .int 0, .int 0, .int 0, .int 0, .null, .int 0, .null, .int 0, .null])), aI E rw 168 (fun _ => 0), aI E mh 9 (fun _ => 0), aI E md 9 (fun _ => 0), aZ E mk 2 (fun _ => 0), aI E mt 100 (fun _ => 0)]) (st' := [.ref mt, .ref mo]) (n' := 5) (z' := 288) (pc' := 56) rfl rfl rfl rfl ?_
  refine g_putF (ws' := [(mo, .inr (9, [.ref rw, .int 0, .int 4, .int 3, .int 1, .ref mh, .ref md, .int 0, .ref mk, .ref mt, .int 0, .int 0, .null, .null, .null, .long 0, .int 0, .int 0, .int 0, .null, .null, .null, .null, .int 0, .int 0, .int 0, .int 0, .null, .int 0, .null, .int 0, .null])), aI E rw 168 (fun _ => 0), aI E mh 9 (fun _ => 0), aI E md 9 (fun _ => 0), aZ E mk 2 (fun _ => 0), aI E mt 100 (fun _ => 0)]) C hin_ kwX9 tyX9 tyX9_ok nmX9 0 rfl rfl 9 (by decide) kfX9_33 rfl rfl rfl rfl (Nat.le_of_ble_eq_true rfl) rfl dX9_init_56 ?_
  refine g_aload_n C dX9_init_59 rfl ?_
  refine g_bipush (v := 6) C dX9_init_60 (by decide) ?_
  refine g_newI C 6 rfl (by decide) (by decide) (by decide) dX9_init_62 (fun z1 => ?_)
  refine g_re (ws' := [(mo, .inr (9, [.ref rw, .int 0, .int 4, .int 3, .int 1, .ref mh, .ref md, .int 0, .ref mk, .ref mt, .int 0, .int 0, .null, .null, .null, .long 0, .int 0, .int 0, .int 0, .null, .null, .null, .null, .int 0, .int 0, .int 0, .int 0, .null, .int 0, .null, .int 0, .null])), aI E rw 168 (fun _ => 0), aI E mh 9 (fun _ => 0), aI E md 9 (fun _ => 0), aZ E mk 2 (fun _ => 0), aI E mt 100 (fun _ => 0), aI E z1 6 (fun _ => 0)]) (st' := [.ref z1, .ref mo]) (n' := 6) (z' := 294) (pc' := 64) rfl rfl rfl rfl ?_
  refine g_putF (ws' := [(mo, .inr (9, [.ref rw, .int 0, .int 4, .int 3, .int 1, .ref mh, .ref md, .int 0, .ref mk, .ref mt, .int 0, .int 0, .ref z1, .null, .null, .long 0, .int 0, .int 0, .int 0, .null, .null, .null, .null, .int 0, .int 0, .int 0, .int 0, .null, .int 0, .null, .int 0, .null])), aI E rw 168 (fun _ => 0), aI E mh 9 (fun _ => 0), aI E md 9 (fun _ => 0), aZ E mk 2 (fun _ => 0), aI E mt 100 (fun _ => 0), aI E z1 6 (fun _ => 0)]) C hin_ kwX9 tyX9 tyX9_ok nmX9 0 rfl rfl 12 (by decide) kfX9_36 rfl rfl rfl rfl (Nat.le_of_ble_eq_true rfl) rfl dX9_init_64 ?_
  refine g_aload_n C dX9_init_67 rfl ?_
  refine g_bipush (v := 6) C dX9_init_68 (by decide) ?_
  refine g_newI C 6 rfl (by decide) (by decide) (by decide) dX9_init_70 (fun z2 => ?_)
  refine g_re (ws' := [(mo, .inr (9, [.ref rw, .int 0, .int 4, .int 3, .int 1, .ref mh, .ref md, .int 0, .ref mk, .ref mt, .int 0, .int 0, .ref z1, .null, .null, .long 0, .int 0, .int 0, .int 0, .null, .null, .null, .null, .int 0, .int 0, .int 0, .int 0, .null, .int 0, .null, .int 0, .null])), aI E rw 168 (fun _ => 0), aI E mh 9 (fun _ => 0), aI E md 9 (fun _ => 0), aZ E mk 2 (fun _ => 0), aI E mt 100 (fun _ => 0), aI E z1 6 (fun _ => 0), aI E z2 6 (fun _ => 0)]) (st' := [.ref z2, .ref mo]) (n' := 7) (z' := 300) (pc' := 72) rfl rfl rfl rfl ?_
  refine g_putF (ws' := [(mo, .inr (9, [.ref rw, .int 0, .int 4, .int 3, .int 1, .ref mh, .ref md, .int 0, .ref mk, .ref mt, .int 0, .int 0, .ref z1, .ref z2, .null, .long 0, .int 0, .int 0, .int 0, .null, .null, .null, .null, .int 0, .int 0, .int 0, .int 0, .null, .int 0, .null, .int 0, .null])), aI E rw 168 (fun _ => 0), aI E mh 9 (fun _ => 0), aI E md 9 (fun _ => 0), aZ E mk 2 (fun _ => 0), aI E mt 100 (fun _ => 0), aI E z1 6 (fun _ => 0), aI E z2 6 (fun _ => 0)]) C hin_ kwX9 tyX9 tyX9_ok nmX9 0 rfl rfl 13 (by decide) kfX9_39 rfl rfl rfl rfl (Nat.le_of_ble_eq_true rfl) rfl dX9_init_72 ?_
  refine g_aload_n C dX9_init_75 rfl ?_
  refine g_bipush (v := 6) C dX9_init_76 (by decide) ?_
  refine g_newI C 6 rfl (by decide) (by decide) (by decide) dX9_init_78 (fun z3 => ?_)
  refine g_re (ws' := [(mo, .inr (9, [.ref rw, .int 0, .int 4, .int 3, .int 1, .ref mh, .ref md, .int 0, .ref mk, .ref mt, .int 0, .int 0, .ref z1, .ref z2, .null, .long 0, .int 0, .int 0, .int 0, .null, .null, .null, .null, .int 0, .int 0, .int 0, .int 0, .null, .int 0, .null, .int 0, .null])), aI E rw 168 (fun _ => 0), aI E mh 9 (fun _ => 0), aI E md 9 (fun _ => 0), aZ E mk 2 (fun _ => 0), aI E mt 100 (fun _ => 0), aI E z1 6 (fun _ => 0), aI E z2 6 (fun _ => 0), aI E z3 6 (fun _ => 0)]) (st' := [.ref z3, .ref mo]) (n' := 8) (z' := 306) (pc' := 80) rfl rfl rfl rfl ?_
  refine g_putF (ws' := [(mo, .inr (9, [.ref rw, .int 0, .int 4, .int 3, .int 1, .ref mh, .ref md, .int 0, .ref mk, .ref mt, .int 0, .int 0, .ref z1, .ref z2, .ref z3, .long 0, .int 0, .int 0, .int 0, .null, .null, .null, .null, .int 0, .int 0, .int 0, .int 0, .null, .int 0, .null, .int 0, .null])), aI E rw 168 (fun _ => 0), aI E mh 9 (fun _ => 0), aI E md 9 (fun _ => 0), aZ E mk 2 (fun _ => 0), aI E mt 100 (fun _ => 0), aI E z1 6 (fun _ => 0), aI E z2 6 (fun _ => 0), aI E z3 6 (fun _ => 0)]) C hin_ kwX9 tyX9 tyX9_ok nmX9 0 rfl rfl 14 (by decide) kfX9_42 rfl rfl rfl rfl (Nat.le_of_ble_eq_true rfl) rfl dX9_init_80 ?_
  refine g_aload_n C dX9_init_83 rfl ?_
  refine g_bipush (v := 9) C dX9_init_84 (by decide) ?_
  refine g_newI C 9 rfl (by decide) (by decide) (by decide) dX9_init_86 (fun y1 => ?_)
  refine g_re (ws' := [(mo, .inr (9, [.ref rw, .int 0, .int 4, .int 3, .int 1, .ref mh, .ref md, .int 0, .ref mk, .ref mt, .int 0, .int 0, .ref z1, .ref z2, .ref z3, .long 0, .int 0, .int 0, .int 0, .null, .null, .null, .null, .int 0, .int 0, .int 0, .int 0, .null, .int 0, .null, .int 0, .null])), aI E rw 168 (fun _ => 0), aI E mh 9 (fun _ => 0), aI E md 9 (fun _ => 0), aZ E mk 2 (fun _ => 0), aI E mt 100 (fun _ => 0), aI E z1 6 (fun _ => 0), aI E z2 6 (fun _ => 0), aI E z3 6 (fun _ => 0), aI E y1 9 (fun _ => 0)]) (st' := [.ref y1, .ref mo]) (n' := 9) (z' := 315) (pc' := 88) rfl rfl rfl rfl ?_
  refine g_putF (ws' := [(mo, .inr (9, [.ref rw, .int 0, .int 4, .int 3, .int 1, .ref mh, .ref md, .int 0, .ref mk, .ref mt, .int 0, .int 0, .ref z1, .ref z2, .ref z3, .long 0, .int 0, .int 0, .int 0, .ref y1, .null, .null, .null, .int 0, .int 0, .int 0, .int 0, .null, .int 0, .null, .int 0, .null])), aI E rw 168 (fun _ => 0), aI E mh 9 (fun _ => 0), aI E md 9 (fun _ => 0), aZ E mk 2 (fun _ => 0), aI E mt 100 (fun _ => 0), aI E z1 6 (fun _ => 0), aI E z2 6 (fun _ => 0), aI E z3 6 (fun _ => 0), aI E y1 9 (fun _ => 0)]) C hin_ kwX9 tyX9 tyX9_ok nmX9 0 rfl rfl 19 (by decide) kfX9_45 rfl rfl rfl rfl (Nat.le_of_ble_eq_true rfl) rfl dX9_init_88 ?_
  refine g_aload_n C dX9_init_91 rfl ?_
  refine g_bipush (v := 9) C dX9_init_92 (by decide) ?_
  refine g_newI C 9 rfl (by decide) (by decide) (by decide) dX9_init_94 (fun y2 => ?_)
  refine g_re (ws' := [(mo, .inr (9, [.ref rw, .int 0, .int 4, .int 3, .int 1, .ref mh, .ref md, .int 0, .ref mk, .ref mt, .int 0, .int 0, .ref z1, .ref z2, .ref z3, .long 0, .int 0, .int 0, .int 0, .ref y1, .null, .null, .null, .int 0, .int 0, .int 0, .int 0, .null, .int 0, .null, .int 0, .null])), aI E rw 168 (fun _ => 0), aI E mh 9 (fun _ => 0), aI E md 9 (fun _ => 0), aZ E mk 2 (fun _ => 0), aI E mt 100 (fun _ => 0), aI E z1 6 (fun _ => 0), aI E z2 6 (fun _ => 0), aI E z3 6 (fun _ => 0), aI E y1 9 (fun _ => 0), aI E y2 9 (fun _ => 0)]) (st' := [.ref y2, .ref mo]) (n' := 10) (z' := 324) (pc' := 96) rfl rfl rfl rfl ?_
  refine g_putF (ws' := [(mo, .inr (9, [.ref rw, .int 0, .int 4, .int 3, .int 1, .ref mh, .ref md, .int 0, .ref mk, .ref mt, .int 0, .int 0, .ref z1, .ref z2, .ref z3, .long 0, .int 0, .int 0, .int 0, .ref y1, .ref y2, .null, .null, .int 0, .int 0, .int 0, .int 0, .null, .int 0, .null, .int 0, .null])), aI E rw 168 (fun _ => 0), aI E mh 9 (fun _ => 0), aI E md 9 (fun _ => 0), aZ E mk 2 (fun _ => 0), aI E mt 100 (fun _ => 0), aI E z1 6 (fun _ => 0), aI E z2 6 (fun _ => 0), aI E z3 6 (fun _ => 0), aI E y1 9 (fun _ => 0), aI E y2 9 (fun _ => 0)]) C hin_ kwX9 tyX9 tyX9_ok nmX9 0 rfl rfl 20 (by decide) kfX9_48 rfl rfl rfl rfl (Nat.le_of_ble_eq_true rfl) rfl dX9_init_96 ?_
  refine g_aload_n C dX9_init_99 rfl ?_
  refine g_bipush (v := 9) C dX9_init_100 (by decide) ?_
  refine g_newI C 9 rfl (by decide) (by decide) (by decide) dX9_init_102 (fun y3 => ?_)
  refine g_re (ws' := [(mo, .inr (9, [.ref rw, .int 0, .int 4, .int 3, .int 1, .ref mh, .ref md, .int 0, .ref mk, .ref mt, .int 0, .int 0, .ref z1, .ref z2, .ref z3, .long 0, .int 0, .int 0, .int 0, .ref y1, .ref y2, .null, .null, .int 0, .int 0, .int 0, .int 0, .null, .int 0, .null, .int 0, .null])), aI E rw 168 (fun _ => 0), aI E mh 9 (fun _ => 0), aI E md 9 (fun _ => 0), aZ E mk 2 (fun _ => 0), aI E mt 100 (fun _ => 0), aI E z1 6 (fun _ => 0), aI E z2 6 (fun _ => 0), aI E z3 6 (fun _ => 0), aI E y1 9 (fun _ => 0), aI E y2 9 (fun _ => 0), aI E y3 9 (fun _ => 0)]) (st' := [.ref y3, .ref mo]) (n' := 11) (z' := 333) (pc' := 104) rfl rfl rfl rfl ?_
  refine g_putF (ws' := [(mo, .inr (9, [.ref rw, .int 0, .int 4, .int 3, .int 1, .ref mh, .ref md, .int 0, .ref mk, .ref mt, .int 0, .int 0, .ref z1, .ref z2, .ref z3, .long 0, .int 0, .int 0, .int 0, .ref y1, .ref y2, .ref y3, .null, .int 0, .int 0, .int 0, .int 0, .null, .int 0, .null, .int 0, .null])), aI E rw 168 (fun _ => 0), aI E mh 9 (fun _ => 0), aI E md 9 (fun _ => 0), aZ E mk 2 (fun _ => 0), aI E mt 100 (fun _ => 0), aI E z1 6 (fun _ => 0), aI E z2 6 (fun _ => 0), aI E z3 6 (fun _ => 0), aI E y1 9 (fun _ => 0), aI E y2 9 (fun _ => 0), aI E y3 9 (fun _ => 0)]) C hin_ kwX9 tyX9 tyX9_ok nmX9 0 rfl rfl 21 (by decide) kfX9_51 rfl rfl rfl rfl (Nat.le_of_ble_eq_true rfl) rfl dX9_init_104 ?_
  refine g_aload_n C dX9_init_107 rfl ?_
  refine g_iconst (v := 3) C dX9_init_108 (by decide) ?_
  refine g_newI C 3 rfl (by decide) (by decide) (by decide) dX9_init_109 (fun y4 => ?_)
  refine g_re (ws' := [(mo, .inr (9, [.ref rw, .int 0, .int 4, .int 3, .int 1, .ref mh, .ref md, .int 0, .ref mk, .ref mt, .int 0, .int 0, .ref z1, .ref z2, .ref z3, .long 0, .int 0, .int 0, .int 0, .ref y1, .ref y2, .ref y3, .null, .int 0, .int 0, .int 0, .int 0, .null, .int 0, .null, .int 0, .null])), aI E rw 168 (fun _ => 0), aI E mh 9 (fun _ => 0), aI E md 9 (fun _ => 0), aZ E mk 2 (fun _ => 0), aI E mt 100 (fun _ => 0), aI E z1 6 (fun _ => 0), aI E z2 6 (fun _ => 0), aI E z3 6 (fun _ => 0), aI E y1 9 (fun _ => 0), aI E y2 9 (fun _ => 0), aI E y3 9 (fun _ => 0), aI E y4 3 (fun _ => 0)]) (st' := [.ref y4, .ref mo]) (n' := 12) (z' := 336) (pc' := 111) rfl rfl rfl rfl ?_
  refine g_putF (ws' := [(mo, .inr (9, [.ref rw, .int 0, .int 4, .int 3, .int 1, .ref mh, .ref md, .int 0, .ref mk, .ref mt, .int 0, .int 0, .ref z1, .ref z2, .ref z3, .long 0, .int 0, .int 0, .int 0, .ref y1, .ref y2, .ref y3, .ref y4, .int 0, .int 0, .int 0, .int 0, .null, .int 0, .null, .int 0, .null])), aI E rw 168 (fun _ => 0), aI E mh 9 (fun _ => 0), aI E md 9 (fun _ => 0), aZ E mk 2 (fun _ => 0), aI E mt 100 (fun _ => 0), aI E z1 6 (fun _ => 0), aI E z2 6 (fun _ => 0), aI E z3 6 (fun _ => 0), aI E y1 9 (fun _ => 0), aI E y2 9 (fun _ => 0), aI E y3 9 (fun _ => 0), aI E y4 3 (fun _ => 0)]) C hin_ kwX9 tyX9 tyX9_ok nmX9 0 rfl rfl 22 (by decide) kfX9_54 rfl rfl rfl rfl (Nat.le_of_ble_eq_true rfl) rfl dX9_init_111 ?_
  refine g_aload_n C dX9_init_114 rfl ?_
  refine g_sipush (v := 1000) C dX9_init_115 (by decide) ?_
  refine g_newI C 1000 rfl (by decide) (by decide) (by decide) dX9_init_118 (fun ya => ?_)
  refine g_re (ws' := [(mo, .inr (9, [.ref rw, .int 0, .int 4, .int 3, .int 1, .ref mh, .ref md, .int 0, .ref mk, .ref mt, .int 0, .int 0, .ref z1, .ref z2, .ref z3, .long 0, .int 0, .int 0, .int 0, .ref y1, .ref y2, .ref y3, .ref y4, .int 0, .int 0, .int 0, .int 0, .null, .int 0, .null, .int 0, .null])), aI E rw 168 (fun _ => 0), aI E mh 9 (fun _ => 0), aI E md 9 (fun _ => 0), aZ E mk 2 (fun _ => 0), aI E mt 100 (fun _ => 0), aI E z1 6 (fun _ => 0), aI E z2 6 (fun _ => 0), aI E z3 6 (fun _ => 0), aI E y1 9 (fun _ => 0), aI E y2 9 (fun _ => 0), aI E y3 9 (fun _ => 0), aI E y4 3 (fun _ => 0), aI E ya 1000 (fun _ => 0)]) (st' := [.ref ya, .ref mo]) (n' := 13) (z' := 1336) (pc' := 120) rfl rfl rfl rfl ?_
  refine g_putF (ws' := [(mo, .inr (9, [.ref rw, .int 0, .int 4, .int 3, .int 1, .ref mh, .ref md, .int 0, .ref mk, .ref mt, .int 0, .int 0, .ref z1, .ref z2, .ref z3, .long 0, .int 0, .int 0, .int 0, .ref y1, .ref y2, .ref y3, .ref y4, .int 0, .int 0, .int 0, .int 0, .ref ya, .int 0, .null, .int 0, .null])), aI E rw 168 (fun _ => 0), aI E mh 9 (fun _ => 0), aI E md 9 (fun _ => 0), aZ E mk 2 (fun _ => 0), aI E mt 100 (fun _ => 0), aI E z1 6 (fun _ => 0), aI E z2 6 (fun _ => 0), aI E z3 6 (fun _ => 0), aI E y1 9 (fun _ => 0), aI E y2 9 (fun _ => 0), aI E y3 9 (fun _ => 0), aI E y4 3 (fun _ => 0), aI E ya 1000 (fun _ => 0)]) C hin_ kwX9 tyX9 tyX9_ok nmX9 0 rfl rfl 27 (by decide) kfX9_57 rfl rfl rfl rfl (Nat.le_of_ble_eq_true rfl) rfl dX9_init_120 ?_
  refine g_aload_n C dX9_init_123 rfl ?_
  refine g_bipush (v := 36) C dX9_init_124 (by decide) ?_
  refine g_newI C 36 rfl (by decide) (by decide) (by decide) dX9_init_126 (fun yw => ?_)
  refine g_re (ws' := [(mo, .inr (9, [.ref rw, .int 0, .int 4, .int 3, .int 1, .ref mh, .ref md, .int 0, .ref mk, .ref mt, .int 0, .int 0, .ref z1, .ref z2, .ref z3, .long 0, .int 0, .int 0, .int 0, .ref y1, .ref y2, .ref y3, .ref y4, .int 0, .int 0, .int 0, .int 0, .ref ya, .int 0, .null, .int 0, .null])), aI E rw 168 (fun _ => 0), aI E mh 9 (fun _ => 0), aI E md 9 (fun _ => 0), aZ E mk 2 (fun _ => 0), aI E mt 100 (fun _ => 0), aI E z1 6 (fun _ => 0), aI E z2 6 (fun _ => 0), aI E z3 6 (fun _ => 0), aI E y1 9 (fun _ => 0), aI E y2 9 (fun _ => 0), aI E y3 9 (fun _ => 0), aI E y4 3 (fun _ => 0), aI E ya 1000 (fun _ => 0), aI E yw 36 (fun _ => 0)]) (st' := [.ref yw, .ref mo]) (n' := 14) (z' := 1372) (pc' := 128) rfl rfl rfl rfl ?_
  refine g_putF (ws' := [(mo, .inr (9, [.ref rw, .int 0, .int 4, .int 3, .int 1, .ref mh, .ref md, .int 0, .ref mk, .ref mt, .int 0, .int 0, .ref z1, .ref z2, .ref z3, .long 0, .int 0, .int 0, .int 0, .ref y1, .ref y2, .ref y3, .ref y4, .int 0, .int 0, .int 0, .int 0, .ref ya, .int 0, .ref yw, .int 0, .null])), aI E rw 168 (fun _ => 0), aI E mh 9 (fun _ => 0), aI E md 9 (fun _ => 0), aZ E mk 2 (fun _ => 0), aI E mt 100 (fun _ => 0), aI E z1 6 (fun _ => 0), aI E z2 6 (fun _ => 0), aI E z3 6 (fun _ => 0), aI E y1 9 (fun _ => 0), aI E y2 9 (fun _ => 0), aI E y3 9 (fun _ => 0), aI E y4 3 (fun _ => 0), aI E ya 1000 (fun _ => 0), aI E yw 36 (fun _ => 0)]) C hin_ kwX9 tyX9 tyX9_ok nmX9 0 rfl rfl 29 (by decide) kfX9_60 rfl rfl rfl rfl (Nat.le_of_ble_eq_true rfl) rfl dX9_init_128 ?_
  refine g_aload_n C dX9_init_131 rfl ?_
  refine g_bipush (v := 10) C dX9_init_132 (by decide) ?_
  refine g_newI C 10 rfl (by decide) (by decide) (by decide) dX9_init_134 (fun yp => ?_)
  refine g_re (ws' := [(mo, .inr (9, [.ref rw, .int 0, .int 4, .int 3, .int 1, .ref mh, .ref md, .int 0, .ref mk, .ref mt, .int 0, .int 0, .ref z1, .ref z2, .ref z3, .long 0, .int 0, .int 0, .int 0, .ref y1, .ref y2, .ref y3, .ref y4, .int 0, .int 0, .int 0, .int 0, .ref ya, .int 0, .ref yw, .int 0, .null])), aI E rw 168 (fun _ => 0), aI E mh 9 (fun _ => 0), aI E md 9 (fun _ => 0), aZ E mk 2 (fun _ => 0), aI E mt 100 (fun _ => 0), aI E z1 6 (fun _ => 0), aI E z2 6 (fun _ => 0), aI E z3 6 (fun _ => 0), aI E y1 9 (fun _ => 0), aI E y2 9 (fun _ => 0), aI E y3 9 (fun _ => 0), aI E y4 3 (fun _ => 0), aI E ya 1000 (fun _ => 0), aI E yw 36 (fun _ => 0), aI E yp 10 (fun _ => 0)]) (st' := [.ref yp, .ref mo]) (n' := 15) (z' := 1382) (pc' := 136) rfl rfl rfl rfl ?_
  refine g_putF (ws' := [(mo, .inr (9, [.ref rw, .int 0, .int 4, .int 3, .int 1, .ref mh, .ref md, .int 0, .ref mk, .ref mt, .int 0, .int 0, .ref z1, .ref z2, .ref z3, .long 0, .int 0, .int 0, .int 0, .ref y1, .ref y2, .ref y3, .ref y4, .int 0, .int 0, .int 0, .int 0, .ref ya, .int 0, .ref yw, .int 0, .ref yp])), aI E rw 168 (fun _ => 0), aI E mh 9 (fun _ => 0), aI E md 9 (fun _ => 0), aZ E mk 2 (fun _ => 0), aI E mt 100 (fun _ => 0), aI E z1 6 (fun _ => 0), aI E z2 6 (fun _ => 0), aI E z3 6 (fun _ => 0), aI E y1 9 (fun _ => 0), aI E y2 9 (fun _ => 0), aI E y3 9 (fun _ => 0), aI E y4 3 (fun _ => 0), aI E ya 1000 (fun _ => 0), aI E yw 36 (fun _ => 0), aI E yp 10 (fun _ => 0)]) C hin_ kwX9 tyX9 tyX9_ok nmX9 0 rfl rfl 31 (by decide) kfX9_63 rfl rfl rfl rfl (Nat.le_of_ble_eq_true rfl) rfl dX9_init_136 ?_
  exact g_vret C hR (⟨rw, mh, md, mk, mt, z1, z2, z3, y1, y2, y3, y4, ya, yw, yp, rfl, rfl⟩) dX9_init_139
