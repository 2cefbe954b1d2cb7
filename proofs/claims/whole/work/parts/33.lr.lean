section LRT
variable {n : Nat} {hi de : Nat → Int32} {sf pl vg fp : Int32} {ma : Nat → Int32} {kn fr : Nat} {hp hv hf : Nat → Int32} {hm : Nat → Nat → Int32} {ip0 iv0 if0 : Int32} {ia0 : Nat → Int32} {ip1 iv1 if1 : Int32} {ia1 kf : Nat → Int32} {m : Nat} {e1 : Nat → Int32} {le : Nat} {rf nh nd : Nat → Int32}
theorem LR.kept (h : LR n hi de sf pl vg fp ma kn fr hp hv hf hm ip0 iv0 if0 ia0 ip1 iv1 if1 ia1 kf m e1 le rf nh nd) {p' v' f' : Int32} {ma' rf2 mc0 : Nat → Int32} (hP : PT n p' v' f' ma' rf2 0) (hr : ∀ i, 12 ≤ i → rf2 i = kpF rf kn i) :
    LR n hi de sf p' v' f' ma' (if kn + 1 < 10 then kn + 1 else 10) ((fr + 1) % 10) (upd hp fr pl) (upd hv fr vg) (upd hf fr fp) (updA hm fr (va_cpy ma mc0 0 0 9)) ip0 iv0 if0 ia0 ip1 iv1 if1 ia1 kf m e1 le rf2 nh nd := by
  have hK := h.keepH (mc0 := mc0)
  obtain ⟨⟨hn, hsf, ⟨hk, hfr⟩, hle⟩, h2, -, -, h5, h6, h7⟩ := h
  rw [← kpN_eq hk]
  refine ⟨⟨hn, hsf, ⟨kpN_le hk, Nat.mod_lt _ (by decide)⟩, hle⟩, h2, hP, fun i hi_ => ?_, fun z => ?_, fun z => ?_, h7⟩
  · exact (hK i hi_).at hn (fun q _ => hr _ (by omega)) (fun _ _ => rfl)
  · exact (h5 z).at hn (fun q _ => (hr _ (by omega)).trans (kpF_hi hk (by omega))) (fun _ _ => rfl)
  · exact (h6 z).at hn (fun q _ => (hr _ (by omega)).trans (kpF_hi hk (by omega))) (fun _ _ => rfl)
theorem LR.undone {k0 : Nat} {mb : Nat → Int32} (h : LR n hi de sf pl vg fp ma (k0 + 1) fr hp hv hf hm ip0 iv0 if0 ia0 ip1 iv1 if1 ia1 kf m e1 le rf nh nd) :
    LR n hi de sf (hp ((fr + 9) % 10)) (hv ((fr + 9) % 10)) (hf ((fr + 9) % 10)) (va_cpy (hm ((fr + 9) % 10)) mb 0 0 9) k0 ((fr + 9) % 10) hp hv hf hm ip0 iv0 if0 ia0 ip1 iv1 if1 ia1 kf m e1 le (va_cpy rf rf (12 + 12 * k0) 0 12) nh nd := by
  obtain ⟨⟨hn, hsf, ⟨hk, hfr⟩, hle⟩, h2, -, h4, h5, h6, h7⟩ := h
  refine ⟨⟨hn, hsf, ⟨by omega, Nat.mod_lt _ (by decide)⟩, hle⟩, h2, ?_, fun i hi_ => ?_, fun z => ?_, fun z => ?_, h7⟩
  · have h0 := h4 0 (by omega)
    rw [show k0 + 1 - 1 - 0 = k0 by omega] at h0
    exact h0.at hn (fun i hi_ => cpyR_in (t := 0) hi_) (fun s hs => cpy_lt (by omega))
  · have h0 := h4 (i + 1) (by omega)
    have e : rsl ((fr + 9) % 10) i = rsl fr (i + 1) := by show ((fr + 9) % 10 + 9 - i) % 10 = (fr + 9 - (i + 1)) % 10; omega
    rw [e]
    rw [show k0 + 1 - 1 - (i + 1) = k0 - 1 - i by omega] at h0
    exact h0.at hn (fun q _ => cpyR_out (by omega)) (fun _ _ => rfl)
  · exact (h5 z).at hn (fun q _ => cpyR_out (by omega)) (fun _ _ => rfl)
  · exact (h6 z).at hn (fun q _ => cpyR_out (by omega)) (fun _ _ => rfl)
theorem LR.keep0 {mb : Nat → Int32} (h : LR n hi de sf pl vg fp ma kn fr hp hv hf hm ip0 iv0 if0 ia0 ip1 iv1 if1 ia1 kf m e1 le rf nh nd) :
    LR n hi de sf pl vg fp ma kn fr hp hv hf hm pl vg fp (va_cpy ma mb 0 0 9) ip1 iv1 if1 ia1 (upd kf 0 1) m e1 le (va_cpy rf rf 0 132 12) nh nd := by
  obtain ⟨⟨hn, hsf, ⟨hk, hfr⟩, hle⟩, h2, h3, h4, h5, h6, h7⟩ := h
  refine ⟨⟨hn, hsf, ⟨hk, hfr⟩, hle⟩, h2, ?_, fun i hi_ => ?_, fun _ => ?_, fun z => ?_, h7⟩
  · exact h3.at hn (fun q _ => cpyR_out (by omega)) (fun _ _ => rfl)
  · exact (h4 i hi_).at hn (fun q _ => cpyR_out (by omega)) (fun _ _ => rfl)
  · exact h3.at hn (fun q hq => cpyR_in hq) (fun s hs => cpy_lt (by omega))
  · exact (h6 (fun y => z (by rw [pk_un (by decide)]; exact y))).at hn (fun q _ => cpyR_out (by omega)) (fun _ _ => rfl)
theorem LR.keep1 {mb : Nat → Int32} (h : LR n hi de sf pl vg fp ma kn fr hp hv hf hm ip0 iv0 if0 ia0 ip1 iv1 if1 ia1 kf m e1 le rf nh nd) :
    LR n hi de sf pl vg fp ma kn fr hp hv hf hm ip0 iv0 if0 ia0 pl vg fp (va_cpy ma mb 0 0 9) (upd kf 1 1) m e1 le (va_cpy rf rf 0 144 12) nh nd := by
  obtain ⟨⟨hn, hsf, ⟨hk, hfr⟩, hle⟩, h2, h3, h4, h5, h6, h7⟩ := h
  refine ⟨⟨hn, hsf, ⟨hk, hfr⟩, hle⟩, h2, ?_, fun i hi_ => ?_, fun z => ?_, fun _ => ?_, h7⟩
  · exact h3.at hn (fun q _ => cpyR_out (by omega)) (fun _ _ => rfl)
  · exact (h4 i hi_).at hn (fun q _ => cpyR_out (by omega)) (fun _ _ => rfl)
  · exact (h5 (fun y => z (by rw [pk_un (by decide)]; exact y))).at hn (fun q _ => cpyR_out (by omega)) (fun _ _ => rfl)
  · exact h3.at hn (fun q hq => cpyR_in hq) (fun s hs => cpy_lt (by omega))
theorem LR.back0 {mb : Nat → Int32} (h : LR n hi de sf pl vg fp ma kn fr hp hv hf hm ip0 iv0 if0 ia0 ip1 iv1 if1 ia1 kf m e1 le rf nh nd) (hz : ¬ kf 0 = 0) :
    LR n hi de sf ip0 iv0 if0 (va_cpy ia0 mb 0 0 9) 0 fr hp hv hf hm ip0 iv0 if0 ia0 ip1 iv1 if1 ia1 kf m e1 le (va_cpy rf rf 132 0 12) nh nd := by
  obtain ⟨⟨hn, hsf, ⟨hk, hfr⟩, hle⟩, h2, h3, h4, h5, h6, h7⟩ := h
  refine ⟨⟨hn, hsf, ⟨Nat.zero_le _, hfr⟩, hle⟩, h2, ?_, fun i hi_ => absurd hi_ (Nat.not_lt_zero _), fun z => ?_, fun z => ?_, h7⟩
  · exact (h5 hz).at hn (fun q hq => cpyR_in (t := 0) hq) (fun s hs => cpy_lt (by omega))
  · exact (h5 z).at hn (fun q _ => cpyR_out (by omega)) (fun _ _ => rfl)
  · exact (h6 z).at hn (fun q _ => cpyR_out (by omega)) (fun _ _ => rfl)
theorem LR.back1 {mb : Nat → Int32} (h : LR n hi de sf pl vg fp ma kn fr hp hv hf hm ip0 iv0 if0 ia0 ip1 iv1 if1 ia1 kf m e1 le rf nh nd) (hz : ¬ kf 1 = 0) :
    LR n hi de sf ip1 iv1 if1 (va_cpy ia1 mb 0 0 9) 0 fr hp hv hf hm ip0 iv0 if0 ia0 ip1 iv1 if1 ia1 kf m e1 le (va_cpy rf rf 144 0 12) nh nd := by
  obtain ⟨⟨hn, hsf, ⟨hk, hfr⟩, hle⟩, h2, h3, h4, h5, h6, h7⟩ := h
  refine ⟨⟨hn, hsf, ⟨Nat.zero_le _, hfr⟩, hle⟩, h2, ?_, fun i hi_ => absurd hi_ (Nat.not_lt_zero _), fun z => ?_, fun z => ?_, h7⟩
  · exact (h6 hz).at hn (fun q hq => cpyR_in (t := 0) hq) (fun s hs => cpy_lt (by omega))
  · exact (h5 z).at hn (fun q _ => cpyR_out (by omega)) (fun _ _ => rfl)
  · exact (h6 z).at hn (fun q _ => cpyR_out (by omega)) (fun _ _ => rfl)
theorem LR.seen (h : LR n hi de sf pl vg fp ma kn fr hp hv hf hm ip0 iv0 if0 ia0 ip1 iv1 if1 ia1 kf m e1 le rf nh nd) {j : Nat} (hj : j < n) (hm6 : m < 6) :
    LR n hi de sf pl vg fp ma kn fr hp hv hf hm ip0 iv0 if0 ia0 ip1 iv1 if1 ia1 kf (m + 1) (upd e1 m (nI j)) le rf nh nd := by
  obtain ⟨h1, h2, h3, h4, h5, h6, h7⟩ := h
  refine ⟨h1, h2, h3, h4, h5, h6, by omega, fun i hi_ => ?_⟩
  by_cases e : i = m
  · subst e; exact ⟨j, hj, upd_self _ _ _⟩
  · rw [pk_un e]; exact h7.2 i (by omega)
theorem LR.forget (h : LR n hi de sf pl vg fp ma kn fr hp hv hf hm ip0 iv0 if0 ia0 ip1 iv1 if1 ia1 kf m e1 le rf nh nd) :
    LR n hi de sf pl vg fp ma kn fr hp hv hf hm ip0 iv0 if0 ia0 ip1 iv1 if1 ia1 kf 0 e1 le rf nh nd := by
  obtain ⟨h1, h2, h3, h4, h5, h6, h7⟩ := h
  exact ⟨h1, h2, h3, h4, h5, h6, Nat.zero_le _, fun i hi_ => absurd hi_ (Nat.not_lt_zero _)⟩
theorem LR.len (h : LR n hi de sf pl vg fp ma kn fr hp hv hf hm ip0 iv0 if0 ia0 ip1 iv1 if1 ia1 kf m e1 le rf nh nd) {le2 : Nat} (hl : le2 ≤ 100) :
    LR n hi de sf pl vg fp ma kn fr hp hv hf hm ip0 iv0 if0 ia0 ip1 iv1 if1 ia1 kf m e1 le2 rf nh nd := ⟨⟨h.1.1, h.1.2.1, h.1.2.2.1, hl⟩, h.2⟩
theorem sfC_le {co : Nat → Int32} (h : co 1 = -1 ∨ (1 ≤ co 1 ∧ co 1 ≤ 9)) : sfC co ≤ 9 := by
  unfold sfC
  rcases h with h | h
  · rw [h]; decide
  · rw [if_neg (Int32.not_lt.mpr (Int32.le_trans (by decide) h.1))]; exact h.2
theorem LR_new {hi3 de3 pm3 co3 hi4 de4 pm4 co4 hi9 de9 pma mb : Nat → Int32} (hfr : fr < 10) (hP : POK (n, hi3, de3, pm3, co3)) (hR : PR (n, hi3, de3, pm3, co3) (n, hi4, de4, pm4, co4)) :
    LR n (va_cpy hi3 hi9 0 0 9) (va_cpy de3 de9 0 0 9) (sfC co3) 0 0 0 (va_cpy (va_cpy pm3 pma 0 0 9) mb 0 0 9) 0 fr hp hv hf hm ip0 iv0 if0 ia0 ip1 iv1 if1 ia1 (upd (upd kf 0 0) 1 0) 0 e1 0 (va_cpy pm4 (z12 rf 12) 0 3 n) (va_cpy hi4 nh 0 0 n) (va_cpy de4 nd 0 0 n) := by
  obtain ⟨hn, h1, -, h2, -⟩ := hP
  obtain ⟨-, hE, -⟩ := hR
  have hn : n ≤ 9 := hn
  have cin : ∀ (f g : Nat → Int32) (s : Nat), s < n → va_cpy f g 0 0 n s = f s := fun f g s hs => by
    rw [pk_cpy_in (Nat.zero_le _) (by omega)]
    congr 1
    omega
  refine ⟨⟨hn, sfC_le h2, ⟨Nat.zero_le _, hfr⟩, Nat.zero_le _⟩, fun s hs => ?_, ⟨0, 0, 0, ⟨Nat.zero_le _, by decide, by decide, fun _ => rfl⟩, ⟨rfl, rfl, rfl⟩, ⟨?_, ?_, ?_⟩, fun s hs => ?_⟩, fun i hi_ => absurd hi_ (Nat.not_lt_zero _), fun z => absurd (by rw [pk_un (by decide)]; exact upd_self _ _ _) z, fun z => absurd (upd_self _ _ _) z, Nat.zero_le _, fun i hi_ => absurd hi_ (Nat.not_lt_zero _)⟩
  · rw [cin _ _ s hs, cin _ _ s hs, cpy_lt (by omega), cpy_lt (by omega)]
    exact ⟨(hE s hs).1.symm, (hE s hs).2.1.symm⟩
  · rw [pk_cpy_out (by omega)]; rfl
  · rw [pk_cpy_out (by omega)]; rfl
  · rw [pk_cpy_out (by omega)]; rfl
  · rw [cpy_lt (by omega), cpy_lt (by omega), pk_cpy_in (by omega) (by omega)]
    refine ⟨(h1 s hs).2.2, ?_⟩
    rw [show 0 + (0 + 3 + s - 3) = s by omega]
    exact (hE s hs).2.2.symm
theorem LR_init {hp hv hf : Nat → Int32} {hm : Nat → Nat → Int32} : LR 0 (fun _ => 0) (fun _ => 0) 3 0 0 0 (fun _ => 0) 0 0 hp hv hf hm ip0 iv0 if0 ia0 ip1 iv1 if1 ia1 (fun _ => 0) 0 e1 0 (fun _ => 0) (fun _ => 0) (fun _ => 0) :=
  ⟨⟨by decide, by decide, ⟨by decide, by decide⟩, by decide⟩, fun s hs => absurd hs (Nat.not_lt_zero _), ⟨0, 0, 0, ⟨by decide, by decide, by decide, fun _ => rfl⟩, ⟨rfl, rfl, rfl⟩, ⟨rfl, rfl, rfl⟩, fun s hs => absurd hs (Nat.not_lt_zero _)⟩, fun i hi_ => absurd hi_ (Nat.not_lt_zero _), fun z => absurd rfl z, fun z => absurd rfl z, Nat.zero_le _, fun i hi_ => absurd hi_ (Nat.not_lt_zero _)⟩
theorem LR.bs (h : LR n hi de sf pl vg fp ma kn fr hp hv hf hm ip0 iv0 if0 ia0 ip1 iv1 if1 ia1 kf m e1 le rf nh nd) : ∀ j, j < m → e1 j = nI ((fun i => (e1 i).toNatClampNeg) j) ∧ (fun i => (e1 i).toNatClampNeg) j < n := by
  intro j hj
  have hn := h.1.1
  obtain ⟨b, hb, e⟩ := h.2.2.2.2.2.2.2 j hj
  have e2 : (e1 j).toNatClampNeg = b := by rw [e]; exact nI_clamp (by omega)
  show e1 j = nI ((e1 j).toNatClampNeg) ∧ (e1 j).toNatClampNeg < n
  rw [e2]
  exact ⟨e, hb⟩
end LRT
theorem lg_cmp_self (x : Int64) : lg_cmp x x = 0 := by
  unfold lg_cmp
  simp
def SCR (k : KX) (b L : Nat) (xs : Nat → Int32) : Prop := va_X b L xs k.s k.s.heap ∧ b < k.s.heap.size ∧ ¬ k.A b ∧ L ≤ 2048
section GN
variable {k : KX} {E : EX} {cc : ByteArray} {own : String} {rm : Room} {n z pc : Nat} {lv : List (Option Value)} {st : List Value} {ws : va_W}
theorem g_sld (C : Cx k E cc own rm) {b L : Nat} {xs : Nat → Int32} (hS : SCR k b L xs) {i : Int32} (j : Nat) (hi : i = nI j) (hj : j < L) (d : decode cc pc = .ok (.iaload, 1)) (h : G k E n z (pc + 1) lv (.int (xs j) :: st) ws) : G k E n z pc lv (.int i :: .ref b :: st) ws := by
  subst hi
  intro H locs ls hP hD hS2 hl
  have hL := hS.2.2.2
  have e := h H locs ls hP hD hS2 hl
  rw [← nI_clamp (show j < 2 ^ 31 by omega)] at e
  exact va_sld C.1 C.2.1 hS.1 hS.2.1 hS.2.2.1 hS2 (vp_in_nI hj (by omega)) d e
theorem g_slen (C : Cx k E cc own rm) {b L : Nat} {xs : Nat → Int32} (hS : SCR k b L xs) (d : decode cc pc = .ok (.arraylength, 1)) (h : G k E n z (pc + 1) lv (.int (nI L) :: st) ws) : G k E n z pc lv (.ref b :: st) ws :=
  fun H locs ls hP hD hS2 hl => va_slen C.1 C.2.1 hS.1 hS.2.1 hS.2.2.1 hS2 d (h H locs ls hP hD hS2 hl)
end GN
