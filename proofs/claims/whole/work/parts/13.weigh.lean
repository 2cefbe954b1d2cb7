def tmF (n : Nat) (hi de : Nat → Int32) (M : List Nat) (ma ma0 : Nat → Int32) (lg st dr : Int32) (a : Nat) (vg : Int32) (x : Nat) : Nat → Nat := fun g => if 0 < wN x M.length g ∧ ¬ (runF n hi de (remF M ma g M.length ma0) lg st dr 9 a vg 0 0).1 < n then wN x M.length g else 0
theorem tmF_le {n : Nat} {hi de : Nat → Int32} {M : List Nat} {ma ma0 : Nat → Int32} {lg st dr : Int32} {a : Nat} {vg : Int32} {x : Nat} (hx : x ≤ 10) : sumN (tmF n hi de M ma ma0 lg st dr a vg x) (2 ^ M.length) ≤ 10 ^ M.length := by
  rw [← wN_sum hx M.length]
  refine sumN_le _ (fun g _ => ?_)
  unfold tmF
  split
  · exact Nat.le_refl _
  · exact Nat.zero_le _
theorem ten9 {m : Nat} (h : m ≤ 9) : 10 ^ m < 2 ^ 31 := Nat.lt_of_le_of_lt (Nat.pow_le_pow_right (by decide) h) (by decide)
theorem two9 {m : Nat} (h : m ≤ 9) : 2 ^ m ≤ 512 := Nat.le_trans (Nat.pow_le_pow_right (by decide) h) (by decide)

set_option maxHeartbeats 4000000 in
set_option maxRecDepth 100000 in
theorem lp2_X0_weigh {k : KX} {E : EX} (C : Cx k E cX0_weigh RX0 (rmL 6 0 0)) (hnl : ∀ j : Nat, j < 6 → j < k.nL) {h : Nat} {w : Nat} {mt : Nat} {mf : Nat → Int32} {p : Nat} {wm : Nat} {ph : Nat} {pd : Nat} {pm : Nat} {n : Nat} {lg : Int32} {sf : Int32} {dg : Int32} {hi : Nat → Int32} {de : Nat → Int32} {o : Nat} {om : Nat} {a : Nat} {vg : Int32} {fp : Int32} {ma : Nat → Int32} {x : Nat} {M : List Nat} {ma0 : Nat → Int32} (hn : n ≤ 9) (ha : a ≤ n) (hx10 : x ≤ 10) (hM9 : M.length ≤ 9) (hMn : ∀ s, s ∈ M → s < n) (hmf : ∀ i, i < M.length → mf i = nI (M.getD i 0)) (hR : Rt k E (fun (rv_ : Option Value) (rw_ : va_W) => ∃ (mf2 : Nat → Int32) (wm2 : Nat → Int32) (a2 : Int32) (v2 : Int32) (fl2 : Int32) (sl2 : Int32), rv_ = none ∧ rw_ = [(h, .inr (0, [.ref w, .ref mt, .int (nI (M).length), .long (lN ((sumN (tmF n hi de (M) ma (ma0) lg sf dg a vg x) (2 ^ (M).length)) / Nat.gcd (sumN (tmF n hi de (M) ma (ma0) lg sf dg a vg x) (2 ^ (M).length)) (10 ^ (M).length))), .long (lN ((10 ^ (M).length) / Nat.gcd (sumN (tmF n hi de (M) ma (ma0) lg sf dg a vg x) (2 ^ (M).length)) (10 ^ (M).length)))])), aI E mt 9 mf2, (w, .inr (7, [.ref p, .ref wm, .int sf, .int dg, .int a2, .int v2, .int fl2, .int sl2])), (p, .inr (5, [.ref ph, .ref pd, .ref pm, .int (nI n), .int lg, .int sf, .int dg])), aI E ph 9 hi, aI E pd 9 de, aI E wm 9 wm2, (o, .inr (4, [.ref om, .int (nI a), .int vg, .int fp])), aI E om 9 ma]) 0 0 none) : ∀ (f g : Nat) (wmx : Nat → Int32) (a0 v fl sl : Int32), g + f = 2 ^ M.length → (∀ s, s < n → s ∉ M → wmx s = ma0 s) → G k E 0 0 53 [some (.ref h), some (.ref o), some (.int (nI x)), some (.int (nI g)), none, none] [] [(h, .inr (0, [.ref w, .ref mt, .int (nI M.length), .long (lN (sumN (tmF n hi de M ma ma0 lg sf dg a vg x) g)), .long (lN (10 ^ M.length))])), aI E mt 9 mf, (w, .inr (7, [.ref p, .ref wm, .int sf, .int dg, .int a0, .int v, .int fl, .int sl])), (p, .inr (5, [.ref ph, .ref pd, .ref pm, .int (nI n), .int lg, .int sf, .int dg])), aI E ph 9 hi, aI E pd 9 de, aI E wm 9 wmx, (o, .inr (4, [.ref om, .int (nI a), .int vg, .int fp])), aI E om 9 ma] := by
  have h512 := two9 hM9
  intro f
  induction f with
  | zero =>
    intro g wmx a0 v fl sl hg hinv
    have e : g = 2 ^ M.length := by omega
    subst e
    refine g_iload_n C dX0_weigh_53 rfl ?_
    refine g_iconst (v := 1) C dX0_weigh_54 (by decide) ?_
    refine g_aload_n C dX0_weigh_55 rfl ?_
    refine g_get C kwX0 0 rfl rfl 2 (by decide) kfX0_35 rfl dX0_weigh_56 ?_
    refine g_ishl C dX0_weigh_59 ?_
    refine g_topi (v := nI (2 ^ M.length)) (sh_one' (by omega)) ?_
    refine g_icmp_ge (tgt := 104) C dX0_weigh_60 (by decide) (fun c60 => ?_) (fun c60 => ?_)
    · skip
      refine g_aload_n C dX0_weigh_104 rfl ?_
      refine g_callV C (c_X0_reduce k.l E h w mt (nI M.length) (sumN (tmF n hi de M ma ma0 lg sf dg a vg x) (2 ^ M.length)) (10 ^ M.length) (Nat.lt_of_le_of_lt (tmF_le hx10) (ten9 hM9)) (ten9 hM9) (Nat.pow_pos (by decide))) kmX0_49 kiX0_reduce ksX0_reduce knX0 kcX0_reduce ⟨rfl, rfl⟩ ⟨rfl, kdX0_reduce⟩ ⟨by decide, by decide⟩ ⟨by decide, by decide⟩ [0] [1, 2, 3, 4, 5, 6, 7, 8] rfl (wr := [aI E mt 9 mf, (w, .inr (7, [.ref p, .ref wm, .int sf, .int dg, .int a0, .int v, .int fl, .int sl])), (p, .inr (5, [.ref ph, .ref pd, .ref pm, .int (nI n), .int lg, .int sf, .int dg])), aI E ph 9 hi, aI E pd 9 de, aI E wm 9 wmx, (o, .inr (4, [.ref om, .int (nI a), .int vg, .int fp])), aI E om 9 ma]) rfl (by decide +kernel) (by decide +kernel) (by decide +kernel) 0 0 rfl rfl rfl (As := []) (rest := []) rfl (Nat.le_of_ble_eq_true rfl) dX0_weigh_105 (fun rv_ rw_ hp_ => ?_)
      obtain ⟨rfl, rfl⟩ := hp_
      refine g_rep [8, 0, 1, 2, 3, 4, 5, 6, 7] (ws' := [(h, .inr (0, [.ref w, .ref mt, .int (nI M.length), .long (lN ((sumN (tmF n hi de M ma ma0 lg sf dg a vg x) (2 ^ M.length)) / Nat.gcd (sumN (tmF n hi de M ma ma0 lg sf dg a vg x) (2 ^ M.length)) (10 ^ M.length))), .long (lN ((10 ^ M.length) / Nat.gcd (sumN (tmF n hi de M ma ma0 lg sf dg a vg x) (2 ^ M.length)) (10 ^ M.length)))])), aI E mt 9 mf, (w, .inr (7, [.ref p, .ref wm, .int sf, .int dg, .int a0, .int v, .int fl, .int sl])), (p, .inr (5, [.ref ph, .ref pd, .ref pm, .int (nI n), .int lg, .int sf, .int dg])), aI E ph 9 hi, aI E pd 9 de, aI E wm 9 wmx, (o, .inr (4, [.ref om, .int (nI a), .int vg, .int fp])), aI E om 9 ma]) (st' := []) (n' := 0) (z' := 0) (pc' := 108) rfl rfl rfl rfl (by decide +kernel) rfl ?_
      exact g_vret C hR (⟨_, _, _, _, _, _, rfl, rfl⟩) dX0_weigh_108
    · skip
      exact absurd (Int32.le_refl _) c60
  | succ f ih =>
    intro g wmx a0 v fl sl hg hinv
    have hwb : wN x M.length g < 2 ^ 31 := Nat.lt_of_le_of_lt (wN_le hx10 _ _) (ten9 hM9)
    have hrr : (runF n hi de (remF M ma g M.length wmx) lg sf dg 9 a vg 0 0).1 = (runF n hi de (remF M ma g M.length ma0) lg sf dg 9 a vg 0 0).1 := by rw [runF_congr (fun s hs => ⟨rfl, rfl, remF_all hinv s hs⟩)]
    refine g_iload_n C dX0_weigh_53 rfl ?_
    refine g_iconst (v := 1) C dX0_weigh_54 (by decide) ?_
    refine g_aload_n C dX0_weigh_55 rfl ?_
    refine g_get C kwX0 0 rfl rfl 2 (by decide) kfX0_35 rfl dX0_weigh_56 ?_
    refine g_ishl C dX0_weigh_59 ?_
    refine g_topi (v := nI (2 ^ M.length)) (sh_one' (by omega)) ?_
    refine g_icmp_ge (tgt := 104) C dX0_weigh_60 (by decide) (fun c60 => ?_) (fun c60 => ?_)
    · skip
      exact absurd ((nI_leI (by omega) (by omega)).mp c60) (by omega)
    · skip
      refine g_aload_n C dX0_weigh_63 rfl ?_
      refine g_iload_n C dX0_weigh_64 rfl ?_
      refine g_iload_n C dX0_weigh_65 rfl ?_
      refine g_callV C (c_X0_weightOf k.l E h w mt M.length (lN (sumN (tmF n hi de M ma ma0 lg sf dg a vg x) g)) (lN (10 ^ M.length)) g x (hM9) (by omega) (by first | assumption | omega)) kmX0_41 kiX0_weightOf ksX0_weightOf knX0 kcX0_weightOf ⟨rfl, rfl⟩ ⟨rfl, kdX0_weightOf⟩ ⟨by decide, by decide⟩ ⟨by decide, by decide⟩ [0] [1, 2, 3, 4, 5, 6, 7, 8] rfl (wr := [aI E mt 9 mf, (w, .inr (7, [.ref p, .ref wm, .int sf, .int dg, .int a0, .int v, .int fl, .int sl])), (p, .inr (5, [.ref ph, .ref pd, .ref pm, .int (nI n), .int lg, .int sf, .int dg])), aI E ph 9 hi, aI E pd 9 de, aI E wm 9 wmx, (o, .inr (4, [.ref om, .int (nI a), .int vg, .int fp])), aI E om 9 ma]) rfl (by decide +kernel) (by decide +kernel) (by decide +kernel) 0 0 rfl rfl rfl (As := [.int (nI g), .int (nI x)]) (rest := []) rfl (Nat.le_of_ble_eq_true rfl) dX0_weigh_66 (fun rv_ rw_ hp_ => ?_)
      obtain ⟨rfl, rfl⟩ := hp_
      refine g_rep [8, 0, 1, 2, 3, 4, 5, 6, 7] (ws' := [(h, .inr (0, [.ref w, .ref mt, .int (nI M.length), .long (lN (sumN (tmF n hi de M ma ma0 lg sf dg a vg x) g)), .long (lN (10 ^ M.length))])), aI E mt 9 mf, (w, .inr (7, [.ref p, .ref wm, .int sf, .int dg, .int a0, .int v, .int fl, .int sl])), (p, .inr (5, [.ref ph, .ref pd, .ref pm, .int (nI n), .int lg, .int sf, .int dg])), aI E ph 9 hi, aI E pd 9 de, aI E wm 9 wmx, (o, .inr (4, [.ref om, .int (nI a), .int vg, .int fp])), aI E om 9 ma]) (st' := [.long (lN (wN x M.length g))]) (n' := 0) (z' := 0) (pc' := 69) rfl rfl rfl rfl (by decide +kernel) rfl ?_
      refine g_lstore (lv' := [some (.ref h), some (.ref o), some (.int (nI x)), some (.int (nI g)), some (.long (lN (wN x M.length g))), none]) C dX0_weigh_69 (hnl 5 (by decide)) rfl rfl ?_
      refine g_lload C dX0_weigh_71 rfl ?_
      refine g_lconst (v := 0) C dX0_weigh_73 rfl ?_
      refine g_lcmp C dX0_weigh_74 ?_
      refine g_if_le (tgt := 98) C dX0_weigh_75 (by decide) (fun c75 => ?_) (fun c75 => ?_)
      · skip
        have hsum : sumN (tmF n hi de M ma ma0 lg sf dg a vg x) (g + 1) = sumN (tmF n hi de M ma ma0 lg sf dg a vg x) g := by
          show sumN _ g + (tmF n hi de M ma ma0 lg sf dg a vg x) g = _
          rw [show (tmF n hi de M ma ma0 lg sf dg a vg x) g = 0 from if_neg (fun q => absurd q.1 (by have := (lN_le (b := 0) hwb (by decide)).mp ((lg_cmp_le _ _).mp c75); omega))]
          rfl
        refine g_iinc (v := nI (g + 1)) (lv' := [some (.ref h), some (.ref o), some (.int (nI x)), some (.int (nI (g + 1))), some (.long (lN (wN x M.length g))), none]) C dX0_weigh_98 rfl (nI_add _ 1) (hnl 3 (by decide)) rfl rfl ?_
        refine g_goto (tgt := 53) C dX0_weigh_101 (by decide) ?_
        refine g_kill 4 (lv' := [some (.ref h), some (.ref o), some (.int (nI x)), some (.int (nI (g + 1))), none, none]) rfl ?_
        have hi2 := fun w a b c d => ih (g + 1) w a b c d (by omega) 
        rw [hsum] at hi2
        exact hi2 _ _ _ _ _ hinv
      · skip
        refine g_aload_n C dX0_weigh_78 rfl ?_
        refine g_aload_n C dX0_weigh_79 rfl ?_
        refine g_iload_n C dX0_weigh_80 rfl ?_
        refine g_callV C (c_X0_reachesFloor k.l E h w mt (lN (sumN (tmF n hi de M ma ma0 lg sf dg a vg x) g)) (lN (10 ^ M.length)) M mf p wm sf dg a0 v fl sl ph pd pm n lg sf dg hi de wmx o om a vg fp ma g (by first | assumption | omega) (by first | assumption | omega) (by first | assumption | omega) (by first | assumption | omega) (by first | assumption | omega) (by omega)) kmX0_45 kiX0_reachesFloor ksX0_reachesFloor knX0 kcX0_reachesFloor ⟨rfl, rfl⟩ ⟨rfl, kdX0_reachesFloor⟩ ⟨by decide, by decide⟩ ⟨by decide, by decide⟩ [0, 1, 2, 3, 4, 5, 6, 7, 8] [] rfl (wr := []) rfl (by decide +kernel) (by decide +kernel) (by decide +kernel) 0 0 rfl rfl rfl (As := [.ref o, .int (nI g)]) (rest := []) rfl (Nat.le_of_ble_eq_true rfl) dX0_weigh_81 (fun rv_ rw_ hp_ => ?_)
        obtain ⟨a2_1, v2_2, fl2_3, sl2_4, rfl, rfl⟩ := hp_
        refine g_rep [0, 1, 2, 3, 4, 5, 6, 7, 8] (ws' := [(h, .inr (0, [.ref w, .ref mt, .int (nI M.length), .long (lN (sumN (tmF n hi de M ma ma0 lg sf dg a vg x) g)), .long (lN (10 ^ M.length))])), aI E mt 9 mf, (w, .inr (7, [.ref p, .ref wm, .int sf, .int dg, .int a2_1, .int v2_2, .int fl2_3, .int sl2_4])), (p, .inr (5, [.ref ph, .ref pd, .ref pm, .int (nI n), .int lg, .int sf, .int dg])), aI E ph 9 hi, aI E pd 9 de, aI E wm 9 (remF M ma g M.length wmx), (o, .inr (4, [.ref om, .int (nI a), .int vg, .int fp])), aI E om 9 ma]) (st' := [.int (bI (¬ (runF n hi de (remF M ma g M.length wmx) lg sf dg 9 a vg 0 0).1 < n))]) (n' := 0) (z' := 0) (pc' := 84) rfl rfl rfl rfl (by decide +kernel) rfl ?_
        refine g_if_eq (tgt := 98) C dX0_weigh_84 (by decide) (fun c84 => ?_) (fun c84 => ?_)
        · skip
          have hnr := bI_0 c84
          rw [hrr] at hnr
          have hsum : sumN (tmF n hi de M ma ma0 lg sf dg a vg x) (g + 1) = sumN (tmF n hi de M ma ma0 lg sf dg a vg x) g := by
            show sumN _ g + (tmF n hi de M ma ma0 lg sf dg a vg x) g = _
            rw [show (tmF n hi de M ma ma0 lg sf dg a vg x) g = 0 from if_neg (fun q => hnr q.2)]
            rfl
          refine g_iinc (v := nI (g + 1)) (lv' := [some (.ref h), some (.ref o), some (.int (nI x)), some (.int (nI (g + 1))), some (.long (lN (wN x M.length g))), none]) C dX0_weigh_98 rfl (nI_add _ 1) (hnl 3 (by decide)) rfl rfl ?_
          refine g_goto (tgt := 53) C dX0_weigh_101 (by decide) ?_
          refine g_kill 4 (lv' := [some (.ref h), some (.ref o), some (.int (nI x)), some (.int (nI (g + 1))), none, none]) rfl ?_
          have hi2 := fun w a b c d => ih (g + 1) w a b c d (by omega) 
          rw [hsum] at hi2
          exact hi2 _ _ _ _ _ (fun s hs hsM => (remF_off hsM _ (Nat.le_refl _)).trans (hinv s hs hsM))
        · skip
          have hyr := bI_1 c84
          rw [hrr] at hyr
          have hwp : 0 < wN x M.length g := Nat.pos_of_ne_zero (fun q => c75 ((lg_cmp_le _ _).mpr (by rw [q]; exact Int64.le_refl _)))
          have hsum : sumN (tmF n hi de M ma ma0 lg sf dg a vg x) (g + 1) = sumN (tmF n hi de M ma ma0 lg sf dg a vg x) g + wN x M.length g := by
            show sumN _ g + (tmF n hi de M ma ma0 lg sf dg a vg x) g = _
            rw [show (tmF n hi de M ma ma0 lg sf dg a vg x) g = wN x M.length g from if_pos ⟨hwp, hyr⟩]
          refine g_aload_n C dX0_weigh_87 rfl ?_
          refine g_dup C dX0_weigh_88 rfl ?_
          refine g_get C kwX0 0 rfl rfl 3 (by decide) kfX0_28 rfl dX0_weigh_89 ?_
          refine g_lload C dX0_weigh_92 rfl ?_
          refine g_ladd C dX0_weigh_94 ?_
          refine g_topl (v := lN (sumN (tmF n hi de M ma ma0 lg sf dg a vg x) (g + 1))) (by rw [hsum, lN_add]) ?_
          refine g_put (ws' := [(h, .inr (0, [.ref w, .ref mt, .int (nI M.length), .long (lN (sumN (tmF n hi de M ma ma0 lg sf dg a vg x) (g + 1))), .long (lN (10 ^ M.length))])), aI E mt 9 mf, (w, .inr (7, [.ref p, .ref wm, .int sf, .int dg, .int a2_1, .int v2_2, .int fl2_3, .int sl2_4])), (p, .inr (5, [.ref ph, .ref pd, .ref pm, .int (nI n), .int lg, .int sf, .int dg])), aI E ph 9 hi, aI E pd 9 de, aI E wm 9 (remF M ma g M.length wmx), (o, .inr (4, [.ref om, .int (nI a), .int vg, .int fp])), aI E om 9 ma]) C kwX0 tyX0 tyX0_ok nmX0 0 rfl rfl 3 (by decide) kfX0_28 rfl rfl rfl (Nat.le_of_ble_eq_true rfl) rfl dX0_weigh_95 ?_
          refine g_iinc (v := nI (g + 1)) (lv' := [some (.ref h), some (.ref o), some (.int (nI x)), some (.int (nI (g + 1))), some (.long (lN (wN x M.length g))), none]) C dX0_weigh_98 rfl (nI_add _ 1) (hnl 3 (by decide)) rfl rfl ?_
          refine g_goto (tgt := 53) C dX0_weigh_101 (by decide) ?_
          refine g_kill 4 (lv' := [some (.ref h), some (.ref o), some (.int (nI x)), some (.int (nI (g + 1))), none, none]) rfl ?_
          exact ih (g + 1) _ _ _ _ _ (by omega) (fun s hs hsM => (remF_off hsM _ (Nat.le_refl _)).trans (hinv s hs hsM))

set_option maxHeartbeats 4000000 in
set_option maxRecDepth 100000 in
theorem lp1_X0_weigh {k : KX} {E : EX} (C : Cx k E cX0_weigh RX0 (rmL 6 0 0)) (hnl : ∀ j : Nat, j < 6 → j < k.nL) {h : Nat} {w : Nat} {mt : Nat} {mf : Nat → Int32} {p : Nat} {wm : Nat} {ph : Nat} {pd : Nat} {pm : Nat} {n : Nat} {lg : Int32} {sf : Int32} {dg : Int32} {hi : Nat → Int32} {de : Nat → Int32} {o : Nat} {om : Nat} {a : Nat} {vg : Int32} {fp : Int32} {ma : Nat → Int32} {x : Nat} {M : List Nat} {ma0 : Nat → Int32} (hn : n ≤ 9) (ha : a ≤ n) (hx10 : x ≤ 10) (hM9 : M.length ≤ 9) (hMn : ∀ s, s ∈ M → s < n) (hmf : ∀ i, i < M.length → mf i = nI (M.getD i 0)) (hR : Rt k E (fun (rv_ : Option Value) (rw_ : va_W) => ∃ (mf2 : Nat → Int32) (wm2 : Nat → Int32) (a2 : Int32) (v2 : Int32) (fl2 : Int32) (sl2 : Int32), rv_ = none ∧ rw_ = [(h, .inr (0, [.ref w, .ref mt, .int (nI (M).length), .long (lN ((sumN (tmF n hi de (M) ma (ma0) lg sf dg a vg x) (2 ^ (M).length)) / Nat.gcd (sumN (tmF n hi de (M) ma (ma0) lg sf dg a vg x) (2 ^ (M).length)) (10 ^ (M).length))), .long (lN ((10 ^ (M).length) / Nat.gcd (sumN (tmF n hi de (M) ma (ma0) lg sf dg a vg x) (2 ^ (M).length)) (10 ^ (M).length)))])), aI E mt 9 mf2, (w, .inr (7, [.ref p, .ref wm, .int sf, .int dg, .int a2, .int v2, .int fl2, .int sl2])), (p, .inr (5, [.ref ph, .ref pd, .ref pm, .int (nI n), .int lg, .int sf, .int dg])), aI E ph 9 hi, aI E pd 9 de, aI E wm 9 wm2, (o, .inr (4, [.ref om, .int (nI a), .int vg, .int fp])), aI E om 9 ma]) 0 0 none) : ∀ (f i : Nat) (a0 v fl sl : Int32), i + f = M.length → G k E 0 0 25 [some (.ref h), some (.ref o), some (.int (nI x)), some (.int (nI i)), none, none] [] [(h, .inr (0, [.ref w, .ref mt, .int (nI M.length), .long 0, .long (lN (10 ^ i))])), aI E mt 9 mf, (w, .inr (7, [.ref p, .ref wm, .int sf, .int dg, .int a0, .int v, .int fl, .int sl])), (p, .inr (5, [.ref ph, .ref pd, .ref pm, .int (nI n), .int lg, .int sf, .int dg])), aI E ph 9 hi, aI E pd 9 de, aI E wm 9 ma0, (o, .inr (4, [.ref om, .int (nI a), .int vg, .int fp])), aI E om 9 ma] := by
  intro f
  induction f with
  | zero =>
    intro i a0 v fl sl hi_
    have e : i = M.length := by omega
    subst e
    refine g_iload_n C dX0_weigh_25 rfl ?_
    refine g_aload_n C dX0_weigh_26 rfl ?_
    refine g_get C kwX0 0 rfl rfl 2 (by decide) kfX0_35 rfl dX0_weigh_27 ?_
    refine g_icmp_ge (tgt := 51) C dX0_weigh_30 (by decide) (fun c30 => ?_) (fun c30 => ?_)
    · skip
      refine g_iconst (v := 0) C dX0_weigh_51 (by decide) ?_
      refine g_istore_n (lv' := [some (.ref h), some (.ref o), some (.int (nI x)), some (.int 0), none, none]) C dX0_weigh_52 (hnl 3 (by decide)) rfl rfl ?_
      exact lp2_X0_weigh C hnl hn ha hx10 hM9 hMn hmf hR (2 ^ M.length) 0 ma0 a0 v fl sl (by omega) (fun _ _ _ => rfl)
    · skip
      exact absurd (Int32.le_refl _) c30
  | succ f ih =>
    intro i a0 v fl sl hi_
    refine g_iload_n C dX0_weigh_25 rfl ?_
    refine g_aload_n C dX0_weigh_26 rfl ?_
    refine g_get C kwX0 0 rfl rfl 2 (by decide) kfX0_35 rfl dX0_weigh_27 ?_
    refine g_icmp_ge (tgt := 51) C dX0_weigh_30 (by decide) (fun c30 => ?_) (fun c30 => ?_)
    · skip
      exact absurd ((nI_leI (by omega) (by omega)).mp c30) (by omega)
    · skip
      refine g_aload_n C dX0_weigh_33 rfl ?_
      refine g_dup C dX0_weigh_34 rfl ?_
      refine g_get C kwX0 0 rfl rfl 4 (by decide) kfX0_32 rfl dX0_weigh_35 ?_
      refine g_ldc2 C dX0_weigh_38 kkX0_39 ?_
      refine g_lmul C dX0_weigh_41 ?_
      refine g_topl (v := lN (10 ^ (i + 1))) (by rw [show (10 : Int64) = lN 10 from rfl, lN_mul, Nat.pow_succ]) ?_
      refine g_put (ws' := [(h, .inr (0, [.ref w, .ref mt, .int (nI M.length), .long 0, .long (lN (10 ^ (i + 1)))])), aI E mt 9 mf, (w, .inr (7, [.ref p, .ref wm, .int sf, .int dg, .int a0, .int v, .int fl, .int sl])), (p, .inr (5, [.ref ph, .ref pd, .ref pm, .int (nI n), .int lg, .int sf, .int dg])), aI E ph 9 hi, aI E pd 9 de, aI E wm 9 ma0, (o, .inr (4, [.ref om, .int (nI a), .int vg, .int fp])), aI E om 9 ma]) C kwX0 tyX0 tyX0_ok nmX0 0 rfl rfl 4 (by decide) kfX0_32 rfl rfl rfl (Nat.le_of_ble_eq_true rfl) rfl dX0_weigh_42 ?_
      refine g_iinc (v := nI (i + 1)) (lv' := [some (.ref h), some (.ref o), some (.int (nI x)), some (.int (nI (i + 1))), none, none]) C dX0_weigh_45 rfl (nI_add _ 1) (hnl 3 (by decide)) rfl rfl ?_
      refine g_goto (tgt := 25) C dX0_weigh_48 (by decide) ?_
      exact ih (i + 1) _ _ _ _ (by omega)

set_option maxHeartbeats 4000000 in
set_option maxRecDepth 100000 in
theorem c_X0_weigh (l : Launch) (E : EX) (h : Nat) (w : Nat) (mt : Nat) (mm : Int32) (up : Int64) (lo : Int64) (mf : Nat → Int32) (p : Nat) (wm : Nat) (st : Int32) (dr : Int32) (a0 : Int32) (v : Int32) (fl : Int32) (sl : Int32) (ph : Nat) (pd : Nat) (pm : Nat) (n : Nat) (lg : Int32) (sf : Int32) (dg : Int32) (hi : Nat → Int32) (de : Nat → Int32) (wma : Nat → Int32) (o : Nat) (om : Nat) (a : Nat) (vg : Int32) (fp : Int32) (ma : Nat → Int32) (x : Nat) (hn : n ≤ 9) (ha : a ≤ n) (hx10 : x ≤ 10) : Ct l E yX0_weigh cX0_weigh 6 none (rmL 6 0 0) [.ref h, .ref o, .int (nI x)] [(h, .inr (0, [.ref w, .ref mt, .int mm, .long up, .long lo])), aI E mt 9 mf, (w, .inr (7, [.ref p, .ref wm, .int st, .int dr, .int a0, .int v, .int fl, .int sl])), (p, .inr (5, [.ref ph, .ref pd, .ref pm, .int (nI n), .int lg, .int sf, .int dg])), aI E ph 9 hi, aI E pd 9 de, aI E wm 9 wma, (o, .inr (4, [.ref om, .int (nI a), .int vg, .int fp])), aI E om 9 ma] (fun (rv_ : Option Value) (rw_ : va_W) => ∃ (mf2 : Nat → Int32) (wm2 : Nat → Int32) (a2 : Int32) (v2 : Int32) (fl2 : Int32) (sl2 : Int32), rv_ = none ∧ rw_ = [(h, .inr (0, [.ref w, .ref mt, .int (nI (matL ma (n - (a + 1)) (a + 1)).length), .long (lN ((sumN (tmF n hi de (matL ma (n - (a + 1)) (a + 1)) ma (va_cpy ma wma 0 0 9) lg sf dg a vg x) (2 ^ (matL ma (n - (a + 1)) (a + 1)).length)) / Nat.gcd (sumN (tmF n hi de (matL ma (n - (a + 1)) (a + 1)) ma (va_cpy ma wma 0 0 9) lg sf dg a vg x) (2 ^ (matL ma (n - (a + 1)) (a + 1)).length)) (10 ^ (matL ma (n - (a + 1)) (a + 1)).length))), .long (lN ((10 ^ (matL ma (n - (a + 1)) (a + 1)).length) / Nat.gcd (sumN (tmF n hi de (matL ma (n - (a + 1)) (a + 1)) ma (va_cpy ma wma 0 0 9) lg sf dg a vg x) (2 ^ (matL ma (n - (a + 1)) (a + 1)).length)) (10 ^ (matL ma (n - (a + 1)) (a + 1)).length)))])), aI E mt 9 mf2, (w, .inr (7, [.ref p, .ref wm, .int sf, .int dg, .int a2, .int v2, .int fl2, .int sl2])), (p, .inr (5, [.ref ph, .ref pd, .ref pm, .int (nI n), .int lg, .int sf, .int dg])), aI E ph 9 hi, aI E pd 9 de, aI E wm 9 wm2, (o, .inr (4, [.ref om, .int (nI a), .int vg, .int fp])), aI E om 9 ma]) 0 0 := by
  refine Ct_of (by decide) (Nat.le_of_ble_eq_true rfl) ?_
  intro k hkl hnl C hR hin_
  subst hkl
  show G k E 0 0 0 [some (.ref h), some (.ref o), some (.int (nI x)), none, none, none] [] [(h, .inr (0, [.ref w, .ref mt, .int mm, .long up, .long lo])), aI E mt 9 mf, (w, .inr (7, [.ref p, .ref wm, .int st, .int dr, .int a0, .int v, .int fl, .int sl])), (p, .inr (5, [.ref ph, .ref pd, .ref pm, .int (nI n), .int lg, .int sf, .int dg])), aI E ph 9 hi, aI E pd 9 de, aI E wm 9 wma, (o, .inr (4, [.ref om, .int (nI a), .int vg, .int fp])), aI E om 9 ma]
  refine g_aload_n C dX0_weigh_0 rfl ?_
  refine g_get C kwX0 0 rfl rfl 0 (by decide) kfX0_15 rfl dX0_weigh_1 ?_
  refine g_aload_n C dX0_weigh_4 rfl ?_
  refine g_callV C (c_X7_prepare k.l E w p wm st dr a0 v fl sl ph pd pm (nI n) lg sf dg o om (nI a) vg fp ma wma) kmX0_19 kiX7_prepare ksX7_prepare knX7 kcX7_prepare ⟨rfl, rfl⟩ ⟨rfl, kdX7_prepare⟩ ⟨by decide, by decide⟩ ⟨by decide, by decide⟩ [2, 6, 3, 7, 8] [0, 1, 4, 5] rfl (wr := [(h, .inr (0, [.ref w, .ref mt, .int mm, .long up, .long lo])), aI E mt 9 mf, aI E ph 9 hi, aI E pd 9 de]) rfl (by decide +kernel) (by decide +kernel) (by decide +kernel) 2 7 rfl rfl rfl (As := [.ref o]) (rest := []) rfl (Nat.le_of_ble_eq_true rfl) dX0_weigh_5 (fun rv_ rw_ hp_ => ?_)
  obtain ⟨rfl, rfl⟩ := hp_
  refine g_rep [0, 1, 4, 6, 2, 3, 5, 7, 8] (ws' := [(h, .inr (0, [.ref w, .ref mt, .int mm, .long up, .long lo])), aI E mt 9 mf, (w, .inr (7, [.ref p, .ref wm, .int sf, .int dg, .int a0, .int v, .int fl, .int sl])), (p, .inr (5, [.ref ph, .ref pd, .ref pm, .int (nI n), .int lg, .int sf, .int dg])), aI E ph 9 hi, aI E pd 9 de, aI E wm 9 (va_cpy ma wma 0 0 9), (o, .inr (4, [.ref om, .int (nI a), .int vg, .int fp])), aI E om 9 ma]) (st' := []) (n' := 0) (z' := 0) (pc' := 8) rfl rfl rfl rfl (by decide +kernel) rfl ?_
  refine g_aload_n C dX0_weigh_8 rfl ?_
  refine g_aload_n C dX0_weigh_9 rfl ?_
  refine g_callV C (c_X0_listMats k.l E h w mt mm up lo mf p wm sf dg a0 v fl sl ph pd pm n lg sf dg o om a vg fp ma (by first | assumption | omega) (by first | assumption | omega)) kmX0_25 kiX0_listMats ksX0_listMats knX0 kcX0_listMats ⟨rfl, rfl⟩ ⟨rfl, kdX0_listMats⟩ ⟨by decide, by decide⟩ ⟨by decide, by decide⟩ [0, 1, 2, 3, 7, 8] [4, 5, 6] rfl (wr := [aI E ph 9 hi, aI E pd 9 de, aI E wm 9 (va_cpy ma wma 0 0 9)]) rfl (by decide +kernel) (by decide +kernel) (by decide +kernel) 0 0 rfl rfl rfl (As := [.ref o]) (rest := []) rfl (Nat.le_of_ble_eq_true rfl) dX0_weigh_10 (fun rv_ rw_ hp_ => ?_)
  obtain ⟨mfx, rfl, rfl, hmfx⟩ := hp_
  refine g_rep [3, 4, 5, 6, 0, 1, 2, 7, 8] (ws' := [(h, .inr (0, [.ref w, .ref mt, .int (nI (matL ma (n - (a + 1)) (a + 1)).length), .long up, .long lo])), aI E mt 9 mfx, (w, .inr (7, [.ref p, .ref wm, .int sf, .int dg, .int a0, .int v, .int fl, .int sl])), (p, .inr (5, [.ref ph, .ref pd, .ref pm, .int (nI n), .int lg, .int sf, .int dg])), aI E ph 9 hi, aI E pd 9 de, aI E wm 9 (va_cpy ma wma 0 0 9), (o, .inr (4, [.ref om, .int (nI a), .int vg, .int fp])), aI E om 9 ma]) (st' := []) (n' := 0) (z' := 0) (pc' := 13) rfl rfl rfl rfl (by decide +kernel) rfl ?_
  refine g_aload_n C dX0_weigh_13 rfl ?_
  refine g_lconst (v := 0) C dX0_weigh_14 rfl ?_
  refine g_put (ws' := [(h, .inr (0, [.ref w, .ref mt, .int (nI (matL ma (n - (a + 1)) (a + 1)).length), .long 0, .long lo])), aI E mt 9 mfx, (w, .inr (7, [.ref p, .ref wm, .int sf, .int dg, .int a0, .int v, .int fl, .int sl])), (p, .inr (5, [.ref ph, .ref pd, .ref pm, .int (nI n), .int lg, .int sf, .int dg])), aI E ph 9 hi, aI E pd 9 de, aI E wm 9 (va_cpy ma wma 0 0 9), (o, .inr (4, [.ref om, .int (nI a), .int vg, .int fp])), aI E om 9 ma]) C kwX0 tyX0 tyX0_ok nmX0 0 rfl rfl 3 (by decide) kfX0_28 rfl rfl rfl (Nat.le_of_ble_eq_true rfl) rfl dX0_weigh_15 ?_
  refine g_aload_n C dX0_weigh_18 rfl ?_
  refine g_lconst (v := 1) C dX0_weigh_19 rfl ?_
  refine g_put (ws' := [(h, .inr (0, [.ref w, .ref mt, .int (nI (matL ma (n - (a + 1)) (a + 1)).length), .long 0, .long 1])), aI E mt 9 mfx, (w, .inr (7, [.ref p, .ref wm, .int sf, .int dg, .int a0, .int v, .int fl, .int sl])), (p, .inr (5, [.ref ph, .ref pd, .ref pm, .int (nI n), .int lg, .int sf, .int dg])), aI E ph 9 hi, aI E pd 9 de, aI E wm 9 (va_cpy ma wma 0 0 9), (o, .inr (4, [.ref om, .int (nI a), .int vg, .int fp])), aI E om 9 ma]) C kwX0 tyX0 tyX0_ok nmX0 0 rfl rfl 4 (by decide) kfX0_32 rfl rfl rfl (Nat.le_of_ble_eq_true rfl) rfl dX0_weigh_20 ?_
  refine g_iconst (v := 0) C dX0_weigh_23 (by decide) ?_
  refine g_istore_n (lv' := [some (.ref h), some (.ref o), some (.int (nI x)), some (.int 0), none, none]) C dX0_weigh_24 (hnl 3 (by decide)) rfl rfl ?_
  exact lp1_X0_weigh (M := matL ma (n - (a + 1)) (a + 1)) C hnl hn ha hx10 (by have := matL_len (n - (a + 1)) (a + 1) (ma := ma); omega) (fun s hs => by have := matL_mem _ _ _ hs; omega) hmfx hR (matL ma (n - (a + 1)) (a + 1)).length 0 a0 v fl sl (by omega)

set_option maxHeartbeats 4000000 in
set_option maxRecDepth 100000 in
theorem c_X6_take (l : Launch) (E : EX) (r : Nat) (tx : Nat) (p : Nat) (le : Nat) (at_ : Int32) (it : Int32) (fa : Int32) (b1 : Int32) (b2 : Int32) (b3 : Int32) (tf : Nat → Int32) (x : Int32) (hle : le < 100) (hxc : vp_nar .char x = x) : Ct l E yX6_take cX6_take 2 (some .boolean) (rmL 1 0 0) [.ref r, .int x] [(r, .inr (6, [.ref tx, .ref p, .int (nI le), .int at_, .int it, .int fa, .int b1, .int b2, .int b3])), aC E tx 100 tf] (fun (rv_ : Option Value) (rw_ : va_W) => rv_ = some (.int 1) ∧ rw_ = [(r, .inr (6, [.ref tx, .ref p, .int (nI (le + 1)), .int at_, .int it, .int fa, .int b1, .int b2, .int b3])), aC E tx 100 (upd tf le x)]) 0 0 := by
  refine Ct_of (by decide) (Nat.le_of_ble_eq_true rfl) ?_
  intro k hkl hnl C hR hin_
  subst hkl
  show G k E 0 0 0 [some (.ref r), some (.int x)] [] [(r, .inr (6, [.ref tx, .ref p, .int (nI le), .int at_, .int it, .int fa, .int b1, .int b2, .int b3])), aC E tx 100 tf]
  refine g_aload_n C dX6_take_0 rfl ?_
  refine g_get C kwX6 0 rfl rfl 2 (by decide) kfX6_22 rfl dX6_take_1 ?_
  refine g_bipush (v := 100) C dX6_take_4 (by decide) ?_
  refine g_icmp_lt (tgt := 11) C dX6_take_6 (by decide) (fun c6 => ?_) (fun c6 => ?_)
  · skip
    refine g_aload_n C dX6_take_11 rfl ?_
    refine g_get C kwX6 0 rfl rfl 0 (by decide) kfX6_9 rfl dX6_take_12 ?_
    refine g_aload_n C dX6_take_15 rfl ?_
    refine g_get C kwX6 0 rfl rfl 2 (by decide) kfX6_22 rfl dX6_take_16 ?_
    refine g_iload_n C dX6_take_19 rfl ?_
    refine g_cast (ws' := [(r, .inr (6, [.ref tx, .ref p, .int (nI le), .int at_, .int it, .int fa, .int b1, .int b2, .int b3])), aC E tx 100 (upd tf le x)]) C 1 le rfl (rfl) (by omega) (by decide) (hxc) rfl dX6_take_20 ?_
    refine g_aload_n C dX6_take_21 rfl ?_
    refine g_dup C dX6_take_22 rfl ?_
    refine g_get C kwX6 0 rfl rfl 2 (by decide) kfX6_22 rfl dX6_take_23 ?_
    refine g_iconst (v := 1) C dX6_take_26 (by decide) ?_
    refine g_iadd C dX6_take_27 ?_
    refine g_topi (v := nI (le + 1)) (nI_1 le) ?_
    refine g_put (ws' := [(r, .inr (6, [.ref tx, .ref p, .int (nI (le + 1)), .int at_, .int it, .int fa, .int b1, .int b2, .int b3])), aC E tx 100 (upd tf le x)]) C kwX6 tyX6 tyX6_ok nmX6 0 rfl rfl 2 (by decide) kfX6_22 rfl rfl rfl (Nat.le_of_ble_eq_true rfl) rfl dX6_take_28 ?_
    refine g_iconst (v := 1) C dX6_take_31 (by decide) ?_
    exact g_zret C hR (by first | exact Or.inl rfl | exact Or.inr rfl | exact bI01 _) (⟨rfl, rfl⟩) dX6_take_32
  · skip
    exact absurd ((nI_ltI (b := 100) (by omega) (by decide)).mpr hle) c6

set_option maxHeartbeats 4000000 in
set_option maxRecDepth 100000 in
theorem c_X6_take100 (l : Launch) (E : EX) (r : Nat) (tx : Nat) (p : Nat) (at_ : Int32) (it : Int32) (fa : Int32) (b1 : Int32) (b2 : Int32) (b3 : Int32) (x : Int32) : Ct l E yX6_take cX6_take 2 (some .boolean) (rmL 1 0 0) [.ref r, .int x] [(r, .inr (6, [.ref tx, .ref p, .int (nI 100), .int at_, .int it, .int fa, .int b1, .int b2, .int b3]))] (fun (rv_ : Option Value) (rw_ : va_W) => rv_ = some (.int 0) ∧ rw_ = [(r, .inr (6, [.ref tx, .ref p, .int (nI 100), .int at_, .int it, .int fa, .int b1, .int b2, .int b3]))]) 0 0 := by
  refine Ct_of (by decide) (Nat.le_of_ble_eq_true rfl) ?_
  intro k hkl hnl C hR hin_
  subst hkl
  show G k E 0 0 0 [some (.ref r), some (.int x)] [] [(r, .inr (6, [.ref tx, .ref p, .int (nI 100), .int at_, .int it, .int fa, .int b1, .int b2, .int b3]))]
  refine g_aload_n C dX6_take_0 rfl ?_
  refine g_get C kwX6 0 rfl rfl 2 (by decide) kfX6_22 rfl dX6_take_1 ?_
  refine g_bipush (v := 100) C dX6_take_4 (by decide) ?_
  refine g_icmp_lt (tgt := 11) C dX6_take_6 (by decide) (fun c6 => ?_) (fun c6 => ?_)
  · skip
    exact absurd c6 (by decide)
  · skip
    refine g_iconst (v := 0) C dX6_take_9 (by decide) ?_
    exact g_zret C hR (by first | exact Or.inl rfl | exact Or.inr rfl | exact bI01 _) (⟨rfl, rfl⟩) dX6_take_10
