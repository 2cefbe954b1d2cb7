theorem PT.fst {n : Nat} {p v f : Int32} {mat rf : Nat → Int32} {B : Nat} (h : PT n p v f mat rf B) : p = rf B := by
  obtain ⟨a, u, fl, -, h1, h2, -⟩ := h
  exact h1.1.trans h2.1.symm
theorem kp_mat {n kn : Nat} {rf ma : Nat → Int32} (hn : n ≤ 9) (hmr : ∀ s, s < n → rf (3 + s) = ma s) : ∀ s, s < n → kpF rf kn (3 + s) = ma s := fun s hs => (kpF_low (by omega)).trans (hmr s hs)
theorem PT_flip {n a u fl kn : Nat} {hi de ma nh nd rf rg : Nat → Int32} {lg sf dg : Int32} (hn : n ≤ 9) (ha : a < n) (hfl : fl < 999) (hmm : ∀ s, s < n → (0 ≤ ma s ∧ ma s ≤ 5) ∧ rf (0 + 3 + s) = ma s) (q2 : rf 2 = nI fl)
    (et : turnF n hi de ma lg sf dg a (nI u) 0 = turnF n nh nd (fun s => rf (3 + s)) lg sf dg a (nI u) 0) (w0 : rg 0 = nI (turnF n nh nd (fun s => rf (3 + s)) lg sf dg a (nI u) 0).1) (w1 : rg 1 = (turnF n nh nd (fun s => rf (3 + s)) lg sf dg a (nI u) 0).2.1) (w3 : rg 2 = bump (rf 2)) (w2 : ∀ i, 3 ≤ i → rg i = kpF rf kn i) :
    PT n (nI (turnF n hi de ma lg sf dg a (nI u) 0).1) (turnF n hi de ma lg sf dg a (nI u) 0).2.1 (nI (fl + 1)) ma rg 0 := by
  rw [← et] at w0 w1
  obtain ⟨u2, hu2, eu⟩ := turnF_ok (n := n) (hi := hi) (de := de) (ma := ma) (lg := lg) (st := sf) (dr := dg) (a := a) (v := nI u) (sl := 0)
  refine ⟨(turnF n hi de ma lg sf dg a (nI u) 0).1, u2, fl + 1, ⟨(turnF_le ha).2, hu2, by omega, fun z => ?_⟩, ⟨rfl, eu, rfl⟩, ⟨w0, w1.trans eu, ?_⟩, fun s hs => ⟨(hmm s hs).1, ?_⟩⟩
  · have h := turnF_fl ha z
    rw [eu] at h
    exact (nI_eq (b := 0) (by omega) (by decide)).mp h
  · exact w3.trans (by rw [q2]; exact bump_nI hfl)
  · rw [show 0 + 3 + s = 3 + s by omega, w2 _ (by omega)]
    exact kp_mat hn (fun s hs => (hmm s hs).2) s hs

theorem lays_mat {n j kn : Nat} {ma rf : Nat → Int32} {y : Int32} (hn : n ≤ 9) (hj : j < n) (hy : 0 ≤ y ∧ y ≤ 5) (hmm : ∀ s, s < n → (0 ≤ ma s ∧ ma s ≤ 5) ∧ rf (0 + 3 + s) = ma s) : ∀ s, s < n → (0 ≤ upd ma j y s ∧ upd ma j y s ≤ 5) ∧ upd (kpF rf kn) (3 + j) y (0 + 3 + s) = upd ma j y s := by
  intro s hs
  by_cases e : s = j
  · subst e
    rw [pk_us, show 0 + 3 + s = 3 + s by omega, pk_us]
    exact ⟨hy, rfl⟩
  · rw [pk_un e, pk_un (by omega), kpF_low (by omega)]
    exact hmm s hs
