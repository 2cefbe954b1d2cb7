abbrev EX : Type := va_G × ClassId × ClassId × ClassId × ClassId
abbrev ET (E : EX) : List (ClassId × FieldType) := [(E.2.1, .int), (E.2.2.1, .boolean), (E.2.2.2.1, .char), (E.2.2.2.2, .object "CoilStairs$Moment")]
abbrev aI (E : EX) (a n : Nat) (f : Nat → Int32) : Nat × va_E := (a, .inl (E.2.1, n, .inl f))
abbrev aZ (E : EX) (a n : Nat) (f : Nat → Int32) : Nat × va_E := (a, .inl (E.2.2.1, n, .inl f))
abbrev aC (E : EX) (a n : Nat) (f : Nat → Int32) : Nat × va_E := (a, .inl (E.2.2.2.1, n, .inl f))
abbrev aM (E : EX) (a n : Nat) (f : Nat → Option Nat) : Nat × va_E := (a, .inl (E.2.2.2.2, n, .inr (.inr (.inr (.inr f)))))
def nestL : List (String × Nat × MethodName × String) := [
  ("CoilStairs", 18, ⟨"CoilStairs$Reader", "<init>", "()V"⟩, "CoilStairs"), ("CoilStairs", 25, ⟨"CoilStairs$Moment", "<init>", "()V"⟩, "CoilStairs"),
  ("CoilStairs$History", 17, ⟨"CoilStairs$Moment", "<init>", "()V"⟩, "CoilStairs"), ("CoilStairs$LeastPushes", 57, ⟨"CoilStairs", "asVigour", "(I)I"⟩, "CoilStairs"),
  ("CoilStairs$LeastPushes", 73, ⟨"CoilStairs", "tenTimes", "(II)I"⟩, "CoilStairs"), ("CoilStairs$Plan", 43, ⟨"CoilStairs", "within", "(III)Z"⟩, "CoilStairs"),
  ("CoilStairs$Reader", 85, ⟨"CoilStairs", "within", "(III)Z"⟩, "CoilStairs"), ("CoilStairs$Walk", 58, ⟨"CoilStairs", "asVigour", "(I)I"⟩, "CoilStairs")]
def NW (U : State) : Prop := (∀ q ∈ nestL, va_Nw (.methodLinkNest q.1 q.2.1 q.2.2.1 q.2.2.2) U) ∧ va_AO "CoilStairs$Moment" U
theorem NW.warm {s U : State} (hW : s.WarmedH U.vm) (h : NW s) : NW U := ⟨fun q hq => va_Nw.warmM hW (h.1 q hq), va_AO.moved hW.alike h.2⟩
theorem NW.same {s U : State} (hv : s.vm = U.vm) (h : NW s) : NW U := ⟨fun q hq => va_Nw.same rfl hv (h.1 q hq), va_AO.moved (by rw [hv]; exact Vm.Alike.refl _) h.2⟩
def LV (ls : Array Slot) (nL : Nat) (lv : List (Option Value)) : Prop := ls.size = nL ∧ lv_wf ls ∧ ∀ (i : Nat) (v : Value), lv[i]? = some (some v) → ls[i]? = some (.val v)
def lvA (lv : List (Option Value)) : List (Nat × Value) := (List.range lv.length).filterMap (fun j => match lv[j]? with | some (some v) => some (j, v) | _ => none)
theorem lvA_mem {lv : List (Option Value)} {q : Nat × Value} : q ∈ lvA lv ↔ lv[q.1]? = some (some q.2) := by
  unfold lvA
  rw [List.mem_filterMap]
  constructor
  · rintro ⟨j, hj, h⟩
    split at h
    · rename_i v hv
      cases h
      exact hv
    · cases h
  · intro h
    refine ⟨q.1, ?_, ?_⟩
    · have := (List.getElem?_eq_some_iff.mp h).1
      exact List.mem_range.mpr this
    · rw [h]
theorem LV.has {ls : Array Slot} {nL : Nat} {lv : List (Option Value)} (h : LV ls nL lv) : lv_has ls nL (lvA lv) := ⟨h.1, h.2.1, fun q hq => h.2.2 q.1 q.2 (lvA_mem.mp hq)⟩
def okst (lv : List (Option Value)) (i : Nat) : Bool := match i with
  | 0 => true
  | j + 1 => match lv[j]? with
    | some (some v) => !(v.category == 2)
    | _ => true
theorem okst_ok {lv : List (Option Value)} {i j : Nat} {v : Value} (h : okst lv i = true) (hj : j + 1 = i) (hv : lv[j]? = some (some v)) : (v.category == 2) = false := by
  subst hj
  simp only [okst, hv] at h
  simpa using h
theorem LV.store1 {ls : Array Slot} {nL i : Nat} {lv : List (Option Value)} {v : Value} (ho : okst lv i = true) (h : lv_has ls nL ((i, v) :: (lvA lv).filter (fun q => !(q.1 == i) && !(q.1 + 1 == i && q.2.category == 2)))) : LV ls nL (lv.set i (some v)) := by
  refine ⟨h.1, h.2.1, fun j w hj => ?_⟩
  by_cases hji : j = i
  · subst hji
    have hl : j < lv.length := by
      have := (List.getElem?_eq_some_iff.mp hj).1
      simpa using this
    rw [List.getElem?_set_self hl] at hj
    cases hj
    exact h.2.2 (j, v) List.mem_cons_self
  · rw [List.getElem?_set_ne (Ne.symm hji)] at hj
    refine h.2.2 (j, w) (List.mem_cons_of_mem _ (List.mem_filter.mpr ⟨lvA_mem.mpr hj, ?_⟩))
    by_cases hj1 : j + 1 = i
    · have := okst_ok ho hj1 hj
      simp [hji, this]
    · simp [hji, hj1]
theorem LV.store2 {ls : Array Slot} {nL i : Nat} {lv : List (Option Value)} {v : Value} (ho : okst lv i = true) (h : lv_has ls nL ((i, v) :: (lvA lv).filter (fun q => !(q.1 == i) && (!(q.1 == i + 1) && !(q.1 + 1 == i && q.2.category == 2))))) : LV ls nL ((lv.set i (some v)).set (i + 1) none) := by
  refine ⟨h.1, h.2.1, fun j w hj => ?_⟩
  have hj1 : ¬ j = i + 1 := by
    intro q
    subst q
    by_cases hl : i + 1 < (lv.set i (some v)).length
    · rw [List.getElem?_set_self hl] at hj
      cases hj
    · rw [List.getElem?_eq_none (by simp at hl ⊢; omega)] at hj
      cases hj
  rw [List.getElem?_set_ne (Ne.symm hj1)] at hj
  by_cases hji : j = i
  · subst hji
    have hl : j < lv.length := by
      have := (List.getElem?_eq_some_iff.mp hj).1
      simpa using this
    rw [List.getElem?_set_self hl] at hj
    cases hj
    exact h.2.2 (j, v) List.mem_cons_self
  · rw [List.getElem?_set_ne (Ne.symm hji)] at hj
    refine h.2.2 (j, w) (List.mem_cons_of_mem _ (List.mem_filter.mpr ⟨lvA_mem.mpr hj, ?_⟩))
    by_cases hj2 : j + 1 = i
    · have := okst_ok ho hj2 hj
      simp [hji, hj1, this]
    · simp [hji, hj1, hj2]
abbrev KX : Type := (Program × Launch × Env × Room × State) × (MethodId × Array Value × List Frame × Method × Code) × ((Nat → Prop) × Nat × (State → Prop))
abbrev KX.p (k : KX) : Program := k.1.1
abbrev KX.l (k : KX) : Launch := k.1.2.1
abbrev KX.e (k : KX) : Env := k.1.2.2.1
abbrev KX.R (k : KX) : Room := k.1.2.2.2.1
abbrev KX.s (k : KX) : State := k.1.2.2.2.2
abbrev KX.m (k : KX) : MethodId := k.2.1.1
abbrev KX.args (k : KX) : Array Value := k.2.1.2.1
abbrev KX.below (k : KX) : List Frame := k.2.1.2.2.1
abbrev KX.meth (k : KX) : Method := k.2.1.2.2.2.1
abbrev KX.c (k : KX) : Code := k.2.1.2.2.2.2
abbrev KX.A (k : KX) : Nat → Prop := k.2.2.1
abbrev KX.nL (k : KX) : Nat := k.2.2.2.1
abbrev KX.Q (k : KX) : State → Prop := k.2.2.2.2
def G (k : KX) (E : EX) (n z pc : Nat) (lv : List (Option Value)) (st : List Value) (ws : va_W) : Prop :=
  ∀ (H : Heap) (locs : List Loc) (ls : Array Slot), va_P E.1 vwCl ws H → va_D k.A ws → va_S k.A k.s.heap H locs → LV ls k.nL lv → W k.p k.l k.e k.R k.s k.m k.args k.below k.meth k.c H locs n z k.Q (F0 k.m pc ls st)
def Cx (k : KX) (E : EX) (cc : ByteArray) (own : String) (rm : Room) : Prop :=
  k.p.tables.exec = Jvm.exec ∧ k.c.code = cc ∧ k.c.maxLocals = k.nL ∧ k.s.vm.findClass own = some k.m.cls ∧ (∀ w ∈ allW, w.before k.args k.s = true) ∧ va_K E.1 vwCl (ET E) k.s ∧ (∀ q, k.s.heap.size ≤ q → k.A q) ∧ k.R = rm ∧ NW k.s ∧ k.meth.locks = false
def QcC (E : EX) (post : Option Value → va_W → Prop) (A : Nat → Prop) : Array Value → State → Outcome → State → Prop := fun _ st oc t =>
  (∃ (v : Option Value) (w : va_W), oc = .returned v ∧ post v w ∧ va_P E.1 vwCl w t.heap ∧ va_K E.1 vwCl (ET E) t ∧ va_D A w) ∧ va_F A st t
def PreC (E : EX) (av : List Value) (ws : va_W) (sz : Nat) : Array Value → State → Prop := va_Pc av (fun U => U.heap.size = sz ∧ va_P E.1 vwCl ws U.heap ∧ va_K E.1 vwCl (ET E) U ∧ va_D (fun _ => True) ws ∧ NW U)
def Ct (l : Launch) (E : EX) (y : MethodName) (cc : ByteArray) (nL : Nat) (ret : Option FieldType) (rm : Room) (av : List Value) (ws : va_W) (post : Option Value → va_W → Prop) (mc ms : Nat) : Prop :=
  ∀ sz : Nat, Met l y (Cond.code y cc nL ret :: allW) rm (PreC E av ws sz) (QcC E post (va_A ws sz)) mc ms (va_A ws sz)
def Rt (k : KX) (E : EX) (post : Option Value → va_W → Prop) (mc ms : Nat) (ret : Option FieldType) : Prop :=
  k.Q = MQ k.below (QcC E post k.A) k.args k.s mc ms k.A ∧ k.meth.sig.returnType = ret
def lvE : Nat → List Value → List (Option Value)
  | n, [] => List.replicate n none
  | n, v :: vs => if v.category = 2 then some v :: none :: lvE (n - 2) vs else some v :: lvE (n - 1) vs
theorem lvE_args : ∀ (vs : List Value) (n off i : Nat) (v : Value), (lvE n vs)[i]? = some (some v) → (off + i, v) ∈ lv_args off vs
  | [], n, off, i, v, h => by
    unfold lvE at h
    rw [List.getElem?_replicate] at h
    split at h <;> cases h
  | w :: vs, n, off, i, v, h => by
    unfold lvE at h
    unfold lv_args
    by_cases hc : w.category = 2
    · simp only [hc, if_true] at h ⊢
      match i, h with
      | 0, h => cases h; exact List.mem_cons_self
      | 1, h => cases h
      | i + 2, h =>
        have := lvE_args vs (n - 2) (off + 2) i v (by simpa using h)
        refine List.mem_cons_of_mem _ ?_
        rw [show off + (i + 2) = off + 2 + i by omega]
        exact this
    · simp only [hc, if_false] at h ⊢
      match i, h with
      | 0, h => cases h; exact List.mem_cons_self
      | i + 1, h =>
        have := lvE_args vs (n - 1) (off + 1) i v (by simpa using h)
        refine List.mem_cons_of_mem _ ?_
        rw [show off + (i + 1) = off + 1 + i by omega]
        exact this
set_option maxHeartbeats 1000000 in
theorem Ct_of {l : Launch} {E : EX} {y : MethodName} {rm : Room} {av : List Value} {ws : va_W} {post : Option Value → va_W → Prop} {mc ms : Nat} {cc : ByteArray} {nL : Nat} {ret : Option FieldType}
    (hy : plainName y.cls = true) (hlen : (lg_sl av).length ≤ nL)
    (body : ∀ k : KX, k.l = l → (∀ j : Nat, j < nL → j < k.nL) → Cx k E cc y.cls rm → Rt k E post mc ms ret → k.meth.name = y.name → G k E 0 0 0 (lvE nL av) [] ws) : Ct l E y cc nL ret rm av ws post mc ms := by
  intro sz
  refine Met.ofW (cc := cc) (maxL := nL) (ret := ret) hy rfl ?_
  intro p e s m args below meth c s₁ B hml hv
  obtain ⟨rfl, hsz, hP, hK, hD0, hN⟩ := hv
  subst hsz
  have hD := hD0.self (sz := s.heap.size)
  have hl := lv_entry av (n := nL) hlen
  rw [lg_entry_eq]
  have hlv : LV ((lg_sl av ++ List.replicate (nL - (lg_sl av).length) Slot.unset).toArray) nL (lvE nL av) := ⟨hl.1, hl.2.1, fun i v h => hl.2.2 (i, v) (by have := lvE_args av nL 0 i v h; rwa [Nat.zero_add] at this)⟩
  exact body ((p, l, e, (headSpec (Cond.code y cc nL ret :: allW) rm).room, s), (m, av.toArray, below, meth, c), (va_A ws s.heap.size, nL, MQ below (QcC E post (va_A ws s.heap.size)) av.toArray s mc ms (va_A ws s.heap.size))) rfl (fun _ h => h)
    ⟨B.exec, B.bytes, hml, findClass_of_methodNamed B.named, fun w hw => atoms_spec (ws := Cond.code y cc nL ret :: allW) B.pre w (List.mem_cons_of_mem _ hw), hK, fun q h => Or.inr h, rfl, hN, B.notSynchronized⟩ ⟨rfl, B.returns⟩ (name_of_methodNamed B.named B.method).1 s.heap [] _ hP hD va_S.rf hlv
theorem allW_good {w : Cond} (h : w ∈ allW) : w ∈ allW ∧ ((w.onTables && w.keeps) = true ∨ ∃ ty, w = .arrayClass ty) := ⟨h, good_of_word (List.mem_filter.mp h).2⟩
theorem goodC {y : MethodName} {cc : ByteArray} {nL : Nat} {ret : Option FieldType} (h5 : Cond.code y cc nL ret ∈ allW) : GoodIn allW (Cond.code y cc nL ret :: allW) := fun w h => by
  rcases List.mem_cons.mp h with rfl | h
  · exact allW_good h5
  · exact allW_good h
theorem goodW {own C : String} {i : Nat} {y : MethodName} {cc : ByteArray} {nL : Nat} {ret : Option FieldType} (h1 : Cond.methodLink own i y ∈ allW) (h2 : Cond.instanceMethod y ∈ allW) (h3 : Cond.selects C y y ∈ allW) (h4 : Cond.initialized C ∈ allW) (h5 : Cond.code y cc nL ret ∈ allW) : GoodIn allW (wsV own i C y (Cond.code y cc nL ret :: allW)) := fun w h => by
  unfold wsV at h
  rcases List.mem_append.mp h with h | h
  · simp only [List.mem_cons, List.not_mem_nil, or_false] at h
    rcases h with rfl | rfl | rfl | rfl
    · exact allW_good h1
    · exact allW_good h2
    · exact allW_good h3
    · exact allW_good h4
  · exact goodC h5 w h
theorem goodS {own : String} {i : Nat} {y : MethodName} {cc : ByteArray} {nL : Nat} {ret : Option FieldType} (h1 : Cond.methodLink own i y ∈ allW) (h2 : Cond.static y ∈ allW) (h4 : Cond.initialized y.cls ∈ allW) (h5 : Cond.code y cc nL ret ∈ allW) : GoodIn allW (va_wsS own i y (Cond.code y cc nL ret :: allW)) := fun w h => by
  unfold va_wsS at h
  rcases List.mem_append.mp h with h | h
  · simp only [List.mem_cons, List.not_mem_nil, or_false] at h
    rcases h with rfl | rfl | rfl
    · exact allW_good h1
    · exact allW_good h2
    · exact allW_good h4
  · exact goodC h5 w h
section GL
variable {k : KX} {E : EX} {cc : ByteArray} {own : String} {rm : Room} {n z pc : Nat} {lv : List (Option Value)} {st : List Value} {ws : va_W}
theorem g_perm (is : List Nat) {ws' : va_W} (hn : va_nd is = true) (hs : is.map (fun i => ws[i]?) = ws'.map some) (h : G k E n z pc lv st ws') : G k E n z pc lv st ws := by
  intro H locs ls hP hD hS hl
  have hs2 : is.filterMap (fun i => ws[i]?) = ws' := by
    have e1 : is.filterMap (fun i => ws[i]?) = (is.map (fun i => ws[i]?)).filterMap id := by rw [List.filterMap_map]; rfl
    rw [e1, hs, List.filterMap_map]
    show ws'.filterMap some = ws'
    simp
  exact h H locs ls (hP.sub is hs2) (hD.sub is hn hs) hS hl
theorem g_lv {lv' : List (Option Value)} (hs : ∀ (i : Nat) (v : Value), lv'[i]? = some (some v) → lv[i]? = some (some v)) (h : G k E n z pc lv' st ws) : G k E n z pc lv st ws :=
  fun H locs ls hP hD hS hl => h H locs ls hP hD hS ⟨hl.1, hl.2.1, fun i v hi => hl.2.2 i v (hs i v hi)⟩
theorem g_kill (i : Nat) {lv' : List (Option Value)} (hv : lv.set i none = lv') (h : G k E n z pc lv' st ws) : G k E n z pc lv st ws := by
  subst hv
  refine g_lv (fun j v hj => ?_) h
  by_cases hji : j = i
  · subst hji
    by_cases hl : j < lv.length
    · rw [List.getElem?_set_self hl] at hj; cases hj
    · rw [List.getElem?_eq_none (by simpa using hl)] at hj; cases hj
  · rwa [List.getElem?_set_ne (Ne.symm hji)] at hj
theorem g_widen {n' z' : Nat} (h1 : n ≤ n') (h2 : z ≤ z') (h : G k E n' z' pc lv st ws) : G k E n z pc lv st ws :=
  fun H locs ls hP hD hS hl => W.widen h1 h2 (h H locs ls hP hD hS hl)
theorem g_topi {x v : Int32} (e : x = v) (h : G k E n z pc lv (.int v :: st) ws) : G k E n z pc lv (.int x :: st) ws := by subst e; exact h
theorem g_topl {x v : Int64} (e : x = v) (h : G k E n z pc lv (.long v :: st) ws) : G k E n z pc lv (.long x :: st) ws := by subst e; exact h
theorem g_ws {ws' : va_W} (e : ws = ws') (h : G k E n z pc lv st ws') : G k E n z pc lv st ws := by subst e; exact h
theorem g_eq {ws' : va_W} {lv' : List (Option Value)} {st' : List Value} (e1 : lv = lv') (e2 : st = st') (e3 : ws = ws') (h : G k E n z pc lv' st' ws') : G k E n z pc lv st ws := by subst e1; subst e2; subst e3; exact h
theorem g_iconst (C : Cx k E cc own rm) {i : Int} {v : Int32} (d : decode cc pc = .ok (.iconst i, 1)) (hv : Int32.ofInt i = v) (h : G k E n z (pc + 1) lv (.int v :: st) ws) : G k E n z pc lv (st) ws :=
  fun H locs ls hP hD hS hl => lv_iconst C.1 C.2.1 d hv (h H locs ls hP hD hS hl)
theorem g_bipush (C : Cx k E cc own rm) {i : Int} {v : Int32} (d : decode cc pc = .ok (.bipush i, 2)) (hv : (Int8.ofInt i).toInt32 = v) (h : G k E n z (pc + 2) lv (.int v :: st) ws) : G k E n z pc lv (st) ws :=
  fun H locs ls hP hD hS hl => lv_bipush C.1 C.2.1 d hv (h H locs ls hP hD hS hl)
theorem g_sipush (C : Cx k E cc own rm) {i : Int} {v : Int32} (d : decode cc pc = .ok (.sipush i, 3)) (hv : (Int16.ofInt i).toInt32 = v) (h : G k E n z (pc + 3) lv (.int v :: st) ws) : G k E n z pc lv (st) ws :=
  fun H locs ls hP hD hS hl => lv_sipush C.1 C.2.1 d hv (h H locs ls hP hD hS hl)
theorem g_lconst (C : Cx k E cc own rm) {i : Fin 2} {v : Int64} (d : decode cc pc = .ok (.lconst i, 1)) (hv : Int64.ofNat (i : Nat) = v) (h : G k E n z (pc + 1) lv (.long v :: st) ws) : G k E n z pc lv (st) ws :=
  fun H locs ls hP hD hS hl => lv_lconst C.1 C.2.1 d hv (h H locs ls hP hD hS hl)
theorem g_ldc (C : Cx k E cc own rm) {i : Nat} {v : Int32} (d : decode cc pc = .ok (.ldc i, 2)) (hw : Cond.constant own i v ∈ allW) (h : G k E n z (pc + 2) lv (.int v :: st) ws) : G k E n z pc lv (st) ws :=
  fun H locs ls hP hD hS hl => lv_ldc C.1 C.2.1 C.2.2.2.1 (C.2.2.2.2.1 _ hw) d (h H locs ls hP hD hS hl)
theorem g_ldc2 (C : Cx k E cc own rm) {i : Nat} {v : Int64} (d : decode cc pc = .ok (.ldc2_w i, 3)) (hw : Cond.constantLong own i v ∈ allW) (h : G k E n z (pc + 3) lv (.long v :: st) ws) : G k E n z pc lv (st) ws :=
  fun H locs ls hP hD hS hl => lv_ldc2 C.1 C.2.1 C.2.2.2.1 (C.2.2.2.2.1 _ hw) d (h H locs ls hP hD hS hl)
theorem g_iload_n (C : Cx k E cc own rm) {j : Fin 4} {x : Int32} (d : decode cc pc = .ok (.iload_n j, 1)) (hi : lv[(j : Nat)]? = some (some (.int x))) (h : G k E n z (pc + 1) lv (.int x :: st) ws) : G k E n z pc lv (st) ws :=
  fun H locs ls hP hD hS hl => lv_iload_n C.1 C.2.1 d rfl (hl.2.2 _ _ hi) (h H locs ls hP hD hS hl)
theorem g_iload (C : Cx k E cc own rm) {j : Nat} {x : Int32} (d : decode cc pc = .ok (.iload j, 2)) (hi : lv[j]? = some (some (.int x))) (h : G k E n z (pc + 2) lv (.int x :: st) ws) : G k E n z pc lv (st) ws :=
  fun H locs ls hP hD hS hl => lv_iload C.1 C.2.1 d (hl.2.2 _ _ hi) (h H locs ls hP hD hS hl)
theorem g_aload_n (C : Cx k E cc own rm) {j : Fin 4} {x : Nat} (d : decode cc pc = .ok (.aload_n j, 1)) (hi : lv[(j : Nat)]? = some (some (.ref x))) (h : G k E n z (pc + 1) lv (.ref x :: st) ws) : G k E n z pc lv (st) ws :=
  fun H locs ls hP hD hS hl => lv_aload_n C.1 C.2.1 d rfl (hl.2.2 _ _ hi) (h H locs ls hP hD hS hl)
theorem g_aload (C : Cx k E cc own rm) {j : Nat} {x : Nat} (d : decode cc pc = .ok (.aload j, 2)) (hi : lv[j]? = some (some (.ref x))) (h : G k E n z (pc + 2) lv (.ref x :: st) ws) : G k E n z pc lv (st) ws :=
  fun H locs ls hP hD hS hl => lv_aload C.1 C.2.1 d (hl.2.2 _ _ hi) (h H locs ls hP hD hS hl)
theorem g_lload_n (C : Cx k E cc own rm) {j : Fin 4} {x : Int64} (d : decode cc pc = .ok (.lload_n j, 1)) (hi : lv[(j : Nat)]? = some (some (.long x))) (h : G k E n z (pc + 1) lv (.long x :: st) ws) : G k E n z pc lv (st) ws :=
  fun H locs ls hP hD hS hl => lv_lload_n C.1 C.2.1 d rfl (hl.2.2 _ _ hi) (h H locs ls hP hD hS hl)
theorem g_lload (C : Cx k E cc own rm) {j : Nat} {x : Int64} (d : decode cc pc = .ok (.lload j, 2)) (hi : lv[j]? = some (some (.long x))) (h : G k E n z (pc + 2) lv (.long x :: st) ws) : G k E n z pc lv (st) ws :=
  fun H locs ls hP hD hS hl => lv_lload C.1 C.2.1 d (hl.2.2 _ _ hi) (h H locs ls hP hD hS hl)
theorem g_iadd (C : Cx k E cc own rm) {x y : Int32} (d : decode cc pc = .ok (.iadd, 1)) (h : G k E n z (pc + 1) lv (.int (x + y) :: st) ws) : G k E n z pc lv (.int y :: .int x :: st) ws :=
  fun H locs ls hP hD hS hl => lv_iadd C.1 C.2.1 d (h H locs ls hP hD hS hl)
theorem g_isub (C : Cx k E cc own rm) {x y : Int32} (d : decode cc pc = .ok (.isub, 1)) (h : G k E n z (pc + 1) lv (.int (x - y) :: st) ws) : G k E n z pc lv (.int y :: .int x :: st) ws :=
  fun H locs ls hP hD hS hl => lv_isub C.1 C.2.1 d (h H locs ls hP hD hS hl)
theorem g_imul (C : Cx k E cc own rm) {x y : Int32} (d : decode cc pc = .ok (.imul, 1)) (h : G k E n z (pc + 1) lv (.int (x * y) :: st) ws) : G k E n z pc lv (.int y :: .int x :: st) ws :=
  fun H locs ls hP hD hS hl => lv_imul C.1 C.2.1 d (h H locs ls hP hD hS hl)
theorem g_iand (C : Cx k E cc own rm) {x y : Int32} (d : decode cc pc = .ok (.iand, 1)) (h : G k E n z (pc + 1) lv (.int (x &&& y) :: st) ws) : G k E n z pc lv (.int y :: .int x :: st) ws :=
  fun H locs ls hP hD hS hl => lv_iand C.1 C.2.1 d (h H locs ls hP hD hS hl)
theorem g_ior (C : Cx k E cc own rm) {x y : Int32} (d : decode cc pc = .ok (.ior, 1)) (h : G k E n z (pc + 1) lv (.int (x ||| y) :: st) ws) : G k E n z pc lv (.int y :: .int x :: st) ws :=
  fun H locs ls hP hD hS hl => lv_ior C.1 C.2.1 d (h H locs ls hP hD hS hl)
theorem g_ishl (C : Cx k E cc own rm) {x y : Int32} (d : decode cc pc = .ok (.ishl, 1)) (h : G k E n z (pc + 1) lv (.int (x <<< (y &&& 31)) :: st) ws) : G k E n z pc lv (.int y :: .int x :: st) ws :=
  fun H locs ls hP hD hS hl => lv_ishl C.1 C.2.1 d (h H locs ls hP hD hS hl)
theorem g_ishr (C : Cx k E cc own rm) {x y : Int32} (d : decode cc pc = .ok (.ishr, 1)) (h : G k E n z (pc + 1) lv (.int (x >>> (y &&& 31)) :: st) ws) : G k E n z pc lv (.int y :: .int x :: st) ws :=
  fun H locs ls hP hD hS hl => lv_ishr C.1 C.2.1 d (h H locs ls hP hD hS hl)
theorem g_idiv (C : Cx k E cc own rm) {x y : Int32} (d : decode cc pc = .ok (.idiv, 1)) (hne : ¬ y = 0) (h : G k E n z (pc + 1) lv (.int (x / y) :: st) ws) : G k E n z pc lv (.int y :: .int x :: st) ws :=
  fun H locs ls hP hD hS hl => lv_idiv C.1 C.2.1 d hne (h H locs ls hP hD hS hl)
theorem g_irem (C : Cx k E cc own rm) {x y : Int32} (d : decode cc pc = .ok (.irem, 1)) (hne : ¬ y = 0) (h : G k E n z (pc + 1) lv (.int (x - x / y * y) :: st) ws) : G k E n z pc lv (.int y :: .int x :: st) ws :=
  fun H locs ls hP hD hS hl => lv_irem C.1 C.2.1 d hne (h H locs ls hP hD hS hl)
theorem g_ladd (C : Cx k E cc own rm) {x y : Int64} (d : decode cc pc = .ok (.ladd, 1)) (h : G k E n z (pc + 1) lv (.long (x + y) :: st) ws) : G k E n z pc lv (.long y :: .long x :: st) ws :=
  fun H locs ls hP hD hS hl => lv_ladd C.1 C.2.1 d (h H locs ls hP hD hS hl)
theorem g_lsub (C : Cx k E cc own rm) {x y : Int64} (d : decode cc pc = .ok (.lsub, 1)) (h : G k E n z (pc + 1) lv (.long (x - y) :: st) ws) : G k E n z pc lv (.long y :: .long x :: st) ws :=
  fun H locs ls hP hD hS hl => lv_lsub C.1 C.2.1 d (h H locs ls hP hD hS hl)
theorem g_lmul (C : Cx k E cc own rm) {x y : Int64} (d : decode cc pc = .ok (.lmul, 1)) (h : G k E n z (pc + 1) lv (.long (x * y) :: st) ws) : G k E n z pc lv (.long y :: .long x :: st) ws :=
  fun H locs ls hP hD hS hl => lv_lmul C.1 C.2.1 d (h H locs ls hP hD hS hl)
theorem g_ldiv (C : Cx k E cc own rm) {x y : Int64} (d : decode cc pc = .ok (.ldiv, 1)) (hne : ¬ y = 0) (h : G k E n z (pc + 1) lv (.long (x / y) :: st) ws) : G k E n z pc lv (.long y :: .long x :: st) ws :=
  fun H locs ls hP hD hS hl => lv_ldiv C.1 C.2.1 d hne (h H locs ls hP hD hS hl)
theorem g_lrem (C : Cx k E cc own rm) {x y : Int64} (d : decode cc pc = .ok (.lrem, 1)) (hne : ¬ y = 0) (h : G k E n z (pc + 1) lv (.long (x - x / y * y) :: st) ws) : G k E n z pc lv (.long y :: .long x :: st) ws :=
  fun H locs ls hP hD hS hl => lv_lrem C.1 C.2.1 d hne (h H locs ls hP hD hS hl)
theorem g_i2l (C : Cx k E cc own rm) {x : Int32} {v : Int64} (d : decode cc pc = .ok (.i2l, 1)) (hv : x.toInt64 = v) (h : G k E n z (pc + 1) lv (.long v :: st) ws) : G k E n z pc lv (.int x :: st) ws :=
  fun H locs ls hP hD hS hl => lv_i2l C.1 C.2.1 d hv (h H locs ls hP hD hS hl)
theorem g_l2i (C : Cx k E cc own rm) {x : Int64} {v : Int32} (d : decode cc pc = .ok (.l2i, 1)) (hv : x.toInt32 = v) (h : G k E n z (pc + 1) lv (.int v :: st) ws) : G k E n z pc lv (.long x :: st) ws :=
  fun H locs ls hP hD hS hl => lv_l2i C.1 C.2.1 d hv (h H locs ls hP hD hS hl)
theorem g_i2c (C : Cx k E cc own rm) {x v : Int32} (d : decode cc pc = .ok (.i2c, 1)) (hv : (x.toUInt32 % 65536).toInt32 = v) (h : G k E n z (pc + 1) lv (.int v :: st) ws) : G k E n z pc lv (.int x :: st) ws :=
  fun H locs ls hP hD hS hl => lv_i2c C.1 C.2.1 d hv (h H locs ls hP hD hS hl)
theorem g_dup (C : Cx k E cc own rm) {va : Value} (d : decode cc pc = .ok (.dup, 1)) (hva : va.category = 1) (h : G k E n z (pc + 1) lv (va :: va :: st) ws) : G k E n z pc lv (va :: st) ws :=
  fun H locs ls hP hD hS hl => lv_dup C.1 C.2.1 d hva (h H locs ls hP hD hS hl)
theorem g_pop (C : Cx k E cc own rm) {va : Value} (d : decode cc pc = .ok (.pop, 1)) (hva : va.category = 1) (h : G k E n z (pc + 1) lv (st) ws) : G k E n z pc lv (va :: st) ws :=
  fun H locs ls hP hD hS hl => lv_pop C.1 C.2.1 d hva (h H locs ls hP hD hS hl)
theorem g_dup_x1 (C : Cx k E cc own rm) {va vb : Value} (d : decode cc pc = .ok (.dup_x1, 1)) (hva : va.category = 1) (hvb : vb.category = 1) (h : G k E n z (pc + 1) lv (va :: vb :: va :: st) ws) : G k E n z pc lv (va :: vb :: st) ws :=
  fun H locs ls hP hD hS hl => lv_dup_x1 C.1 C.2.1 d hva hvb (h H locs ls hP hD hS hl)
theorem g_goto (C : Cx k E cc own rm) {off : Int} {tgt : Nat} (d : decode cc pc = .ok (.goto off, 3)) (ht : (pc : Int) + off = (tgt : Int)) (h : G k E n z tgt lv st ws) : G k E n z pc lv st ws :=
  fun H locs ls hP hD hS hl => lv_goto C.1 C.2.1 d ht (h H locs ls hP hD hS hl)
theorem g_icmp_eq (C : Cx k E cc own rm) {x y : Int32} {off : Int} {tgt : Nat} (d : decode cc pc = .ok (.if_icmp .eq off, 3)) (ht : (pc : Int) + off = (tgt : Int)) (kt : x = y → G k E n z tgt lv st ws) (kf : ¬ (x = y) → G k E n z (pc + 3) lv st ws) : G k E n z pc lv (.int y :: .int x :: st) ws :=
  fun H locs ls hP hD hS hl => lv_icmp_eq C.1 C.2.1 d ht (fun c => kt c H locs ls hP hD hS hl) (fun c => kf c H locs ls hP hD hS hl)
theorem g_if_eq (C : Cx k E cc own rm) {x : Int32} {off : Int} {tgt : Nat} (d : decode cc pc = .ok (.ifCond .eq off, 3)) (ht : (pc : Int) + off = (tgt : Int)) (kt : x = 0 → G k E n z tgt lv st ws) (kf : ¬ (x = 0) → G k E n z (pc + 3) lv st ws) : G k E n z pc lv (.int x :: st) ws :=
  fun H locs ls hP hD hS hl => lv_if_eq C.1 C.2.1 d ht (fun c => kt c H locs ls hP hD hS hl) (fun c => kf c H locs ls hP hD hS hl)
theorem g_icmp_ne (C : Cx k E cc own rm) {x y : Int32} {off : Int} {tgt : Nat} (d : decode cc pc = .ok (.if_icmp .ne off, 3)) (ht : (pc : Int) + off = (tgt : Int)) (kt : ¬ x = y → G k E n z tgt lv st ws) (kf : x = y → G k E n z (pc + 3) lv st ws) : G k E n z pc lv (.int y :: .int x :: st) ws :=
  fun H locs ls hP hD hS hl => lv_icmp_ne C.1 C.2.1 d ht (fun c => kt c H locs ls hP hD hS hl) (fun c => kf c H locs ls hP hD hS hl)
theorem g_if_ne (C : Cx k E cc own rm) {x : Int32} {off : Int} {tgt : Nat} (d : decode cc pc = .ok (.ifCond .ne off, 3)) (ht : (pc : Int) + off = (tgt : Int)) (kt : ¬ x = 0 → G k E n z tgt lv st ws) (kf : x = 0 → G k E n z (pc + 3) lv st ws) : G k E n z pc lv (.int x :: st) ws :=
  fun H locs ls hP hD hS hl => lv_if_ne C.1 C.2.1 d ht (fun c => kt c H locs ls hP hD hS hl) (fun c => kf c H locs ls hP hD hS hl)
theorem g_icmp_lt (C : Cx k E cc own rm) {x y : Int32} {off : Int} {tgt : Nat} (d : decode cc pc = .ok (.if_icmp .lt off, 3)) (ht : (pc : Int) + off = (tgt : Int)) (kt : x < y → G k E n z tgt lv st ws) (kf : ¬ (x < y) → G k E n z (pc + 3) lv st ws) : G k E n z pc lv (.int y :: .int x :: st) ws :=
  fun H locs ls hP hD hS hl => lv_icmp_lt C.1 C.2.1 d ht (fun c => kt c H locs ls hP hD hS hl) (fun c => kf c H locs ls hP hD hS hl)
theorem g_if_lt (C : Cx k E cc own rm) {x : Int32} {off : Int} {tgt : Nat} (d : decode cc pc = .ok (.ifCond .lt off, 3)) (ht : (pc : Int) + off = (tgt : Int)) (kt : x < 0 → G k E n z tgt lv st ws) (kf : ¬ (x < 0) → G k E n z (pc + 3) lv st ws) : G k E n z pc lv (.int x :: st) ws :=
  fun H locs ls hP hD hS hl => lv_if_lt C.1 C.2.1 d ht (fun c => kt c H locs ls hP hD hS hl) (fun c => kf c H locs ls hP hD hS hl)
theorem g_icmp_ge (C : Cx k E cc own rm) {x y : Int32} {off : Int} {tgt : Nat} (d : decode cc pc = .ok (.if_icmp .ge off, 3)) (ht : (pc : Int) + off = (tgt : Int)) (kt : y ≤ x → G k E n z tgt lv st ws) (kf : ¬ (y ≤ x) → G k E n z (pc + 3) lv st ws) : G k E n z pc lv (.int y :: .int x :: st) ws :=
  fun H locs ls hP hD hS hl => lv_icmp_ge C.1 C.2.1 d ht (fun c => kt c H locs ls hP hD hS hl) (fun c => kf c H locs ls hP hD hS hl)
theorem g_if_ge (C : Cx k E cc own rm) {x : Int32} {off : Int} {tgt : Nat} (d : decode cc pc = .ok (.ifCond .ge off, 3)) (ht : (pc : Int) + off = (tgt : Int)) (kt : 0 ≤ x → G k E n z tgt lv st ws) (kf : ¬ (0 ≤ x) → G k E n z (pc + 3) lv st ws) : G k E n z pc lv (.int x :: st) ws :=
  fun H locs ls hP hD hS hl => lv_if_ge C.1 C.2.1 d ht (fun c => kt c H locs ls hP hD hS hl) (fun c => kf c H locs ls hP hD hS hl)
theorem g_icmp_gt (C : Cx k E cc own rm) {x y : Int32} {off : Int} {tgt : Nat} (d : decode cc pc = .ok (.if_icmp .gt off, 3)) (ht : (pc : Int) + off = (tgt : Int)) (kt : y < x → G k E n z tgt lv st ws) (kf : ¬ (y < x) → G k E n z (pc + 3) lv st ws) : G k E n z pc lv (.int y :: .int x :: st) ws :=
  fun H locs ls hP hD hS hl => lv_icmp_gt C.1 C.2.1 d ht (fun c => kt c H locs ls hP hD hS hl) (fun c => kf c H locs ls hP hD hS hl)
theorem g_if_gt (C : Cx k E cc own rm) {x : Int32} {off : Int} {tgt : Nat} (d : decode cc pc = .ok (.ifCond .gt off, 3)) (ht : (pc : Int) + off = (tgt : Int)) (kt : 0 < x → G k E n z tgt lv st ws) (kf : ¬ (0 < x) → G k E n z (pc + 3) lv st ws) : G k E n z pc lv (.int x :: st) ws :=
  fun H locs ls hP hD hS hl => lv_if_gt C.1 C.2.1 d ht (fun c => kt c H locs ls hP hD hS hl) (fun c => kf c H locs ls hP hD hS hl)
theorem g_icmp_le (C : Cx k E cc own rm) {x y : Int32} {off : Int} {tgt : Nat} (d : decode cc pc = .ok (.if_icmp .le off, 3)) (ht : (pc : Int) + off = (tgt : Int)) (kt : x ≤ y → G k E n z tgt lv st ws) (kf : ¬ (x ≤ y) → G k E n z (pc + 3) lv st ws) : G k E n z pc lv (.int y :: .int x :: st) ws :=
  fun H locs ls hP hD hS hl => lv_icmp_le C.1 C.2.1 d ht (fun c => kt c H locs ls hP hD hS hl) (fun c => kf c H locs ls hP hD hS hl)
theorem g_if_le (C : Cx k E cc own rm) {x : Int32} {off : Int} {tgt : Nat} (d : decode cc pc = .ok (.ifCond .le off, 3)) (ht : (pc : Int) + off = (tgt : Int)) (kt : x ≤ 0 → G k E n z tgt lv st ws) (kf : ¬ (x ≤ 0) → G k E n z (pc + 3) lv st ws) : G k E n z pc lv (.int x :: st) ws :=
  fun H locs ls hP hD hS hl => lv_if_le C.1 C.2.1 d ht (fun c => kt c H locs ls hP hD hS hl) (fun c => kf c H locs ls hP hD hS hl)
theorem g_istore_n (C : Cx k E cc own rm) {j : Fin 4} {x : Int32} {lv' : List (Option Value)} (d : decode cc pc = .ok (.istore_n j, 1)) (hn : (j : Nat) < k.nL) (ho : okst lv (j : Nat) = true) (hv : lv.set (j : Nat) (some (.int x)) = lv') (h : G k E n z (pc + 1) lv' st ws) : G k E n z pc lv (.int x :: st) ws := by
  subst hv
  exact fun H locs ls hP hD hS hl => lv_istore_n C.1 C.2.1 d rfl hl.has hn rfl (fun ls' h' => h H locs ls' hP hD hS (LV.store1 ho h'))
theorem g_istore (C : Cx k E cc own rm) {j : Nat} {x : Int32} {lv' : List (Option Value)} (d : decode cc pc = .ok (.istore j, 2)) (hn : j < k.nL) (ho : okst lv j = true) (hv : lv.set j (some (.int x)) = lv') (h : G k E n z (pc + 2) lv' st ws) : G k E n z pc lv (.int x :: st) ws := by
  subst hv
  exact fun H locs ls hP hD hS hl => lv_istore C.1 C.2.1 d hl.has hn rfl (fun ls' h' => h H locs ls' hP hD hS (LV.store1 ho h'))
theorem g_astore_n (C : Cx k E cc own rm) {j : Fin 4} {x : Nat} {lv' : List (Option Value)} (d : decode cc pc = .ok (.astore_n j, 1)) (hn : (j : Nat) < k.nL) (ho : okst lv (j : Nat) = true) (hv : lv.set (j : Nat) (some (.ref x)) = lv') (h : G k E n z (pc + 1) lv' st ws) : G k E n z pc lv (.ref x :: st) ws := by
  subst hv
  exact fun H locs ls hP hD hS hl => lv_astore_n C.1 C.2.1 d rfl hl.has hn rfl (fun ls' h' => h H locs ls' hP hD hS (LV.store1 ho h'))
theorem g_astore (C : Cx k E cc own rm) {j : Nat} {x : Nat} {lv' : List (Option Value)} (d : decode cc pc = .ok (.astore j, 2)) (hn : j < k.nL) (ho : okst lv j = true) (hv : lv.set j (some (.ref x)) = lv') (h : G k E n z (pc + 2) lv' st ws) : G k E n z pc lv (.ref x :: st) ws := by
  subst hv
  exact fun H locs ls hP hD hS hl => lv_astore C.1 C.2.1 d hl.has hn rfl (fun ls' h' => h H locs ls' hP hD hS (LV.store1 ho h'))
theorem g_lstore_n (C : Cx k E cc own rm) {j : Fin 4} {x : Int64} {lv' : List (Option Value)} (d : decode cc pc = .ok (.lstore_n j, 1)) (hn : (j : Nat) + 1 < k.nL) (ho : okst lv (j : Nat) = true) (hv : (lv.set (j : Nat) (some (.long x))).set ((j : Nat) + 1) none = lv') (h : G k E n z (pc + 1) lv' st ws) : G k E n z pc lv (.long x :: st) ws := by
  subst hv
  exact fun H locs ls hP hD hS hl => lv_lstore_n C.1 C.2.1 d rfl hl.has hn rfl (fun ls' h' => h H locs ls' hP hD hS (LV.store2 ho h'))
theorem g_lstore (C : Cx k E cc own rm) {j : Nat} {x : Int64} {lv' : List (Option Value)} (d : decode cc pc = .ok (.lstore j, 2)) (hn : j + 1 < k.nL) (ho : okst lv j = true) (hv : (lv.set j (some (.long x))).set (j + 1) none = lv') (h : G k E n z (pc + 2) lv' st ws) : G k E n z pc lv (.long x :: st) ws := by
  subst hv
  exact fun H locs ls hP hD hS hl => lv_lstore C.1 C.2.1 d hl.has hn rfl (fun ls' h' => h H locs ls' hP hD hS (LV.store2 ho h'))
theorem g_iinc (C : Cx k E cc own rm) {j : Nat} {i : Int} {x v : Int32} {lv' : List (Option Value)} (d : decode cc pc = .ok (.iinc j i, 3)) (hi : lv[j]? = some (some (.int x))) (hx : x + Int32.ofInt i = v) (hn : j < k.nL) (ho : okst lv j = true) (hv : lv.set j (some (.int v)) = lv') (h : G k E n z (pc + 3) lv' st ws) : G k E n z pc lv st ws := by
  subst hv
  intro H locs ls hP hD hS hl
  obtain ⟨q, hq⟩ := List.getElem?_of_mem (lvA_mem (q := (j, .int x)).mpr hi)
  exact lv_iinc C.1 C.2.1 d hl.has hq hx hn rfl (fun ls' h' => h H locs ls' hP hD hS (LV.store1 ho h'))
theorem g_get (C : Cx k E cc own rm) {Cn : String} {T : u_T} {N ci i : Nat} (hin : ∀ w ∈ u_ws Cn T N, w ∈ allW) (q0 : Nat) {a : Nat} {fs : List Value} (he : ws[q0]? = some (a, .inr (ci, fs))) (hc : vwCl[ci]? = some (Cn, T, N)) (j : Nat) (hj : j < N) (hw : Cond.fieldLink own i (T j).1 (T j).2.1 (T j).2.2.1 ∈ allW) {v : Value} (hv : fs[j]? = some v) (d : decode cc pc = .ok (.getfield i, 3)) (h : G k E n z (pc + 3) lv (v :: st) ws) : G k E n z pc lv (.ref a :: st) ws :=
  fun H locs ls hP hD hS hl => va_get C.1 C.2.1 C.2.2.2.2.1 hin C.2.2.2.1 C.2.2.2.2.2.1 hP q0 he hc j hj (C.2.2.2.2.1 _ hw) (fun _ h9 => h9) hv d (h H locs ls hP hD hS hl)
theorem g_put (C : Cx k E cc own rm) {Cn : String} {T : u_T} {N ci i : Nat} (hin : ∀ w ∈ u_ws Cn T N, w ∈ allW) (ty0 : Nat → FieldType) (hty : ∀ k, k < N → parseFieldDescriptor (T k).2.2.1 = some (ty0 k)) (hnm : ∀ a, a < N → ∀ b, b < N → a ≠ b → (T a).2.1 ≠ (T b).2.1) (q0 : Nat) {a : Nat} {fs : List Value} (he : ws[q0]? = some (a, .inr (ci, fs))) (hc : vwCl[ci]? = some (Cn, T, N)) (j : Nat) (hj : j < N) (hw : Cond.fieldLink own i (T j).1 (T j).2.1 (T j).2.2.1 ∈ allW) (hfin : (T j).2.2.2 = false) {v : Value} {ws' : va_W} (hn : narrow (ty0 j) v = v) (hfit : fits (ty0 j) v = true) (hl0 : j < fs.length) (hs : ws.set q0 (a, .inr (ci, fs.set j v)) = ws') (d : decode cc pc = .ok (.putfield i, 3)) (h : G k E n z (pc + 3) lv st ws') : G k E n z pc lv (v :: .ref a :: st) ws := by
  subst hs
  exact fun H locs ls hP hD hS hl => va_put C.1 C.2.1 C.2.2.2.2.1 hin ty0 hty hnm C.2.2.2.1 C.2.2.2.2.2.1 hP hD hS q0 he hc j hj (C.2.2.2.2.1 _ hw) (fun _ h9 => h9) hfin (hty j hj) hn hfit hl0 d (fun H1 locs1 hP hD hS => h H1 locs1 ls hP hD hS hl)
theorem g_putF (C : Cx k E cc own rm) (hm : k.meth.name = "<init>") {Cn : String} {T : u_T} {N ci i : Nat} (hin : ∀ w ∈ u_ws Cn T N, w ∈ allW) (ty0 : Nat → FieldType) (hty : ∀ k, k < N → parseFieldDescriptor (T k).2.2.1 = some (ty0 k)) (hnm : ∀ a, a < N → ∀ b, b < N → a ≠ b → (T a).2.1 ≠ (T b).2.1) (q0 : Nat) {a : Nat} {fs : List Value} (he : ws[q0]? = some (a, .inr (ci, fs))) (hc : vwCl[ci]? = some (Cn, T, N)) (j : Nat) (hj : j < N) (hw : Cond.fieldLink own i (T j).1 (T j).2.1 (T j).2.2.1 ∈ allW) (hfin : (T j).2.2.2 = true) (hdecl : (T j).1 = own) {v : Value} {ws' : va_W} (hn : narrow (ty0 j) v = v) (hfit : fits (ty0 j) v = true) (hl0 : j < fs.length) (hs : ws.set q0 (a, .inr (ci, fs.set j v)) = ws') (d : decode cc pc = .ok (.putfield i, 3)) (h : G k E n z (pc + 3) lv st ws') : G k E n z pc lv (v :: .ref a :: st) ws := by
  subst hs
  exact fun H locs ls hP hD hS hl => va_putF C.1 C.2.1 C.2.2.2.2.1 hin ty0 hty hnm C.2.2.2.1 C.2.2.2.2.2.1 hP hD hS q0 he hc j hj (C.2.2.2.2.1 _ hw) (fun _ h9 => h9) hfin hm hdecl (hty j hj) hn hfit hl0 d (fun H1 locs1 hP hD hS => h H1 locs1 ls hP hD hS hl)
theorem g_iald (C : Cx k E cc own rm) (q0 : Nat) {a N : Nat} {f : Nat → Int32} {i : Int32} (j : Nat) (he : ws[q0]? = some (aI E a N f)) (hi : i = nI j) (hj : j < N) (hN : N < 2 ^ 31) (d : decode cc pc = .ok (.iaload, 1)) (h : G k E n z (pc + 1) lv (.int (f j) :: st) ws) : G k E n z pc lv (.int i :: .ref a :: st) ws := by
  subst hi
  intro H locs ls hP hD hS hl
  have e := h H locs ls hP hD hS hl
  rw [← nI_clamp (show j < 2 ^ 31 by omega)] at e
  exact va_iald C.1 C.2.1 C.2.2.2.2.2.1 hP q0 0 he rfl (vp_in_nI hj hN) d e
theorem g_cald (C : Cx k E cc own rm) (q0 : Nat) {a N : Nat} {f : Nat → Int32} {i : Int32} (j : Nat) (he : ws[q0]? = some (aC E a N f)) (hi : i = nI j) (hj : j < N) (hN : N < 2 ^ 31) (d : decode cc pc = .ok (.caload, 1)) (h : G k E n z (pc + 1) lv (.int (f j) :: st) ws) : G k E n z pc lv (.int i :: .ref a :: st) ws := by
  subst hi
  intro H locs ls hP hD hS hl
  have e := h H locs ls hP hD hS hl
  rw [← nI_clamp (show j < 2 ^ 31 by omega)] at e
  exact va_cald C.1 C.2.1 C.2.2.2.2.2.1 hP q0 2 he rfl (vp_in_nI hj hN) d e
theorem g_zald (C : Cx k E cc own rm) (q0 : Nat) {a N : Nat} {f : Nat → Int32} {i : Int32} (j : Nat) (he : ws[q0]? = some (aZ E a N f)) (hi : i = nI j) (hj : j < N) (hN : N < 2 ^ 31) (d : decode cc pc = .ok (.baload, 1)) (h : G k E n z (pc + 1) lv (.int (f j) :: st) ws) : G k E n z pc lv (.int i :: .ref a :: st) ws := by
  subst hi
  intro H locs ls hP hD hS hl
  have e := h H locs ls hP hD hS hl
  rw [← nI_clamp (show j < 2 ^ 31 by omega)] at e
  exact va_zald C.1 C.2.1 C.2.2.2.2.2.1 hP q0 1 he rfl (vp_in_nI hj hN) d e
theorem g_aald (C : Cx k E cc own rm) (q0 : Nat) {a N : Nat} {f : Nat → Option Nat} {i : Int32} {b : Nat} (j : Nat) (he : ws[q0]? = some (aM E a N f)) (hi : i = nI j) (hj : j < N) (hN : N < 2 ^ 31) (hb : f j = some b) (d : decode cc pc = .ok (.aaload, 1)) (h : G k E n z (pc + 1) lv (.ref b :: st) ws) : G k E n z pc lv (.int i :: .ref a :: st) ws := by
  subst hi
  intro H locs ls hP hD hS hl
  have e : W k.p k.l k.e k.R k.s k.m k.args k.below k.meth k.c H locs n z k.Q (F0 k.m (pc + 1) ls (va_rf (f (nI j).toNatClampNeg) :: st)) := by
    rw [nI_clamp (show j < 2 ^ 31 by omega), hb]
    exact h H locs ls hP hD hS hl
  exact va_aldq C.1 C.2.1 C.2.2.2.2.2.1 hP q0 3 he rfl (vp_in_nI hj hN) d e
theorem g_iast (C : Cx k E cc own rm) (q0 : Nat) {a N : Nat} {f : Nat → Int32} {i x : Int32} (j : Nat) {ws' : va_W} (he : ws[q0]? = some (aI E a N f)) (hi : i = nI j) (hj : j < N) (hN : N < 2 ^ 31) (hs : ws.set q0 (aI E a N (upd f j x)) = ws') (d : decode cc pc = .ok (.iastore, 1)) (h : G k E n z (pc + 1) lv st ws') : G k E n z pc lv (.int x :: .int i :: .ref a :: st) ws := by
  subst hi
  subst hs
  intro H locs ls hP hD hS hl
  refine va_iast C.1 C.2.1 C.2.2.2.2.2.1 hP hD hS q0 0 he rfl (vp_in_nI hj hN) d (fun H1 locs1 hP hD hS => ?_)
  rw [nI_clamp (show j < 2 ^ 31 by omega)] at hP hD
  exact h H1 locs1 ls hP hD hS hl
theorem g_cast (C : Cx k E cc own rm) (q0 : Nat) {a N : Nat} {f : Nat → Int32} {i x : Int32} (j : Nat) {ws' : va_W} (he : ws[q0]? = some (aC E a N f)) (hi : i = nI j) (hj : j < N) (hN : N < 2 ^ 31) (hx : vp_nar .char x = x) (hs : ws.set q0 (aC E a N (upd f j x)) = ws') (d : decode cc pc = .ok (.castore, 1)) (h : G k E n z (pc + 1) lv st ws') : G k E n z pc lv (.int x :: .int i :: .ref a :: st) ws := by
  subst hi
  subst hs
  intro H locs ls hP hD hS hl
  refine va_cast C.1 C.2.1 C.2.2.2.2.2.1 hP hD hS q0 2 he rfl (vp_in_nI hj hN) d (fun H1 locs1 hP hD hS => ?_)
  rw [nI_clamp (show j < 2 ^ 31 by omega), hx] at hP hD
  exact h H1 locs1 ls hP hD hS hl
theorem g_zast (C : Cx k E cc own rm) (q0 : Nat) {a N : Nat} {f : Nat → Int32} {i x : Int32} (j : Nat) {ws' : va_W} (he : ws[q0]? = some (aZ E a N f)) (hi : i = nI j) (hj : j < N) (hN : N < 2 ^ 31) (hx : vp_nar .boolean x = x) (hs : ws.set q0 (aZ E a N (upd f j x)) = ws') (d : decode cc pc = .ok (.bastore, 1)) (h : G k E n z (pc + 1) lv st ws') : G k E n z pc lv (.int x :: .int i :: .ref a :: st) ws := by
  subst hi
  subst hs
  intro H locs ls hP hD hS hl
  refine va_zast C.1 C.2.1 C.2.2.2.2.2.1 hP hD hS q0 1 he rfl (vp_in_nI hj hN) d (fun H1 locs1 hP hD hS => ?_)
  rw [nI_clamp (show j < 2 ^ 31 by omega), hx] at hP hD
  exact h H1 locs1 ls hP hD hS hl
theorem g_aast (C : Cx k E cc own rm) (q0 qk : Nat) {a N v : Nat} {f : Nat → Option Nat} {vs : List Value} {i : Int32} (j : Nat) {ws' : va_W} (he : ws[q0]? = some (aM E a N f)) (hv : ws[qk]? = some (v, .inr (4, vs))) (hi : i = nI j) (hj : j < N) (hN : N < 2 ^ 31) (hs : ws.set q0 (aM E a N (va_up f j (some v))) = ws') (d : decode cc pc = .ok (.aastore, 1)) (h : G k E n z (pc + 1) lv st ws') : G k E n z pc lv (.ref v :: .int i :: .ref a :: st) ws := by
  subst hi
  subst hs
  intro H locs ls hP hD hS hl
  refine va_astq C.1 C.2.1 C.2.2.2.2.2.1 hP hD hS q0 3 qk 4 (r := (RX4, TX4, 4)) he rfl hv rfl (vp_in_nI hj hN) d (fun H1 locs1 hP hD hS => ?_)
  rw [nI_clamp (show j < 2 ^ 31 by omega)] at hP hD
  exact h H1 locs1 ls hP hD hS hl
theorem g_alen (C : Cx k E cc own rm) (q0 : Nat) {a N : Nat} {f : Nat → Int32} (he : ws[q0]? = some (aI E a N f)) (d : decode cc pc = .ok (.arraylength, 1)) (h : G k E n z (pc + 1) lv (.int (nI N) :: st) ws) : G k E n z pc lv (.ref a :: st) ws :=
  fun H locs ls hP hD hS hl => va_alen C.1 C.2.1 C.2.2.2.2.2.1 hP q0 0 he rfl rfl d (h H locs ls hP hD hS hl)
theorem g_iret (C : Cx k E cc own rm) {post : Option Value → va_W → Prop} (hR : Rt k E post n z (some .int)) {v : Int32} (hp : post (some (.int v)) ws) (d : decode cc pc = .ok (.ireturn, 1)) : G k E n z pc lv [.int v] ws := by
  intro H locs ls hP hD hS hl
  rw [hR.1]
  exact W.iret C.1 C.2.1 hR.2 (fun t ht hW => ⟨⟨_, ws, rfl, hp, by rw [ht]; exact hP, va_K.moved hW.alike C.2.2.2.2.2.1, hD⟩, hS.F ht⟩) hS.2.2 d C.2.2.2.2.2.2.2.2.2
theorem g_zret (C : Cx k E cc own rm) {post : Option Value → va_W → Prop} (hR : Rt k E post n z (some .boolean)) {v : Int32} (hv : v = 0 ∨ v = 1) (hp : post (some (.int v)) ws) (d : decode cc pc = .ok (.ireturn, 1)) : G k E n z pc lv [.int v] ws := by
  intro H locs ls hP hD hS hl
  rw [hR.1]
  exact W.zret C.1 C.2.1 hR.2 (by rcases hv with rfl | rfl <;> rfl) (fun t ht hW => ⟨⟨_, ws, rfl, hp, by rw [ht]; exact hP, va_K.moved hW.alike C.2.2.2.2.2.1, hD⟩, hS.F ht⟩) hS.2.2 d C.2.2.2.2.2.2.2.2.2
theorem g_lret (C : Cx k E cc own rm) {post : Option Value → va_W → Prop} (hR : Rt k E post n z (some .long)) {v : Int64} (hp : post (some (.long v)) ws) (d : decode cc pc = .ok (.lreturn, 1)) : G k E n z pc lv [.long v] ws := by
  intro H locs ls hP hD hS hl
  rw [hR.1]
  exact W.lret C.1 C.2.1 hR.2 (fun t ht hW => ⟨⟨_, ws, rfl, hp, by rw [ht]; exact hP, va_K.moved hW.alike C.2.2.2.2.2.1, hD⟩, hS.F ht⟩) hS.2.2 d C.2.2.2.2.2.2.2.2.2
theorem g_vret (C : Cx k E cc own rm) {post : Option Value → va_W → Prop} (hR : Rt k E post n z none) (hp : post none ws) (d : decode cc pc = .ok (.return_, 1)) : G k E n z pc lv [] ws := by
  intro H locs ls hP hD hS hl
  rw [hR.1]
  exact W.vret C.1 C.2.1 hR.2 (fun t ht hW => ⟨⟨_, ws, rfl, hp, by rw [ht]; exact hP, va_K.moved hW.alike C.2.2.2.2.2.1, hD⟩, hS.F ht⟩) hS.2.2 d C.2.2.2.2.2.2.2.2.2
theorem PreC_blind {av : List Value} {wc : va_W} {sz : Nat} : FrameBlind (PreC E av wc sz) := fun a U g mk q => by
  obtain ⟨q0, q1, qP, qK, qD, qN⟩ := q
  exact ⟨q0, q1, qP, va_K.moved (u := U) (U := U.calling g mk a) (Vm.Alike.refl U.vm) qK, qD, NW.same rfl qN⟩
theorem g_back (C : Cx k E cc own rm) {wc wr : va_W} {st0 rest : List Value} {mc ms : Nat} {post : Option Value → va_W → Prop} {a : Array Value} (isC isR : List Nat) (hC : isC.map (fun i => ws[i]?) = wc.map some) (hR : isR.map (fun i => ws[i]?) = wr.map some) (hnd : va_nd isR = true) (hdis : ∀ i ∈ isR, i ∉ isC)
    (hrun : ∀ (H : Heap) (locs : List Loc) (ls : Array Slot), va_P E.1 vwCl ws H → va_P E.1 vwCl wc H → (∀ U : State, U.heap = H → k.s.WarmedH U.vm → ∀ av : List Value, PreC E av wc H.size av.toArray U) → LV ls k.nL lv → va_Run k.p k.l k.e k.R k.s k.m k.args k.below k.meth k.c H locs n z mc ms (F0 k.m pc ls st0) rest (QcC E post (va_A wc H.size) a) (va_A wc H.size))
    (hnc : va_nd isC = true) (kk : ∀ (v : Option Value) (w : va_W), post v w → G k E (n + mc) (z + ms) (pc + 3) lv (v.toList ++ rest) (wr ++ w)) : G k E n z pc lv st0 ws := by
  intro H locs ls hP hD hS hl
  have hs2 : isC.filterMap (fun i => ws[i]?) = wc := by
    have e1 : isC.filterMap (fun i => ws[i]?) = (isC.map (fun i => ws[i]?)).filterMap id := by rw [List.filterMap_map]; rfl
    rw [e1, hC, List.filterMap_map]
    show wc.filterMap some = wc
    simp
  have hPc := hP.sub isC hs2
  have hDc := hD.sub isC hnc hC
  have hKc := C.2.2.2.2.2.1
  have hFc := va_free (wc := wc) hD hS C.2.2.2.2.2.2.1 isC hC
  intro T hT X
  obtain ⟨v, st₀, t, T', L, h0, X', hL, e1, e2, ⟨⟨v', w, hv, hp, hP1, hK1, hD1⟩, hz, hk⟩, go⟩ := hrun H locs ls hP hPc (fun U hU hW av => ⟨rfl, by rw [hU], by rw [hU]; exact hPc, va_K.moved hW.alike hKc, hDc.weaken (fun _ _ _ _ => trivial), NW.warm hW C.2.2.2.2.2.2.2.2.1⟩) hl T hT X
  cases hv
  rw [h0] at hz hk
  have hk1 : ∀ q : Nat, q < H.size → ¬ va_A wc H.size q → T'.heap[q]? = H[q]? := fun q h1 h2 => by rw [e1]; exact hk q h1 h2
  obtain ⟨hP2, hD2⟩ := va_join (wr := wr) (w1 := w) hP hD isC isR hC hR hnd hdis hk1 hFc (by rw [e1]; exact hP1) hD1
  have hS2 : va_S k.A k.s.heap T'.heap (locs ++ L) := by
    refine ⟨Nat.le_trans hS.1 (by rw [e1]; exact hz), fun q h1 h2 => ?_, fun q hq => ?_⟩
    · rw [hk1 q (Nat.lt_of_lt_of_le h1 hS.1) (fun h => h2 (hFc q h))]
      exact hS.2.1 q h1 h2
    · rcases List.mem_append.mp hq with h | h
      · exact hS.2.2 q h
      · exact hFc _ (hL q h)
  obtain ⟨t2, a1, b1⟩ := kk v w hp T'.heap (locs ++ L) ls hP2 hD2 hS2 hl T' rfl X'
  exact ⟨t2, go t2 a1, b1⟩
theorem g_callV (C : Cx k E cc own rm) {Cn : String} {i maxL na : Nat} {y : MethodName} {bytes : ByteArray} {ret : Option FieldType} {ry : Room} {b : Nat} {As rest : List Value} {wc wr : va_W} {mc ms : Nat} {post : Option Value → va_W → Prop} (hM : Ct k.l E y bytes maxL ret ry (.ref b :: As) wc post mc ms) (h1 : Cond.methodLink own i y ∈ allW) (h2 : Cond.instanceMethod y ∈ allW) (h3 : Cond.selects Cn y y ∈ allW) (h4 : Cond.initialized Cn ∈ allW) (h5 : Cond.code y bytes maxL ret ∈ allW) (hry : ry.cells = mc ∧ ry.slots = ms) (hd : y.cls = Cn ∧ y.cls ≠ "java/lang/invoke/MethodHandle" ∧ y.cls ≠ "java/lang/invoke/VarHandle" ∧ (parseMethodDescriptor y.desc).map (fun d => d.parameters.length) = some na) (hroom : ry.frames + 1 ≤ rm.frames ∧ 8 + (maxL + 11) + ry.locals ≤ rm.locals) (hmc : n + mc ≤ rm.cells ∧ z + ms ≤ rm.slots) (isC isR : List Nat) (hC : isC.map (fun i => ws[i]?) = wc.map some) (hR : isR.map (fun i => ws[i]?) = wr.map some) (hnd : va_nd isR = true) (hnc : va_nd isC = true) (hdis : ∀ i ∈ isR, i ∉ isC) (q0 ci : Nat) {fs : List Value} {Tt : u_T} {N : Nat} (hq : ws[q0]? = some (b, .inr (ci, fs))) (hcl : vwCl[ci]? = some (Cn, Tt, N)) (hn : As.length = na) (hst : st = As.reverse ++ .ref b :: rest) (hwd : (rest.map fun v => v.category).sum ≤ 8) (d : decode cc pc = .ok (.invokevirtual i, 3))
    (kk : ∀ (v : Option Value) (w : va_W), post v w → G k E (n + mc) (z + ms) (pc + 3) lv (v.toList ++ rest) (wr ++ w)) : G k E n z pc lv st ws := by
  subst hst
  have hrm := C.2.2.2.2.2.2.2.1
  refine g_back (a := (Value.ref b :: As).toArray) C isC isR hC hR hnd hdis (fun H locs ls hP hPc hpre hl => ?_) hnc kk
  exact va_runV (As := As) (rest := rest) ⟨C.1, C.2.1, C.2.2.1, C.2.2.2.1, C.2.2.2.2.1⟩ (hM H.size) (cwV na C.2.2.2.2.1 (goodW h1 h2 h3 h4 h5) rfl hry.1 hry.2 hd (by rw [hrm]; exact hroom)) ⟨PreC_blind, va_recv C.2.2.2.2.2.1 hP hcl hq, fun U hU hW => hpre U hU hW _⟩ rfl hn hl.1 rfl (lv_room hwd) d (by rw [hrm]; exact hmc)
theorem g_callS (C : Cx k E cc own rm) {i maxL na : Nat} {y : MethodName} {bytes : ByteArray} {ret : Option FieldType} {ry : Room} {As rest : List Value} {wc wr : va_W} {mc ms : Nat} {post : Option Value → va_W → Prop} (hM : Ct k.l E y bytes maxL ret ry As wc post mc ms) (h1 : Cond.methodLink own i y ∈ allW) (h2 : Cond.static y ∈ allW) (h4 : Cond.initialized y.cls ∈ allW) (h5 : Cond.code y bytes maxL ret ∈ allW) (hry : ry.cells = mc ∧ ry.slots = ms) (hd : y.cls ≠ "java/lang/invoke/MethodHandle" ∧ y.cls ≠ "java/lang/invoke/VarHandle" ∧ (parseMethodDescriptor y.desc).map (fun d => d.parameters.length) = some na) (hroom : ry.frames + 1 ≤ rm.frames ∧ 8 + (maxL + 11) + ry.locals ≤ rm.locals) (hmc : n + mc ≤ rm.cells ∧ z + ms ≤ rm.slots) (isC isR : List Nat) (hC : isC.map (fun i => ws[i]?) = wc.map some) (hR : isR.map (fun i => ws[i]?) = wr.map some) (hnd : va_nd isR = true) (hnc : va_nd isC = true) (hdis : ∀ i ∈ isR, i ∉ isC) (hn : As.length = na) (hst : st = As.reverse ++ rest) (hwd : (rest.map fun v => v.category).sum ≤ 8) (d : decode cc pc = .ok (.invokestatic i, 3))
    (kk : ∀ (v : Option Value) (w : va_W), post v w → G k E (n + mc) (z + ms) (pc + 3) lv (v.toList ++ rest) (wr ++ w)) : G k E n z pc lv st ws := by
  subst hst
  have hrm := C.2.2.2.2.2.2.2.1
  refine g_back (a := As.toArray) C isC isR hC hR hnd hdis (fun H locs ls hP hPc hpre hl => ?_) hnc kk
  exact va_runS (As := As) (rest := rest) ⟨C.1, C.2.1, C.2.2.1, C.2.2.2.1, C.2.2.2.2.1⟩ (hM H.size) (va_cwS na C.2.2.2.2.1 (goodS h1 h2 h4 h5) rfl hry.1 hry.2 hd (by rw [hrm]; exact hroom)) ⟨PreC_blind, fun U hU hW => hpre U hU hW _⟩ rfl hn hl.1 rfl (lv_room hwd) d (by rw [hrm]; exact hmc)
theorem g_callSN (C : Cx k E cc own rm) {i maxL na : Nat} {y : MethodName} {bytes : ByteArray} {ret : Option FieldType} {ry : Room} {As rest : List Value} {wc wr : va_W} {mc ms : Nat} {post : Option Value → va_W → Prop} (hM : Ct k.l E y bytes maxL ret ry As wc post mc ms) (h5 : Cond.code y bytes maxL ret ∈ allW) (hnest : (own, i, y, "CoilStairs") ∈ nestL) (hini : Cond.initialized y.cls ∈ allW) (hstat : Cond.static y ∈ allW) (hry : ry.cells = mc ∧ ry.slots = ms) (hd : y.cls ≠ "java/lang/invoke/MethodHandle" ∧ y.cls ≠ "java/lang/invoke/VarHandle" ∧ (parseMethodDescriptor y.desc).map (fun d => d.parameters.length) = some na) (hroom : ry.frames + 1 ≤ rm.frames ∧ 8 + (maxL + 11) + ry.locals ≤ rm.locals) (hmc : n + mc ≤ rm.cells ∧ z + ms ≤ rm.slots) (isC isR : List Nat) (hC : isC.map (fun i => ws[i]?) = wc.map some) (hR : isR.map (fun i => ws[i]?) = wr.map some) (hnd : va_nd isR = true) (hnc : va_nd isC = true) (hdis : ∀ i ∈ isR, i ∉ isC) (hn : As.length = na) (hst : st = As.reverse ++ rest) (hwd : (rest.map fun v => v.category).sum ≤ 8) (d : decode cc pc = .ok (.invokestatic i, 3))
    (kk : ∀ (v : Option Value) (w : va_W), post v w → G k E (n + mc) (z + ms) (pc + 3) lv (v.toList ++ rest) (wr ++ w)) : G k E n z pc lv st ws := by
  subst hst
  have hrm := C.2.2.2.2.2.2.2.1
  refine g_back (a := As.toArray) C isC isR hC hR hnd hdis (fun H locs ls hP hPc hpre hl => ?_) hnc kk
  exact va_runSN (As := As) (rest := rest) ⟨C.1, C.2.1, C.2.2.1, C.2.2.2.1, C.2.2.2.2.1⟩ (hM H.size) ⟨va_cnB na C.2.2.2.2.1 (goodC h5) rfl hry.1 hry.2 (C.2.2.2.2.2.2.2.2.1.1 _ hnest) (C.2.2.2.2.1 _ hini) hd (by rw [hrm]; exact hroom), C.2.2.2.2.1 _ hstat, trivial⟩ ⟨PreC_blind, fun U hU hW => hpre U hU hW _⟩ rfl hn hl.1 rfl (lv_room hwd) d (by rw [hrm]; exact hmc)
theorem g_callI (C : Cx k E cc own rm) {i maxL na : Nat} {y : MethodName} {bytes : ByteArray} {ry : Room} {b : Nat} {As rest : List Value} {wc wr : va_W} {mc ms : Nat} {post : Option Value → va_W → Prop} (hM : Ct k.l E y bytes maxL none ry (.ref b :: As) wc post mc ms) (h5 : Cond.code y bytes maxL none ∈ allW) (hini : Cond.initialized y.cls ∈ allW) (hlink : Cond.methodLink own i y ∈ allW) (hinst : Cond.instanceMethod y ∈ allW) (hy1 : y.name = "<init>") (hry : ry.cells = mc ∧ ry.slots = ms) (hd : y.cls ≠ "java/lang/invoke/MethodHandle" ∧ y.cls ≠ "java/lang/invoke/VarHandle" ∧ (parseMethodDescriptor y.desc).map (fun d => d.parameters.length) = some na) (hroom : ry.frames + 1 ≤ rm.frames ∧ 8 + (maxL + 11) + ry.locals ≤ rm.locals) (hmc : n + mc ≤ rm.cells ∧ z + ms ≤ rm.slots) (isC isR : List Nat) (hC : isC.map (fun i => ws[i]?) = wc.map some) (hR : isR.map (fun i => ws[i]?) = wr.map some) (hnd : va_nd isR = true) (hnc : va_nd isC = true) (hdis : ∀ i ∈ isR, i ∉ isC) (hn : As.length = na) (hst : st = As.reverse ++ .ref b :: rest) (hwd : (rest.map fun v => v.category).sum ≤ 8) (d : decode cc pc = .ok (.invokespecial i, 3))
    (kk : ∀ (v : Option Value) (w : va_W), post v w → G k E (n + mc) (z + ms) (pc + 3) lv (v.toList ++ rest) (wr ++ w)) : G k E n z pc lv st ws := by
  subst hst
  have hrm := C.2.2.2.2.2.2.2.1
  refine g_back (a := (Value.ref b :: As).toArray) C isC isR hC hR hnd hdis (fun H locs ls hP hPc hpre hl => ?_) hnc kk
  exact va_runI (As := As) (rest := rest) ⟨C.1, C.2.1, C.2.2.1, C.2.2.2.1, C.2.2.2.2.1⟩ (hM H.size) (cwI na C.2.2.2.2.1 (goodC h5) rfl hry.1 hry.2 (C.2.2.2.2.1 _ hini) (C.2.2.2.2.1 _ hlink) (C.2.2.2.2.1 _ hinst) hy1 hd (by rw [hrm]; exact hroom)) ⟨PreC_blind, fun U hU hW => hpre U hU hW _⟩ rfl hn hl.1 rfl (lv_room hwd) d (by rw [hrm]; exact hmc)
theorem g_callIN (C : Cx k E cc own rm) {i maxL na : Nat} {y : MethodName} {bytes : ByteArray} {ry : Room} {b : Nat} {As rest : List Value} {wc wr : va_W} {mc ms : Nat} {post : Option Value → va_W → Prop} (hM : Ct k.l E y bytes maxL none ry (.ref b :: As) wc post mc ms) (h5 : Cond.code y bytes maxL none ∈ allW) (hnest : (own, i, y, "CoilStairs") ∈ nestL) (hini : Cond.initialized y.cls ∈ allW) (hinst : Cond.instanceMethod y ∈ allW) (hy1 : y.name = "<init>") (hry : ry.cells = mc ∧ ry.slots = ms) (hd : y.cls ≠ "java/lang/invoke/MethodHandle" ∧ y.cls ≠ "java/lang/invoke/VarHandle" ∧ (parseMethodDescriptor y.desc).map (fun d => d.parameters.length) = some na) (hroom : ry.frames + 1 ≤ rm.frames ∧ 8 + (maxL + 11) + ry.locals ≤ rm.locals) (hmc : n + mc ≤ rm.cells ∧ z + ms ≤ rm.slots) (isC isR : List Nat) (hC : isC.map (fun i => ws[i]?) = wc.map some) (hR : isR.map (fun i => ws[i]?) = wr.map some) (hnd : va_nd isR = true) (hnc : va_nd isC = true) (hdis : ∀ i ∈ isR, i ∉ isC) (hn : As.length = na) (hst : st = As.reverse ++ .ref b :: rest) (hwd : (rest.map fun v => v.category).sum ≤ 8) (d : decode cc pc = .ok (.invokespecial i, 3))
    (kk : ∀ (v : Option Value) (w : va_W), post v w → G k E (n + mc) (z + ms) (pc + 3) lv (v.toList ++ rest) (wr ++ w)) : G k E n z pc lv st ws := by
  subst hst
  have hrm := C.2.2.2.2.2.2.2.1
  refine g_back (a := (Value.ref b :: As).toArray) C isC isR hC hR hnd hdis (fun H locs ls hP hPc hpre hl => ?_) hnc kk
  exact va_runIN (As := As) (rest := rest) ⟨C.1, C.2.1, C.2.2.1, C.2.2.2.1, C.2.2.2.2.1⟩ (hM H.size) ⟨va_cnB na C.2.2.2.2.1 (goodC h5) rfl hry.1 hry.2 (C.2.2.2.2.2.2.2.2.1.1 _ hnest) (C.2.2.2.2.1 _ hini) hd (by rw [hrm]; exact hroom), hy1, C.2.2.2.2.1 _ hinst⟩ ⟨PreC_blind, fun U hU hW => hpre U hU hW _⟩ rfl hn hl.1 rfl (lv_room hwd) d (by rw [hrm]; exact hmc)
end GL
abbrev rmL (d c s : Nat) : Room := { frames := d, cells := c, slots := s, locals := 64 * d }
def bI (P : Prop) [Decidable P] : Int32 := if P then 1 else 0
theorem bI01 (P : Prop) [Decidable P] : bI P = 0 ∨ bI P = 1 := by unfold bI; split <;> simp
theorem bI_t {P : Prop} [Decidable P] (h : P) : bI P = 1 := if_pos h
theorem bI_f {P : Prop} [Decidable P] (h : ¬ P) : bI P = 0 := if_neg h
theorem bI_0 {P : Prop} [Decidable P] (h : bI P = 0) : ¬ P := fun q => by rw [bI_t q] at h; exact absurd h (by decide)
theorem bI_1 {P : Prop} [Decidable P] (h : ¬ bI P = 0) : P := Decidable.byContradiction fun q => h (bI_f q)
section GM
variable {k : KX} {E : EX} {cc : ByteArray} {own : String} {rm : Room} {n z pc : Nat} {lv : List (Option Value)} {st : List Value} {ws : va_W}
theorem g_re {ws' : va_W} {st' : List Value} {n' z' pc' : Nat} (e1 : ws = ws') (e2 : st = st') (e3 : (n, z) = (n', z')) (e4 : pc = pc') (h : G k E n' z' pc' lv st' ws') : G k E n z pc lv st ws := by
  subst e1; subst e2; subst e4
  cases e3
  exact h
theorem g_rep (is : List Nat) {ws' : va_W} {st' : List Value} {n' z' pc' : Nat} (e2 : st = st') (e3 : n = n') (e3' : z = z') (e4 : pc = pc') (hn : va_nd is = true) (hs : is.map (fun i => ws[i]?) = ws'.map some) (h : G k E n' z' pc' lv st' ws') : G k E n z pc lv st ws := by
  subst e2; subst e3; subst e3'; subst e4
  exact g_perm is hn hs h
theorem g_dup2 (C : Cx k E cc own rm) {va vb : Value} (d : decode cc pc = .ok (.dup2, 1)) (hva : va.category = 1) (hvb : vb.category = 1) (h : G k E n z (pc + 1) lv (va :: vb :: va :: vb :: st) ws) : G k E n z pc lv (va :: vb :: st) ws :=
  fun H locs ls hP hD hS hl => lv_dup2_11 C.1 C.2.1 d hva hvb (h H locs ls hP hD hS hl)
theorem g_lcmp (C : Cx k E cc own rm) {x y : Int64} (d : decode cc pc = .ok (.lcmp, 1)) (h : G k E n z (pc + 1) lv (.int (lg_cmp x y) :: st) ws) : G k E n z pc lv (.long y :: .long x :: st) ws :=
  fun H locs ls hP hD hS hl => W.lcmp C.1 C.2.1 d (h H locs ls hP hD hS hl)
theorem g_lookup (C : Cx k E cc own rm) {dflt : Int} {ps : Array (Int × Int)} {len : Nat} {x : Int32} {off : Int} {tgt : Nat} (d : decode cc pc = .ok (.lookupswitch dflt ps, len)) (hp : (ps.toList.zip (ps.toList.drop 1)).all (fun (a, next) => a.1 < next.1) = true) (ho : Op.lookupswitch.offset ps.toList dflt x.toInt = off) (ht : (pc : Int) + off = (tgt : Int)) (h : G k E n z tgt lv st ws) : G k E n z pc lv (.int x :: st) ws :=
  fun H locs ls hP hD hS hl => lv_lookup C.1 C.2.1 d hp ho ht (h H locs ls hP hD hS hl)
theorem g_tout (C : Cx k E cc own rm) {dflt lo hi : Int} {offs : Array Int} {len : Nat} {x : Int32} {tgt : Nat} (d : decode cc pc = .ok (.tableswitch dflt lo hi offs, len)) (hx : x.toInt < lo ∨ hi < x.toInt) (ht : (pc : Int) + dflt = (tgt : Int)) (h : G k E n z tgt lv st ws) : G k E n z pc lv (.int x :: st) ws :=
  fun H locs ls hP hD hS hl => lv_tableOut C.1 C.2.1 d hx ht (h H locs ls hP hD hS hl)
theorem g_tin (C : Cx k E cc own rm) {dflt lo hi : Int} {offs : Array Int} {len : Nat} {x : Int32} {off : Int} {tgt : Nat} (d : decode cc pc = .ok (.tableswitch dflt lo hi offs, len)) (h1 : ¬ x.toInt < lo) (h2 : ¬ hi < x.toInt) (ho : offs[(x.toInt - lo).toNat]? = some off) (ht : (pc : Int) + off = (tgt : Int)) (h : G k E n z tgt lv st ws) : G k E n z pc lv (.int x :: st) ws :=
  fun H locs ls hP hD hS hl => lv_tableIn C.1 C.2.1 d h1 h2 ho ht (h H locs ls hP hD hS hl)
theorem g_obj (C : Cx k E cc own rm) {i a : Nat} (h1 : Cond.methodLink own i objectInit ∈ allW) (hf : 1 ≤ rm.frames) (hlo : (st.map fun v => v.category).sum + 12 ≤ rm.locals) (d : decode cc pc = .ok (.invokespecial i, 3)) (h : G k E n z (pc + 3) lv st ws) : G k E n z pc lv (.ref a :: st) ws :=
  fun H locs ls hP hD hS hl => W.objInit C.1 C.2.1 C.2.2.2.1 (C.2.2.2.2.1 _ h1) (C.2.2.2.2.1 _ kiObj_init) (C.2.2.2.2.1 _ kcObj_init) rfl (by rw [C.2.2.1]; exact hl.1) rfl d (by rw [C.2.2.2.2.2.2.2.1]; exact hf) (by rw [C.2.2.2.2.2.2.2.1]; show 2 * 0 + _ + 12 ≤ _; omega) (h H locs ls hP hD hS hl)
theorem g_copy (C : Cx k E cc own rm) {i : Nat} (h1 : Cond.methodLink own i arraycopyName ∈ allW) (q0 q1 : Nat) {a0 a1 n0 n1 : Nat} {f g : Nat → Int32} {ws' : va_W} (he0 : ws[q0]? = some (aI E a0 n0 f)) (he1 : ws[q1]? = some (aI E a1 n1 g)) (c0 : Nat) {x : Int32} (hx : x = nI c0) (hc : c0 < 2 ^ 31) (hc0 : c0 ≤ n0) (hc1 : c0 ≤ n1) (hs : ws.set q1 (aI E a1 n1 (va_cpy f g 0 0 c0)) = ws') (hf : 1 ≤ rm.frames) (hlo : (st.map fun v => v.category).sum + (nativeFrameWords "java/lang/System" "arraycopy" 5 + 11) ≤ rm.locals) (d : decode cc pc = .ok (.invokestatic i, 3)) (h : G k E n z (pc + 3) lv st ws') : G k E n z pc lv (.int x :: .int 0 :: .ref a1 :: .int 0 :: .ref a0 :: st) ws := by
  subst hx
  subst hs
  intro H locs ls hP hD hS hl
  have hn : ¬ nI c0 < 0 := by
    rw [Int32.lt_iff_toInt_lt, nI_toInt hc]
    have h0 : (0 : Int32).toInt = 0 := by decide
    omega
  refine va_copyi (sp := 0) (dp := 0) (n := nI c0) (ty := .int) C.1 C.2.1 (by rw [C.2.2.1]; exact hl.1.symm) C.2.2.2.1 (C.2.2.2.2.1 _ h1) (C.2.2.2.2.1 _ kvSys_arraycopy) (C.2.2.2.2.1 _ ktSys_arraycopy) (C.2.2.2.2.1 _ knSys) C.2.2.2.2.2.1 hP hD hS q0 q1 0 0 he0 he1 rfl rfl rfl (by decide) (by decide) hn (by rw [nI_clamp hc]; show 0 + c0 ≤ n0; omega) (by rw [nI_clamp hc]; show 0 + c0 ≤ n1; omega) (fun _ _ => rfl) (by rw [C.2.2.2.2.2.2.2.1]; exact hf) (by rw [C.2.2.2.2.2.2.2.1]; exact hlo) d (fun H1 locs1 hP hD hS => ?_)
  rw [nI_clamp hc] at hP hD
  exact h H1 locs1 ls hP hD hS hl
theorem g_max (C : Cx k E cc own rm) {i : Nat} {x y : Int32} (h1 : Cond.methodLink own i Lib.Math.max.name ∈ allW) (hf : 1 ≤ rm.frames) (hlo : (st.map fun v => v.category).sum + 13 ≤ rm.locals) (hn : n ≤ rm.cells ∧ z ≤ rm.slots) (d : decode cc pc = .ok (.invokestatic i, 3)) (h : G k E n z (pc + 3) lv (.int (if x < y then y else x) :: st) ws) : G k E n z pc lv (.int y :: .int x :: st) ws := by
  intro H locs ls hP hD hS hl
  have hrm := C.2.2.2.2.2.2.2.1
  exact va_mmax C.1 C.2.1 (by rw [C.2.2.1]; exact hl.1.symm) C.2.2.2.1 (C.2.2.2.2.1 _ h1) (C.2.2.2.2.1 _ ktMath_max) (C.2.2.2.2.1 _ knMath) (C.2.2.2.2.1 _ kcMath_max) (by rw [hrm]; exact hf) (by rw [hrm]; exact hlo) (by rw [hrm]; exact hn.1) (by rw [hrm]; exact hn.2) d (h H locs ls hP hD hS hl)
theorem g_min (C : Cx k E cc own rm) {i : Nat} {x y : Int32} (h1 : Cond.methodLink own i Lib.Math.min.name ∈ allW) (hf : 1 ≤ rm.frames) (hlo : (st.map fun v => v.category).sum + 13 ≤ rm.locals) (hn : n ≤ rm.cells ∧ z ≤ rm.slots) (d : decode cc pc = .ok (.invokestatic i, 3)) (h : G k E n z (pc + 3) lv (.int (if y < x then y else x) :: st) ws) : G k E n z pc lv (.int y :: .int x :: st) ws := by
  intro H locs ls hP hD hS hl
  have hrm := C.2.2.2.2.2.2.2.1
  exact va_mmin C.1 C.2.1 (by rw [C.2.2.1]; exact hl.1.symm) C.2.2.2.1 (C.2.2.2.2.1 _ h1) (C.2.2.2.2.1 _ ktMath_min) (C.2.2.2.2.1 _ knMath) (C.2.2.2.2.1 _ kcMath_min) (by rw [hrm]; exact hf) (by rw [hrm]; exact hlo) (by rw [hrm]; exact hn.1) (by rw [hrm]; exact hn.2) d (h H locs ls hP hD hS hl)
theorem g_new (C : Cx k E cc own rm) {Cn : String} {T : u_T} {N ci i : Nat} (hin : ∀ w ∈ u_ws Cn T N, w ∈ allW) (ty : Nat → FieldType) (hty : ∀ k, k < N → parseFieldDescriptor (T k).2.2.1 = some (ty k)) (h1 : Cond.classLink own i Cn ∈ allW) (h2 : Cond.instantiable Cn N ∈ allW) (h3 : Cond.initialized Cn ∈ allW) (hc : vwCl[ci]? = some (Cn, T, N)) {fs : List Value} (hfs : ∀ j, j < N → defaultValue (ty j) = vp_V fs j) (hcells : n + 1 ≤ rm.cells) (hslots : z + N ≤ rm.slots) (d : decode cc pc = .ok (.new i, 3)) (h : ∀ q : Nat, G k E (n + 1) (z + N) (pc + 3) lv (.ref q :: st) (ws ++ [(q, .inr (ci, fs))])) : G k E n z pc lv st ws := by
  intro H locs ls hP hD hS hl
  have hrm := C.2.2.2.2.2.2.2.1
  exact va_new C.1 C.2.1 C.2.2.2.2.1 hin ty hty C.2.2.2.1 (C.2.2.2.2.1 _ h1) (C.2.2.2.2.1 _ h2) (C.2.2.2.2.1 _ h3) C.2.2.2.2.2.1 hP hD hS C.2.2.2.2.2.2.1 hc hfs (by rw [hrm]; exact hcells) (by rw [hrm]; exact hslots) d (fun q H1 hP hD hS => h q H1 locs ls hP hD hS hl)
theorem g_newI (C : Cx k E cc own rm) {x : Int32} (c0 : Nat) (hx : x = nI c0) (hc : c0 < 134217728) (hcells : n + 1 ≤ rm.cells) (hslots : z + c0 ≤ rm.slots) (d : decode cc pc = .ok (.newarray .int, 2)) (h : ∀ q : Nat, G k E (n + 1) (z + c0) (pc + 2) lv (.ref q :: st) (ws ++ [aI E q c0 (fun _ => 0)])) : G k E n z pc lv (.int x :: st) ws := by
  subst hx
  intro H locs ls hP hD hS hl
  have hrm := C.2.2.2.2.2.2.2.1
  have hn : ¬ nI c0 < 0 := by
    rw [Int32.lt_iff_toInt_lt, nI_toInt (by omega)]
    have h0 : (0 : Int32).toInt = 0 := by decide
    omega
  refine va_newa (atype := .int) (ty := .int) (N' := c0) (a0 := (c0, .inl (fun _ => 0))) C.1 C.2.1 (C.2.2.2.2.1 _ ka_int) rfl C.2.2.2.2.2.1 hP hD hS C.2.2.2.2.2.2.1 (fun _ => rfl) hn (nI_clamp (by omega)) (by show c0 * 4 ≤ 536870912; omega) (by rw [hrm]; exact hcells) (by rw [hrm]; exact hslots) d (fun q cA H1 hK hP hD hS => ?_)
  have e1 : k.s.vm.findClass ("[" ++ FieldType.int.toString) = some cA := (hK.2 4 _ rfl).2
  have e2 : k.s.vm.findClass ("[" ++ FieldType.int.toString) = some E.2.1 := (hK.2 0 _ rfl).2
  have e3 : cA = E.2.1 := Option.some.inj (e1.symm.trans e2)
  subst e3
  exact h q H1 locs ls hP hD hS hl
theorem g_newZ (C : Cx k E cc own rm) {x : Int32} (c0 : Nat) (hx : x = nI c0) (hc : c0 < 134217728) (hcells : n + 1 ≤ rm.cells) (hslots : z + c0 ≤ rm.slots) (d : decode cc pc = .ok (.newarray .boolean, 2)) (h : ∀ q : Nat, G k E (n + 1) (z + c0) (pc + 2) lv (.ref q :: st) (ws ++ [aZ E q c0 (fun _ => 0)])) : G k E n z pc lv (.int x :: st) ws := by
  subst hx
  intro H locs ls hP hD hS hl
  have hrm := C.2.2.2.2.2.2.2.1
  have hn : ¬ nI c0 < 0 := by
    rw [Int32.lt_iff_toInt_lt, nI_toInt (by omega)]
    have h0 : (0 : Int32).toInt = 0 := by decide
    omega
  refine va_newa (atype := .boolean) (ty := .boolean) (N' := c0) (a0 := (c0, .inl (fun _ => 0))) C.1 C.2.1 (C.2.2.2.2.1 _ ka_boolean) rfl C.2.2.2.2.2.1 hP hD hS C.2.2.2.2.2.2.1 (fun _ => rfl) hn (nI_clamp (by omega)) (by show c0 * 1 ≤ 536870912; omega) (by rw [hrm]; exact hcells) (by rw [hrm]; exact hslots) d (fun q cA H1 hK hP hD hS => ?_)
  have e1 : k.s.vm.findClass ("[" ++ FieldType.boolean.toString) = some cA := (hK.2 4 _ rfl).2
  have e2 : k.s.vm.findClass ("[" ++ FieldType.boolean.toString) = some E.2.2.1 := (hK.2 1 _ rfl).2
  have e3 : cA = E.2.2.1 := Option.some.inj (e1.symm.trans e2)
  subst e3
  exact h q H1 locs ls hP hD hS hl
theorem g_newC (C : Cx k E cc own rm) {x : Int32} (c0 : Nat) (hx : x = nI c0) (hc : c0 < 134217728) (hcells : n + 1 ≤ rm.cells) (hslots : z + c0 ≤ rm.slots) (d : decode cc pc = .ok (.newarray .char, 2)) (h : ∀ q : Nat, G k E (n + 1) (z + c0) (pc + 2) lv (.ref q :: st) (ws ++ [aC E q c0 (fun _ => 0)])) : G k E n z pc lv (.int x :: st) ws := by
  subst hx
  intro H locs ls hP hD hS hl
  have hrm := C.2.2.2.2.2.2.2.1
  have hn : ¬ nI c0 < 0 := by
    rw [Int32.lt_iff_toInt_lt, nI_toInt (by omega)]
    have h0 : (0 : Int32).toInt = 0 := by decide
    omega
  refine va_newa (atype := .char) (ty := .char) (N' := c0) (a0 := (c0, .inl (fun _ => 0))) C.1 C.2.1 (C.2.2.2.2.1 _ ka_char) rfl C.2.2.2.2.2.1 hP hD hS C.2.2.2.2.2.2.1 (fun _ => rfl) hn (nI_clamp (by omega)) (by show c0 * 2 ≤ 536870912; omega) (by rw [hrm]; exact hcells) (by rw [hrm]; exact hslots) d (fun q cA H1 hK hP hD hS => ?_)
  have e1 : k.s.vm.findClass ("[" ++ FieldType.char.toString) = some cA := (hK.2 4 _ rfl).2
  have e2 : k.s.vm.findClass ("[" ++ FieldType.char.toString) = some E.2.2.2.1 := (hK.2 2 _ rfl).2
  have e3 : cA = E.2.2.2.1 := Option.some.inj (e1.symm.trans e2)
  subst e3
  exact h q H1 locs ls hP hD hS hl
theorem g_newM (C : Cx k E cc own rm) {x : Int32} {i : Nat} (c0 : Nat) (hx : x = nI c0) (hc : c0 < 134217728) (h1 : Cond.classLink own i "CoilStairs$Moment" ∈ allW) (hcells : n + 1 ≤ rm.cells) (hslots : z + c0 ≤ rm.slots) (d : decode cc pc = .ok (.anewarray i, 3)) (h : ∀ q : Nat, G k E (n + 1) (z + c0) (pc + 3) lv (.ref q :: st) (ws ++ [aM E q c0 (fun _ => none)])) : G k E n z pc lv (.int x :: st) ws := by
  subst hx
  intro H locs ls hP hD hS hl
  have hrm := C.2.2.2.2.2.2.2.1
  have hn : ¬ nI c0 < 0 := by
    rw [Int32.lt_iff_toInt_lt, nI_toInt (by omega)]
    have h0 : (0 : Int32).toInt = 0 := by decide
    omega
  refine va_newq (C := "CoilStairs$Moment") (N' := c0) C.1 C.2.1 C.2.2.2.1 (C.2.2.2.2.1 _ h1) C.2.2.2.2.2.2.2.2.1.2 C.2.2.2.2.2.1 hP hD hS C.2.2.2.2.2.2.1 hn (nI_clamp (by omega)) (by omega) (by rw [hrm]; exact hcells) (by rw [hrm]; exact hslots) d (fun q cA H1 hK hP hD hS => ?_)
  obtain ⟨-, -, -, -, -, e1⟩ : va_RA k.s cA (.object "CoilStairs$Moment") := (hK.2 4 _ rfl).2
  obtain ⟨-, -, -, -, -, e2⟩ : va_RA k.s E.2.2.2.2 (.object "CoilStairs$Moment") := (hK.2 3 _ rfl).2
  have e3 : cA = E.2.2.2.2 := Option.some.inj (e1.symm.trans e2)
  subst e3
  exact h q H1 locs ls hP hD hS hl
end GM
