/-- which array classes there are: of int, of long, of sheets -/
abbrev Gm : Type := va_G × ClassId × ClassId × ClassId
abbrev tyG (Γ : Gm) : List (ClassId × FieldType) := [(Γ.2.1, .int), (Γ.2.2.1, .long), (Γ.2.2.2, .object RX7)]
abbrev rmD (d : Nat) : Room := { frames := d, cells := 0, slots := 0, locals := 35 * d }
/-- locals by their numbers -/
def LV (ls : Array Slot) (nL : Nat) (lv : List (Option Value)) : Prop := ls.size = nL ∧ lv_wf ls ∧ ∀ (i : Nat) (v : Value), lv[i]? = some (some v) → ls[i]? = some (.val v)
def lvp : Nat → List (Option Value) → List (Nat × Value)
  | _, [] => []
  | k, none :: t => lvp (k + 1) t
  | k, some v :: t => (k, v) :: lvp (k + 1) t
theorem lvp_in : ∀ (lv : List (Option Value)) (k i : Nat) (v : Value), lv[i]? = some (some v) → (k + i, v) ∈ lvp k lv
  | [], k, i, v, h => by simp at h
  | none :: t, k, 0, v, h => by simp at h
  | none :: t, k, i + 1, v, h => by
    have := lvp_in t (k + 1) i v (by simpa using h)
    rw [show k + (i + 1) = k + 1 + i by omega]
    exact this
  | some w :: t, k, 0, v, h => by
    simp at h
    subst h
    exact List.mem_cons_self
  | some w :: t, k, i + 1, v, h => by
    have := lvp_in t (k + 1) i v (by simpa using h)
    rw [show k + (i + 1) = k + 1 + i by omega]
    exact List.mem_cons_of_mem _ this
theorem lvp_of : ∀ (lv : List (Option Value)) (k : Nat) (q : Nat × Value), q ∈ lvp k lv → ∃ i, q.1 = k + i ∧ lv[i]? = some (some q.2)
  | [], k, q, h => by cases h
  | none :: t, k, q, h => by
    obtain ⟨i, h1, h2⟩ := lvp_of t (k + 1) q h
    exact ⟨i + 1, by omega, by simpa using h2⟩
  | some w :: t, k, q, h => by
    rcases List.mem_cons.mp h with rfl | h
    · exact ⟨0, rfl, rfl⟩
    · obtain ⟨i, h1, h2⟩ := lvp_of t (k + 1) q h
      exact ⟨i + 1, by omega, by simpa using h2⟩
theorem LV.has {ls : Array Slot} {nL : Nat} {lv : List (Option Value)} (h : LV ls nL lv) : lv_has ls nL (lvp 0 lv) := ⟨h.1, h.2.1, fun q hq => by
  obtain ⟨i, h1, h2⟩ := lvp_of lv 0 q hq
  rw [h1, Nat.zero_add]
  exact h.2.2 i _ h2⟩
/-- no long lies just ahead of place i -/
def okst (lv : List (Option Value)) : Nat → Bool
  | 0 => true
  | j + 1 => match lv[j]? with
    | some (some (.long _)) => false
    | some (some (.double _)) => false
    | _ => true
theorem okst_spec {lv : List (Option Value)} {i j : Nat} {v : Value} (h : okst lv i = true) (hj : j + 1 = i) (hv : lv[j]? = some (some v)) : (v.category == 2) = false := by
  subst hj
  simp only [okst, hv] at h
  cases v <;> first | rfl | (simp at h)
theorem LV.st1 {ls : Array Slot} {nL : Nat} {lv : List (Option Value)} {i : Nat} {v : Value} (hok : okst lv i = true) (h : lv_has ls nL ((i, v) :: (lvp 0 lv).filter (fun q => !(q.1 == i) && !(q.1 + 1 == i && q.2.category == 2)))) : LV ls nL (lv.set i (some v)) := by
  refine ⟨h.1, h.2.1, fun j w hj => ?_⟩
  by_cases hij : i = j
  · subst hij
    have hl : i < lv.length := by
      have := (List.getElem?_eq_some_iff.mp hj).1
      simpa using this
    rw [List.getElem?_set_self hl] at hj
    cases hj
    exact h.2.2 (i, v) List.mem_cons_self
  · rw [List.getElem?_set_ne hij] at hj
    have hm := lvp_in lv 0 j w hj
    rw [Nat.zero_add] at hm
    refine h.2.2 (j, w) (List.mem_cons_of_mem _ (List.mem_filter.mpr ⟨hm, ?_⟩))
    have h1 : (j == i) = false := by simpa using fun q => hij q.symm
    by_cases h2 : j + 1 = i
    · simp [h1, okst_spec hok h2 hj]
    · simp [h1, h2]
theorem LV.st2 {ls : Array Slot} {nL : Nat} {lv : List (Option Value)} {i : Nat} {v : Value} (hok : okst lv i = true) (h : lv_has ls nL ((i, v) :: (lvp 0 lv).filter (fun q => !(q.1 == i) && (!(q.1 == i + 1) && !(q.1 + 1 == i && q.2.category == 2))))) : LV ls nL ((lv.set i (some v)).set (i + 1) none) := by
  refine ⟨h.1, h.2.1, fun j w hj => ?_⟩
  by_cases hj1 : i + 1 = j
  · subst hj1
    have hl : i + 1 < (lv.set i (some v)).length := by
      have := (List.getElem?_eq_some_iff.mp hj).1
      simpa using this
    rw [List.getElem?_set_self hl] at hj
    cases hj
  rw [List.getElem?_set_ne hj1] at hj
  by_cases hij : i = j
  · subst hij
    have hl : i < lv.length := by
      have := (List.getElem?_eq_some_iff.mp hj).1
      simpa using this
    rw [List.getElem?_set_self hl] at hj
    cases hj
    exact h.2.2 (i, v) List.mem_cons_self
  · rw [List.getElem?_set_ne hij] at hj
    have hm := lvp_in lv 0 j w hj
    rw [Nat.zero_add] at hm
    refine h.2.2 (j, w) (List.mem_cons_of_mem _ (List.mem_filter.mpr ⟨hm, ?_⟩))
    have h1 : (j == i) = false := by simpa using fun q => hij q.symm
    have h3 : (j == i + 1) = false := by simpa using fun q => hj1 q.symm
    by_cases h2 : j + 1 = i
    · simp [h1, h3, okst_spec hok h2 hj]
    · simp [h1, h2, h3]
/-- what a walk needs all along: the machine, the code, the words, the classes, the room -/
def Cx (p : Program) (R : Room) (s : State) (m : MethodId) (args : Array Value) (meth : Method) (c : Code) (cc : ByteArray) (own : String) (nL : Nat) (Γ : Gm) (A : Nat → Prop) (dd : Nat) : Prop :=
  p.tables.exec = Jvm.exec ∧ c.code = cc ∧ c.maxLocals = nL ∧ s.vm.findClass own = some m.cls ∧ (∀ w ∈ Tg, w.before args s = true) ∧ va_K Γ.1 vwCl (tyG Γ) s ∧ (∀ q, s.heap.size ≤ q → A q) ∧ meth.locks = false ∧ dd ≤ R.frames ∧ 35 * dd ≤ R.locals
section WWs
variable {p : Program} {l : Launch} {e : Env} {R : Room} {s : State} {m : MethodId} {args : Array Value} {below : List Frame} {meth : Method} {c : Code} {cells slots : Nat} {Q : State → Prop} {Γ : Gm} {A : Nat → Prop} {nL dd : Nat} {cc : ByteArray} {own : String} {ws : va_W} {pc : Nat} {lv : List (Option Value)} {st : List Value}
/-- the machine at pc, with a world, locals, a stack, comes to a state with Q -/
def WW (p : Program) (l : Launch) (e : Env) (R : Room) (s : State) (m : MethodId) (args : Array Value) (below : List Frame) (meth : Method) (c : Code) (cells slots : Nat) (Q : State → Prop) (Γ : Gm) (A : Nat → Prop) (nL : Nat) (ws : va_W) (pc : Nat) (lv : List (Option Value)) (st : List Value) : Prop :=
  ∀ (H : Heap) (locs : List Loc) (ls : Array Slot), va_P Γ.1 vwCl ws H → va_D A ws → va_S A s.heap H locs → LV ls nL lv → W p l e R s m args below meth c H locs cells slots Q (F0 m pc ls st)
theorem ww_eq {ws' : va_W} {lv' : List (Option Value)} {st' : List Value} (h1 : ws = ws') (h2 : lv = lv') (h3 : st = st') (k : WW p l e R s m args below meth c cells slots Q Γ A nL ws' pc lv' st') : WW p l e R s m args below meth c cells slots Q Γ A nL ws pc lv st := by
  subst h1; subst h2; subst h3; exact k
/-- fewer locals may be known -/
def lvle : List (Option Value) → List (Option Value) → Prop := fun a b => ∀ (i : Nat) (v : Value), a[i]? = some (some v) → b[i]? = some (some v)
theorem ww_lv {lv' : List (Option Value)} (h : lvle lv' lv) (k : WW p l e R s m args below meth c cells slots Q Γ A nL ws pc lv' st) : WW p l e R s m args below meth c cells slots Q Γ A nL ws pc lv st :=
  fun H locs ls hP hD hS hl => k H locs ls hP hD hS ⟨hl.1, hl.2.1, fun i v hi => hl.2.2 i v (h i v hi)⟩
theorem lvle_nil : lvle [] lv := fun i v h => by simp at h
theorem lvle_none {a b : List (Option Value)} {x : Option Value} (h : lvle a b) : lvle (none :: a) (x :: b) := fun i v hi => by
  cases i with
  | zero => simp at hi
  | succ i => simpa using h i v (by simpa using hi)
theorem lvle_same {a b : List (Option Value)} {x : Option Value} (h : lvle a b) : lvle (x :: a) (x :: b) := fun i v hi => by
  cases i with
  | zero => simpa using hi
  | succ i => simpa using h i v (by simpa using hi)
theorem ww_topi {x : Int32} (k : ∀ y : Int32, y = x → WW p l e R s m args below meth c cells slots Q Γ A nL ws pc lv (.int y :: st)) : WW p l e R s m args below meth c cells slots Q Γ A nL ws pc lv (.int x :: st) := k x rfl
theorem ww_topl {x : Int64} (k : ∀ y : Int64, y = x → WW p l e R s m args below meth c cells slots Q Γ A nL ws pc lv (.long y :: st)) : WW p l e R s m args below meth c cells slots Q Γ A nL ws pc lv (.long x :: st) := k x rfl

theorem ww_iconst (C : Cx p R s m args meth c cc own nL Γ A dd) {n : Int} {v : Int32} (hd : decode cc pc = .ok (.iconst n, 1)) (hv : Int32.ofInt n = v) (pc2 : Nat) (hpc : pc + 1 = pc2) (k : WW p l e R s m args below meth c cells slots Q Γ A nL ws pc2 lv (.int v :: st)) : WW p l e R s m args below meth c cells slots Q Γ A nL ws pc lv st := by
  subst hpc
  exact fun H locs ls hP hD hS hl => lv_iconst C.1 C.2.1 hd hv (k H locs ls hP hD hS hl)
theorem ww_bipush (C : Cx p R s m args meth c cc own nL Γ A dd) {n : Int} {v : Int32} (hd : decode cc pc = .ok (.bipush n, 2)) (hv : (Int8.ofInt n).toInt32 = v) (pc2 : Nat) (hpc : pc + 2 = pc2) (k : WW p l e R s m args below meth c cells slots Q Γ A nL ws pc2 lv (.int v :: st)) : WW p l e R s m args below meth c cells slots Q Γ A nL ws pc lv st := by
  subst hpc
  exact fun H locs ls hP hD hS hl => lv_bipush C.1 C.2.1 hd hv (k H locs ls hP hD hS hl)
theorem ww_sipush (C : Cx p R s m args meth c cc own nL Γ A dd) {n : Int} {v : Int32} (hd : decode cc pc = .ok (.sipush n, 3)) (hv : (Int16.ofInt n).toInt32 = v) (pc2 : Nat) (hpc : pc + 3 = pc2) (k : WW p l e R s m args below meth c cells slots Q Γ A nL ws pc2 lv (.int v :: st)) : WW p l e R s m args below meth c cells slots Q Γ A nL ws pc lv st := by
  subst hpc
  exact fun H locs ls hP hD hS hl => lv_sipush C.1 C.2.1 hd hv (k H locs ls hP hD hS hl)
theorem ww_lconst (C : Cx p R s m args meth c cc own nL Γ A dd) {n : Fin 2} {v : Int64} (hd : decode cc pc = .ok (.lconst n, 1)) (hv : Int64.ofNat (n : Nat) = v) (pc2 : Nat) (hpc : pc + 1 = pc2) (k : WW p l e R s m args below meth c cells slots Q Γ A nL ws pc2 lv (.long v :: st)) : WW p l e R s m args below meth c cells slots Q Γ A nL ws pc lv st := by
  subst hpc
  exact fun H locs ls hP hD hS hl => lv_lconst C.1 C.2.1 hd hv (k H locs ls hP hD hS hl)
theorem ww_ldc (C : Cx p R s m args meth c cc own nL Γ A dd) {index : Nat} {v : Int32} (hw : Cond.constant own index v ∈ Tg) (hd : decode cc pc = .ok (.ldc index, 2)) (pc2 : Nat) (hpc : pc + 2 = pc2) (k : WW p l e R s m args below meth c cells slots Q Γ A nL ws pc2 lv (.int v :: st)) : WW p l e R s m args below meth c cells slots Q Γ A nL ws pc lv st := by
  subst hpc
  exact fun H locs ls hP hD hS hl => lv_ldc C.1 C.2.1 C.2.2.2.1 (C.2.2.2.2.1 _ hw) hd (k H locs ls hP hD hS hl)
theorem ww_ldcw (C : Cx p R s m args meth c cc own nL Γ A dd) {index : Nat} {v : Int32} (hw : Cond.constant own index v ∈ Tg) (hd : decode cc pc = .ok (.ldc_w index, 3)) (pc2 : Nat) (hpc : pc + 3 = pc2) (k : WW p l e R s m args below meth c cells slots Q Γ A nL ws pc2 lv (.int v :: st)) : WW p l e R s m args below meth c cells slots Q Γ A nL ws pc lv st := by
  subst hpc
  exact fun H locs ls hP hD hS hl => lv_ldcw C.1 C.2.1 C.2.2.2.1 (C.2.2.2.2.1 _ hw) hd (k H locs ls hP hD hS hl)
theorem ww_ldc2 (C : Cx p R s m args meth c cc own nL Γ A dd) {index : Nat} {v : Int64} (hw : Cond.constantLong own index v ∈ Tg) (hd : decode cc pc = .ok (.ldc2_w index, 3)) (pc2 : Nat) (hpc : pc + 3 = pc2) (k : WW p l e R s m args below meth c cells slots Q Γ A nL ws pc2 lv (.long v :: st)) : WW p l e R s m args below meth c cells slots Q Γ A nL ws pc lv st := by
  subst hpc
  exact fun H locs ls hP hD hS hl => lv_ldc2 C.1 C.2.1 C.2.2.2.1 (C.2.2.2.2.1 _ hw) hd (k H locs ls hP hD hS hl)
theorem ww_iload_n (C : Cx p R s m args meth c cc own nL Γ A dd) {k0 : Fin 4} {i : Nat} {x : Int32} (hd : decode cc pc = .ok (.iload_n k0, 1)) (hi : (k0 : Nat) = i) (hv : lv[i]? = some (some (.int x))) (pc2 : Nat) (hpc : pc + 1 = pc2) (k : WW p l e R s m args below meth c cells slots Q Γ A nL ws pc2 lv (.int x :: st)) : WW p l e R s m args below meth c cells slots Q Γ A nL ws pc lv st := by
  subst hpc
  exact fun H locs ls hP hD hS hl => lv_iload_n C.1 C.2.1 hd hi (hl.2.2 _ _ hv) (k H locs ls hP hD hS hl)
theorem ww_iload (C : Cx p R s m args meth c cc own nL Γ A dd) {i : Nat} {x : Int32} (hd : decode cc pc = .ok (.iload i, 2)) (hv : lv[i]? = some (some (.int x))) (pc2 : Nat) (hpc : pc + 2 = pc2) (k : WW p l e R s m args below meth c cells slots Q Γ A nL ws pc2 lv (.int x :: st)) : WW p l e R s m args below meth c cells slots Q Γ A nL ws pc lv st := by
  subst hpc
  exact fun H locs ls hP hD hS hl => lv_iload C.1 C.2.1 hd (hl.2.2 _ _ hv) (k H locs ls hP hD hS hl)
theorem ww_lload_n (C : Cx p R s m args meth c cc own nL Γ A dd) {k0 : Fin 4} {i : Nat} {x : Int64} (hd : decode cc pc = .ok (.lload_n k0, 1)) (hi : (k0 : Nat) = i) (hv : lv[i]? = some (some (.long x))) (pc2 : Nat) (hpc : pc + 1 = pc2) (k : WW p l e R s m args below meth c cells slots Q Γ A nL ws pc2 lv (.long x :: st)) : WW p l e R s m args below meth c cells slots Q Γ A nL ws pc lv st := by
  subst hpc
  exact fun H locs ls hP hD hS hl => lv_lload_n C.1 C.2.1 hd hi (hl.2.2 _ _ hv) (k H locs ls hP hD hS hl)
theorem ww_lload (C : Cx p R s m args meth c cc own nL Γ A dd) {i : Nat} {x : Int64} (hd : decode cc pc = .ok (.lload i, 2)) (hv : lv[i]? = some (some (.long x))) (pc2 : Nat) (hpc : pc + 2 = pc2) (k : WW p l e R s m args below meth c cells slots Q Γ A nL ws pc2 lv (.long x :: st)) : WW p l e R s m args below meth c cells slots Q Γ A nL ws pc lv st := by
  subst hpc
  exact fun H locs ls hP hD hS hl => lv_lload C.1 C.2.1 hd (hl.2.2 _ _ hv) (k H locs ls hP hD hS hl)
theorem ww_aload_n (C : Cx p R s m args meth c cc own nL Γ A dd) {k0 : Fin 4} {i : Nat} {x : Nat} (hd : decode cc pc = .ok (.aload_n k0, 1)) (hi : (k0 : Nat) = i) (hv : lv[i]? = some (some (.ref x))) (pc2 : Nat) (hpc : pc + 1 = pc2) (k : WW p l e R s m args below meth c cells slots Q Γ A nL ws pc2 lv (.ref x :: st)) : WW p l e R s m args below meth c cells slots Q Γ A nL ws pc lv st := by
  subst hpc
  exact fun H locs ls hP hD hS hl => lv_aload_n C.1 C.2.1 hd hi (hl.2.2 _ _ hv) (k H locs ls hP hD hS hl)
theorem ww_aload (C : Cx p R s m args meth c cc own nL Γ A dd) {i : Nat} {x : Nat} (hd : decode cc pc = .ok (.aload i, 2)) (hv : lv[i]? = some (some (.ref x))) (pc2 : Nat) (hpc : pc + 2 = pc2) (k : WW p l e R s m args below meth c cells slots Q Γ A nL ws pc2 lv (.ref x :: st)) : WW p l e R s m args below meth c cells slots Q Γ A nL ws pc lv st := by
  subst hpc
  exact fun H locs ls hP hD hS hl => lv_aload C.1 C.2.1 hd (hl.2.2 _ _ hv) (k H locs ls hP hD hS hl)
theorem ww_istore_n (C : Cx p R s m args meth c cc own nL Γ A dd) {k0 : Fin 4} {i : Nat} {x : Int32} (hd : decode cc pc = .ok (.istore_n k0, 1)) (hi : (k0 : Nat) = i) (hn : i < nL) (hok : okst lv i = true) (pc2 : Nat) (hpc : pc + 1 = pc2) (k : WW p l e R s m args below meth c cells slots Q Γ A nL ws pc2 (lv.set i (some (Value.int x))) st) : WW p l e R s m args below meth c cells slots Q Γ A nL ws pc lv (Value.int x :: st) := by
  subst hpc
  exact fun H locs ls hP hD hS hl => lv_istore_n C.1 C.2.1 hd hi hl.has hn rfl (fun ls hl => k H locs ls hP hD hS (LV.st1 hok hl))
theorem ww_istore (C : Cx p R s m args meth c cc own nL Γ A dd) {i : Nat} {x : Int32} (hd : decode cc pc = .ok (.istore i, 2)) (hn : i < nL) (hok : okst lv i = true) (pc2 : Nat) (hpc : pc + 2 = pc2) (k : WW p l e R s m args below meth c cells slots Q Γ A nL ws pc2 (lv.set i (some (Value.int x))) st) : WW p l e R s m args below meth c cells slots Q Γ A nL ws pc lv (Value.int x :: st) := by
  subst hpc
  exact fun H locs ls hP hD hS hl => lv_istore C.1 C.2.1 hd hl.has hn rfl (fun ls hl => k H locs ls hP hD hS (LV.st1 hok hl))
theorem ww_astore_n (C : Cx p R s m args meth c cc own nL Γ A dd) {k0 : Fin 4} {i : Nat} {x : Nat} (hd : decode cc pc = .ok (.astore_n k0, 1)) (hi : (k0 : Nat) = i) (hn : i < nL) (hok : okst lv i = true) (pc2 : Nat) (hpc : pc + 1 = pc2) (k : WW p l e R s m args below meth c cells slots Q Γ A nL ws pc2 (lv.set i (some (Value.ref x))) st) : WW p l e R s m args below meth c cells slots Q Γ A nL ws pc lv (Value.ref x :: st) := by
  subst hpc
  exact fun H locs ls hP hD hS hl => lv_astore_n C.1 C.2.1 hd hi hl.has hn rfl (fun ls hl => k H locs ls hP hD hS (LV.st1 hok hl))
theorem ww_astore (C : Cx p R s m args meth c cc own nL Γ A dd) {i : Nat} {x : Nat} (hd : decode cc pc = .ok (.astore i, 2)) (hn : i < nL) (hok : okst lv i = true) (pc2 : Nat) (hpc : pc + 2 = pc2) (k : WW p l e R s m args below meth c cells slots Q Γ A nL ws pc2 (lv.set i (some (Value.ref x))) st) : WW p l e R s m args below meth c cells slots Q Γ A nL ws pc lv (Value.ref x :: st) := by
  subst hpc
  exact fun H locs ls hP hD hS hl => lv_astore C.1 C.2.1 hd hl.has hn rfl (fun ls hl => k H locs ls hP hD hS (LV.st1 hok hl))
theorem ww_lstore_n (C : Cx p R s m args meth c cc own nL Γ A dd) {k0 : Fin 4} {i : Nat} {x : Int64} (hd : decode cc pc = .ok (.lstore_n k0, 1)) (hi : (k0 : Nat) = i) (hn : i + 1 < nL) (hok : okst lv i = true) (pc2 : Nat) (hpc : pc + 1 = pc2) (k : WW p l e R s m args below meth c cells slots Q Γ A nL ws pc2 ((lv.set i (some (Value.long x))).set (i + 1) none) st) : WW p l e R s m args below meth c cells slots Q Γ A nL ws pc lv (Value.long x :: st) := by
  subst hpc
  exact fun H locs ls hP hD hS hl => lv_lstore_n C.1 C.2.1 hd hi hl.has hn rfl (fun ls hl => k H locs ls hP hD hS (LV.st2 hok hl))
theorem ww_lstore (C : Cx p R s m args meth c cc own nL Γ A dd) {i : Nat} {x : Int64} (hd : decode cc pc = .ok (.lstore i, 2)) (hn : i + 1 < nL) (hok : okst lv i = true) (pc2 : Nat) (hpc : pc + 2 = pc2) (k : WW p l e R s m args below meth c cells slots Q Γ A nL ws pc2 ((lv.set i (some (Value.long x))).set (i + 1) none) st) : WW p l e R s m args below meth c cells slots Q Γ A nL ws pc lv (Value.long x :: st) := by
  subst hpc
  exact fun H locs ls hP hD hS hl => lv_lstore C.1 C.2.1 hd hl.has hn rfl (fun ls hl => k H locs ls hP hD hS (LV.st2 hok hl))
theorem ww_iinc (C : Cx p R s m args meth c cc own nL Γ A dd) {i : Nat} {n : Int} {x y : Int32} (hd : decode cc pc = .ok (.iinc i n, 3)) (hv : lv[i]? = some (some (.int x))) (hy : Int32.ofInt n = y) (hn : i < nL) (hok : okst lv i = true) (pc2 : Nat) (hpc : pc + 3 = pc2) (k : WW p l e R s m args below meth c cells slots Q Γ A nL ws pc2 (lv.set i (some (.int (x + y)))) st) : WW p l e R s m args below meth c cells slots Q Γ A nL ws pc lv st := by
  subst hpc
  intro H locs ls hP hD hS hl
  have hm := lvp_in lv 0 i _ hv
  rw [Nat.zero_add] at hm
  obtain ⟨q, hq⟩ := List.getElem?_of_mem hm
  exact lv_iinc C.1 C.2.1 hd hl.has hq (by rw [hy]) hn rfl (fun ls hl => k H locs ls hP hD hS (LV.st1 hok hl))
theorem ww_iadd (C : Cx p R s m args meth c cc own nL Γ A dd) {x y : Int32} (hd : decode cc pc = .ok (.iadd, 1)) (pc2 : Nat) (hpc : pc + 1 = pc2) (k : WW p l e R s m args below meth c cells slots Q Γ A nL ws pc2 lv (.int (x + y) :: st)) : WW p l e R s m args below meth c cells slots Q Γ A nL ws pc lv (.int y :: .int x :: st) := by
  subst hpc
  exact fun H locs ls hP hD hS hl => lv_iadd C.1 C.2.1 hd (k H locs ls hP hD hS hl)
theorem ww_isub (C : Cx p R s m args meth c cc own nL Γ A dd) {x y : Int32} (hd : decode cc pc = .ok (.isub, 1)) (pc2 : Nat) (hpc : pc + 1 = pc2) (k : WW p l e R s m args below meth c cells slots Q Γ A nL ws pc2 lv (.int (x - y) :: st)) : WW p l e R s m args below meth c cells slots Q Γ A nL ws pc lv (.int y :: .int x :: st) := by
  subst hpc
  exact fun H locs ls hP hD hS hl => lv_isub C.1 C.2.1 hd (k H locs ls hP hD hS hl)
theorem ww_imul (C : Cx p R s m args meth c cc own nL Γ A dd) {x y : Int32} (hd : decode cc pc = .ok (.imul, 1)) (pc2 : Nat) (hpc : pc + 1 = pc2) (k : WW p l e R s m args below meth c cells slots Q Γ A nL ws pc2 lv (.int (x * y) :: st)) : WW p l e R s m args below meth c cells slots Q Γ A nL ws pc lv (.int y :: .int x :: st) := by
  subst hpc
  exact fun H locs ls hP hD hS hl => lv_imul C.1 C.2.1 hd (k H locs ls hP hD hS hl)
theorem ww_iand (C : Cx p R s m args meth c cc own nL Γ A dd) {x y : Int32} (hd : decode cc pc = .ok (.iand, 1)) (pc2 : Nat) (hpc : pc + 1 = pc2) (k : WW p l e R s m args below meth c cells slots Q Γ A nL ws pc2 lv (.int (x &&& y) :: st)) : WW p l e R s m args below meth c cells slots Q Γ A nL ws pc lv (.int y :: .int x :: st) := by
  subst hpc
  exact fun H locs ls hP hD hS hl => lv_iand C.1 C.2.1 hd (k H locs ls hP hD hS hl)
theorem ww_ior (C : Cx p R s m args meth c cc own nL Γ A dd) {x y : Int32} (hd : decode cc pc = .ok (.ior, 1)) (pc2 : Nat) (hpc : pc + 1 = pc2) (k : WW p l e R s m args below meth c cells slots Q Γ A nL ws pc2 lv (.int (x ||| y) :: st)) : WW p l e R s m args below meth c cells slots Q Γ A nL ws pc lv (.int y :: .int x :: st) := by
  subst hpc
  exact fun H locs ls hP hD hS hl => lv_ior C.1 C.2.1 hd (k H locs ls hP hD hS hl)
theorem ww_ixor (C : Cx p R s m args meth c cc own nL Γ A dd) {x y : Int32} (hd : decode cc pc = .ok (.ixor, 1)) (pc2 : Nat) (hpc : pc + 1 = pc2) (k : WW p l e R s m args below meth c cells slots Q Γ A nL ws pc2 lv (.int (x ^^^ y) :: st)) : WW p l e R s m args below meth c cells slots Q Γ A nL ws pc lv (.int y :: .int x :: st) := by
  subst hpc
  exact fun H locs ls hP hD hS hl => lv_ixor C.1 C.2.1 hd (k H locs ls hP hD hS hl)
theorem ww_ishl (C : Cx p R s m args meth c cc own nL Γ A dd) {x y : Int32} (hd : decode cc pc = .ok (.ishl, 1)) (pc2 : Nat) (hpc : pc + 1 = pc2) (k : WW p l e R s m args below meth c cells slots Q Γ A nL ws pc2 lv (.int (x <<< (y &&& 31)) :: st)) : WW p l e R s m args below meth c cells slots Q Γ A nL ws pc lv (.int y :: .int x :: st) := by
  subst hpc
  exact fun H locs ls hP hD hS hl => lv_ishl C.1 C.2.1 hd (k H locs ls hP hD hS hl)
theorem ww_ishr (C : Cx p R s m args meth c cc own nL Γ A dd) {x y : Int32} (hd : decode cc pc = .ok (.ishr, 1)) (pc2 : Nat) (hpc : pc + 1 = pc2) (k : WW p l e R s m args below meth c cells slots Q Γ A nL ws pc2 lv (.int (x >>> (y &&& 31)) :: st)) : WW p l e R s m args below meth c cells slots Q Γ A nL ws pc lv (.int y :: .int x :: st) := by
  subst hpc
  exact fun H locs ls hP hD hS hl => lv_ishr C.1 C.2.1 hd (k H locs ls hP hD hS hl)
theorem ww_ineg (C : Cx p R s m args meth c cc own nL Γ A dd) {x : Int32} (hd : decode cc pc = .ok (.ineg, 1)) (pc2 : Nat) (hpc : pc + 1 = pc2) (k : WW p l e R s m args below meth c cells slots Q Γ A nL ws pc2 lv (.int (-x) :: st)) : WW p l e R s m args below meth c cells slots Q Γ A nL ws pc lv (.int x :: st) := by
  subst hpc
  exact fun H locs ls hP hD hS hl => lv_ineg C.1 C.2.1 hd (k H locs ls hP hD hS hl)
theorem ww_irem (C : Cx p R s m args meth c cc own nL Γ A dd) {x y : Int32} (hd : decode cc pc = .ok (.irem, 1)) (hne : ¬ y = 0) (pc2 : Nat) (hpc : pc + 1 = pc2) (k : WW p l e R s m args below meth c cells slots Q Γ A nL ws pc2 lv (.int (x - x / y * y) :: st)) : WW p l e R s m args below meth c cells slots Q Γ A nL ws pc lv (.int y :: .int x :: st) := by
  subst hpc
  exact fun H locs ls hP hD hS hl => lv_irem C.1 C.2.1 hd hne (k H locs ls hP hD hS hl)
theorem ww_ladd (C : Cx p R s m args meth c cc own nL Γ A dd) {x y : Int64} (hd : decode cc pc = .ok (.ladd, 1)) (pc2 : Nat) (hpc : pc + 1 = pc2) (k : WW p l e R s m args below meth c cells slots Q Γ A nL ws pc2 lv (.long (x + y) :: st)) : WW p l e R s m args below meth c cells slots Q Γ A nL ws pc lv (.long y :: .long x :: st) := by
  subst hpc
  exact fun H locs ls hP hD hS hl => lv_ladd C.1 C.2.1 hd (k H locs ls hP hD hS hl)
theorem ww_lsub (C : Cx p R s m args meth c cc own nL Γ A dd) {x y : Int64} (hd : decode cc pc = .ok (.lsub, 1)) (pc2 : Nat) (hpc : pc + 1 = pc2) (k : WW p l e R s m args below meth c cells slots Q Γ A nL ws pc2 lv (.long (x - y) :: st)) : WW p l e R s m args below meth c cells slots Q Γ A nL ws pc lv (.long y :: .long x :: st) := by
  subst hpc
  exact fun H locs ls hP hD hS hl => lv_lsub C.1 C.2.1 hd (k H locs ls hP hD hS hl)
theorem ww_land (C : Cx p R s m args meth c cc own nL Γ A dd) {x y : Int64} (hd : decode cc pc = .ok (.land, 1)) (pc2 : Nat) (hpc : pc + 1 = pc2) (k : WW p l e R s m args below meth c cells slots Q Γ A nL ws pc2 lv (.long (x &&& y) :: st)) : WW p l e R s m args below meth c cells slots Q Γ A nL ws pc lv (.long y :: .long x :: st) := by
  subst hpc
  exact fun H locs ls hP hD hS hl => lv_land C.1 C.2.1 hd (k H locs ls hP hD hS hl)
theorem ww_lor (C : Cx p R s m args meth c cc own nL Γ A dd) {x y : Int64} (hd : decode cc pc = .ok (.lor, 1)) (pc2 : Nat) (hpc : pc + 1 = pc2) (k : WW p l e R s m args below meth c cells slots Q Γ A nL ws pc2 lv (.long (x ||| y) :: st)) : WW p l e R s m args below meth c cells slots Q Γ A nL ws pc lv (.long y :: .long x :: st) := by
  subst hpc
  exact fun H locs ls hP hD hS hl => lv_lor C.1 C.2.1 hd (k H locs ls hP hD hS hl)
theorem ww_lxor (C : Cx p R s m args meth c cc own nL Γ A dd) {x y : Int64} (hd : decode cc pc = .ok (.lxor, 1)) (pc2 : Nat) (hpc : pc + 1 = pc2) (k : WW p l e R s m args below meth c cells slots Q Γ A nL ws pc2 lv (.long (x ^^^ y) :: st)) : WW p l e R s m args below meth c cells slots Q Γ A nL ws pc lv (.long y :: .long x :: st) := by
  subst hpc
  exact fun H locs ls hP hD hS hl => lv_lxor C.1 C.2.1 hd (k H locs ls hP hD hS hl)
theorem ww_i2l (C : Cx p R s m args meth c cc own nL Γ A dd) {x : Int32} (hd : decode cc pc = .ok (.i2l, 1)) (pc2 : Nat) (hpc : pc + 1 = pc2) (k : WW p l e R s m args below meth c cells slots Q Γ A nL ws pc2 lv (.long x.toInt64 :: st)) : WW p l e R s m args below meth c cells slots Q Γ A nL ws pc lv (.int x :: st) := by
  subst hpc
  exact fun H locs ls hP hD hS hl => lv_i2l C.1 C.2.1 hd rfl (k H locs ls hP hD hS hl)
theorem ww_l2i (C : Cx p R s m args meth c cc own nL Γ A dd) {x : Int64} (hd : decode cc pc = .ok (.l2i, 1)) (pc2 : Nat) (hpc : pc + 1 = pc2) (k : WW p l e R s m args below meth c cells slots Q Γ A nL ws pc2 lv (.int x.toInt32 :: st)) : WW p l e R s m args below meth c cells slots Q Γ A nL ws pc lv (.long x :: st) := by
  subst hpc
  exact fun H locs ls hP hD hS hl => lv_l2i C.1 C.2.1 hd rfl (k H locs ls hP hD hS hl)
theorem ww_i2b (C : Cx p R s m args meth c cc own nL Γ A dd) {x : Int32} (hd : decode cc pc = .ok (.i2b, 1)) (pc2 : Nat) (hpc : pc + 1 = pc2) (k : WW p l e R s m args below meth c cells slots Q Γ A nL ws pc2 lv (.int x.toInt8.toInt32 :: st)) : WW p l e R s m args below meth c cells slots Q Γ A nL ws pc lv (.int x :: st) := by
  subst hpc
  exact fun H locs ls hP hD hS hl => lv_i2b C.1 C.2.1 hd rfl (k H locs ls hP hD hS hl)
theorem ww_i2s (C : Cx p R s m args meth c cc own nL Γ A dd) {x : Int32} (hd : decode cc pc = .ok (.i2s, 1)) (pc2 : Nat) (hpc : pc + 1 = pc2) (k : WW p l e R s m args below meth c cells slots Q Γ A nL ws pc2 lv (.int x.toInt16.toInt32 :: st)) : WW p l e R s m args below meth c cells slots Q Γ A nL ws pc lv (.int x :: st) := by
  subst hpc
  exact fun H locs ls hP hD hS hl => lv_i2s C.1 C.2.1 hd rfl (k H locs ls hP hD hS hl)
abbrev iushrI (x y : Int32) : Int32 := (x.toUInt32 >>> (y.toUInt32 &&& Int32.toUInt32 31)).toInt32
abbrev lushrI (x : Int64) (y : Int32) : Int64 := (x.toUInt64 >>> (y.toInt64.toUInt64 &&& Int64.toUInt64 63)).toInt64
theorem ww_iushr (C : Cx p R s m args meth c cc own nL Γ A dd) {x y : Int32} (hd : decode cc pc = .ok (.iushr, 1)) (pc2 : Nat) (hpc : pc + 1 = pc2) (k : WW p l e R s m args below meth c cells slots Q Γ A nL ws pc2 lv (.int (iushrI x y) :: st)) : WW p l e R s m args below meth c cells slots Q Γ A nL ws pc lv (.int y :: .int x :: st) := by
  subst hpc
  exact fun H locs ls hP hD hS hl => lv_iushr C.1 C.2.1 hd rfl (k H locs ls hP hD hS hl)
theorem ww_lushr (C : Cx p R s m args meth c cc own nL Γ A dd) {x : Int64} {y : Int32} (hd : decode cc pc = .ok (.lushr, 1)) (pc2 : Nat) (hpc : pc + 1 = pc2) (k : WW p l e R s m args below meth c cells slots Q Γ A nL ws pc2 lv (.long (lushrI x y) :: st)) : WW p l e R s m args below meth c cells slots Q Γ A nL ws pc lv (.int y :: .long x :: st) := by
  subst hpc
  exact fun H locs ls hP hD hS hl => lv_lushr C.1 C.2.1 hd rfl (k H locs ls hP hD hS hl)
theorem ww_lshl (C : Cx p R s m args meth c cc own nL Γ A dd) {x : Int64} {y : Int32} (hd : decode cc pc = .ok (.lshl, 1)) (pc2 : Nat) (hpc : pc + 1 = pc2) (k : WW p l e R s m args below meth c cells slots Q Γ A nL ws pc2 lv (.long (x <<< (y.toInt64 &&& 63)) :: st)) : WW p l e R s m args below meth c cells slots Q Γ A nL ws pc lv (.int y :: .long x :: st) := by
  subst hpc
  exact fun H locs ls hP hD hS hl => lv_lshl C.1 C.2.1 hd rfl (k H locs ls hP hD hS hl)
theorem ww_lshr (C : Cx p R s m args meth c cc own nL Γ A dd) {x : Int64} {y : Int32} (hd : decode cc pc = .ok (.lshr, 1)) (pc2 : Nat) (hpc : pc + 1 = pc2) (k : WW p l e R s m args below meth c cells slots Q Γ A nL ws pc2 lv (.long (x >>> (y.toInt64 &&& 63)) :: st)) : WW p l e R s m args below meth c cells slots Q Γ A nL ws pc lv (.int y :: .long x :: st) := by
  subst hpc
  exact fun H locs ls hP hD hS hl => lv_lshr C.1 C.2.1 hd rfl (k H locs ls hP hD hS hl)
theorem ww_lcmp (C : Cx p R s m args meth c cc own nL Γ A dd) {x y : Int64} (hd : decode cc pc = .ok (.lcmp, 1)) (pc2 : Nat) (hpc : pc + 1 = pc2) (k : WW p l e R s m args below meth c cells slots Q Γ A nL ws pc2 lv (.int (lg_cmp x y) :: st)) : WW p l e R s m args below meth c cells slots Q Γ A nL ws pc lv (.long y :: .long x :: st) := by
  subst hpc
  exact fun H locs ls hP hD hS hl => W.lcmp C.1 C.2.1 hd (k H locs ls hP hD hS hl)
theorem ww_dup (C : Cx p R s m args meth c cc own nL Γ A dd) {v : Value} (hd : decode cc pc = .ok (.dup, 1)) (hv : v.category = 1) (pc2 : Nat) (hpc : pc + 1 = pc2) (k : WW p l e R s m args below meth c cells slots Q Γ A nL ws pc2 lv (v :: v :: st)) : WW p l e R s m args below meth c cells slots Q Γ A nL ws pc lv (v :: st) := by
  subst hpc
  exact fun H locs ls hP hD hS hl => lv_dup C.1 C.2.1 hd hv (k H locs ls hP hD hS hl)
theorem ww_dup2 (C : Cx p R s m args meth c cc own nL Γ A dd) {v w : Value} (hd : decode cc pc = .ok (.dup2, 1)) (hv : v.category = 1) (hw : w.category = 1) (pc2 : Nat) (hpc : pc + 1 = pc2) (k : WW p l e R s m args below meth c cells slots Q Γ A nL ws pc2 lv (v :: w :: v :: w :: st)) : WW p l e R s m args below meth c cells slots Q Γ A nL ws pc lv (v :: w :: st) := by
  subst hpc
  exact fun H locs ls hP hD hS hl => lv_dup2_11 C.1 C.2.1 hd hv hw (k H locs ls hP hD hS hl)
theorem ww_if_eq (C : Cx p R s m args meth c cc own nL Γ A dd) {x : Int32} {off : Int} (tgt : Nat) (hd : decode cc pc = .ok (.ifCond .eq off, 3)) (ht : (pc : Int) + off = (tgt : Int)) (pc2 : Nat) (hpc : pc + 3 = pc2) (kt : x = 0 → WW p l e R s m args below meth c cells slots Q Γ A nL ws tgt lv st) (kf : ¬ (x = 0) → WW p l e R s m args below meth c cells slots Q Γ A nL ws pc2 lv st) : WW p l e R s m args below meth c cells slots Q Γ A nL ws pc lv (.int x :: st) := by
  subst hpc
  exact fun H locs ls hP hD hS hl => lv_if_eq C.1 C.2.1 hd ht (fun h => kt h H locs ls hP hD hS hl) (fun h => kf h H locs ls hP hD hS hl)
theorem ww_icmp_eq (C : Cx p R s m args meth c cc own nL Γ A dd) {x y : Int32} {off : Int} (tgt : Nat) (hd : decode cc pc = .ok (.if_icmp .eq off, 3)) (ht : (pc : Int) + off = (tgt : Int)) (pc2 : Nat) (hpc : pc + 3 = pc2) (kt : x = y → WW p l e R s m args below meth c cells slots Q Γ A nL ws tgt lv st) (kf : ¬ (x = y) → WW p l e R s m args below meth c cells slots Q Γ A nL ws pc2 lv st) : WW p l e R s m args below meth c cells slots Q Γ A nL ws pc lv (.int y :: .int x :: st) := by
  subst hpc
  exact fun H locs ls hP hD hS hl => lv_icmp_eq C.1 C.2.1 hd ht (fun h => kt h H locs ls hP hD hS hl) (fun h => kf h H locs ls hP hD hS hl)
theorem ww_if_ne (C : Cx p R s m args meth c cc own nL Γ A dd) {x : Int32} {off : Int} (tgt : Nat) (hd : decode cc pc = .ok (.ifCond .ne off, 3)) (ht : (pc : Int) + off = (tgt : Int)) (pc2 : Nat) (hpc : pc + 3 = pc2) (kt : ¬ x = 0 → WW p l e R s m args below meth c cells slots Q Γ A nL ws tgt lv st) (kf : x = 0 → WW p l e R s m args below meth c cells slots Q Γ A nL ws pc2 lv st) : WW p l e R s m args below meth c cells slots Q Γ A nL ws pc lv (.int x :: st) := by
  subst hpc
  exact fun H locs ls hP hD hS hl => lv_if_ne C.1 C.2.1 hd ht (fun h => kt h H locs ls hP hD hS hl) (fun h => kf h H locs ls hP hD hS hl)
theorem ww_icmp_ne (C : Cx p R s m args meth c cc own nL Γ A dd) {x y : Int32} {off : Int} (tgt : Nat) (hd : decode cc pc = .ok (.if_icmp .ne off, 3)) (ht : (pc : Int) + off = (tgt : Int)) (pc2 : Nat) (hpc : pc + 3 = pc2) (kt : ¬ x = y → WW p l e R s m args below meth c cells slots Q Γ A nL ws tgt lv st) (kf : x = y → WW p l e R s m args below meth c cells slots Q Γ A nL ws pc2 lv st) : WW p l e R s m args below meth c cells slots Q Γ A nL ws pc lv (.int y :: .int x :: st) := by
  subst hpc
  exact fun H locs ls hP hD hS hl => lv_icmp_ne C.1 C.2.1 hd ht (fun h => kt h H locs ls hP hD hS hl) (fun h => kf h H locs ls hP hD hS hl)
theorem ww_if_lt (C : Cx p R s m args meth c cc own nL Γ A dd) {x : Int32} {off : Int} (tgt : Nat) (hd : decode cc pc = .ok (.ifCond .lt off, 3)) (ht : (pc : Int) + off = (tgt : Int)) (pc2 : Nat) (hpc : pc + 3 = pc2) (kt : x < 0 → WW p l e R s m args below meth c cells slots Q Γ A nL ws tgt lv st) (kf : ¬ (x < 0) → WW p l e R s m args below meth c cells slots Q Γ A nL ws pc2 lv st) : WW p l e R s m args below meth c cells slots Q Γ A nL ws pc lv (.int x :: st) := by
  subst hpc
  exact fun H locs ls hP hD hS hl => lv_if_lt C.1 C.2.1 hd ht (fun h => kt h H locs ls hP hD hS hl) (fun h => kf h H locs ls hP hD hS hl)
theorem ww_icmp_lt (C : Cx p R s m args meth c cc own nL Γ A dd) {x y : Int32} {off : Int} (tgt : Nat) (hd : decode cc pc = .ok (.if_icmp .lt off, 3)) (ht : (pc : Int) + off = (tgt : Int)) (pc2 : Nat) (hpc : pc + 3 = pc2) (kt : x < y → WW p l e R s m args below meth c cells slots Q Γ A nL ws tgt lv st) (kf : ¬ (x < y) → WW p l e R s m args below meth c cells slots Q Γ A nL ws pc2 lv st) : WW p l e R s m args below meth c cells slots Q Γ A nL ws pc lv (.int y :: .int x :: st) := by
  subst hpc
  exact fun H locs ls hP hD hS hl => lv_icmp_lt C.1 C.2.1 hd ht (fun h => kt h H locs ls hP hD hS hl) (fun h => kf h H locs ls hP hD hS hl)
theorem ww_if_ge (C : Cx p R s m args meth c cc own nL Γ A dd) {x : Int32} {off : Int} (tgt : Nat) (hd : decode cc pc = .ok (.ifCond .ge off, 3)) (ht : (pc : Int) + off = (tgt : Int)) (pc2 : Nat) (hpc : pc + 3 = pc2) (kt : 0 ≤ x → WW p l e R s m args below meth c cells slots Q Γ A nL ws tgt lv st) (kf : ¬ (0 ≤ x) → WW p l e R s m args below meth c cells slots Q Γ A nL ws pc2 lv st) : WW p l e R s m args below meth c cells slots Q Γ A nL ws pc lv (.int x :: st) := by
  subst hpc
  exact fun H locs ls hP hD hS hl => lv_if_ge C.1 C.2.1 hd ht (fun h => kt h H locs ls hP hD hS hl) (fun h => kf h H locs ls hP hD hS hl)
theorem ww_icmp_ge (C : Cx p R s m args meth c cc own nL Γ A dd) {x y : Int32} {off : Int} (tgt : Nat) (hd : decode cc pc = .ok (.if_icmp .ge off, 3)) (ht : (pc : Int) + off = (tgt : Int)) (pc2 : Nat) (hpc : pc + 3 = pc2) (kt : y ≤ x → WW p l e R s m args below meth c cells slots Q Γ A nL ws tgt lv st) (kf : ¬ (y ≤ x) → WW p l e R s m args below meth c cells slots Q Γ A nL ws pc2 lv st) : WW p l e R s m args below meth c cells slots Q Γ A nL ws pc lv (.int y :: .int x :: st) := by
  subst hpc
  exact fun H locs ls hP hD hS hl => lv_icmp_ge C.1 C.2.1 hd ht (fun h => kt h H locs ls hP hD hS hl) (fun h => kf h H locs ls hP hD hS hl)
theorem ww_if_gt (C : Cx p R s m args meth c cc own nL Γ A dd) {x : Int32} {off : Int} (tgt : Nat) (hd : decode cc pc = .ok (.ifCond .gt off, 3)) (ht : (pc : Int) + off = (tgt : Int)) (pc2 : Nat) (hpc : pc + 3 = pc2) (kt : 0 < x → WW p l e R s m args below meth c cells slots Q Γ A nL ws tgt lv st) (kf : ¬ (0 < x) → WW p l e R s m args below meth c cells slots Q Γ A nL ws pc2 lv st) : WW p l e R s m args below meth c cells slots Q Γ A nL ws pc lv (.int x :: st) := by
  subst hpc
  exact fun H locs ls hP hD hS hl => lv_if_gt C.1 C.2.1 hd ht (fun h => kt h H locs ls hP hD hS hl) (fun h => kf h H locs ls hP hD hS hl)
theorem ww_icmp_gt (C : Cx p R s m args meth c cc own nL Γ A dd) {x y : Int32} {off : Int} (tgt : Nat) (hd : decode cc pc = .ok (.if_icmp .gt off, 3)) (ht : (pc : Int) + off = (tgt : Int)) (pc2 : Nat) (hpc : pc + 3 = pc2) (kt : y < x → WW p l e R s m args below meth c cells slots Q Γ A nL ws tgt lv st) (kf : ¬ (y < x) → WW p l e R s m args below meth c cells slots Q Γ A nL ws pc2 lv st) : WW p l e R s m args below meth c cells slots Q Γ A nL ws pc lv (.int y :: .int x :: st) := by
  subst hpc
  exact fun H locs ls hP hD hS hl => lv_icmp_gt C.1 C.2.1 hd ht (fun h => kt h H locs ls hP hD hS hl) (fun h => kf h H locs ls hP hD hS hl)
theorem ww_if_le (C : Cx p R s m args meth c cc own nL Γ A dd) {x : Int32} {off : Int} (tgt : Nat) (hd : decode cc pc = .ok (.ifCond .le off, 3)) (ht : (pc : Int) + off = (tgt : Int)) (pc2 : Nat) (hpc : pc + 3 = pc2) (kt : x ≤ 0 → WW p l e R s m args below meth c cells slots Q Γ A nL ws tgt lv st) (kf : ¬ (x ≤ 0) → WW p l e R s m args below meth c cells slots Q Γ A nL ws pc2 lv st) : WW p l e R s m args below meth c cells slots Q Γ A nL ws pc lv (.int x :: st) := by
  subst hpc
  exact fun H locs ls hP hD hS hl => lv_if_le C.1 C.2.1 hd ht (fun h => kt h H locs ls hP hD hS hl) (fun h => kf h H locs ls hP hD hS hl)
theorem ww_icmp_le (C : Cx p R s m args meth c cc own nL Γ A dd) {x y : Int32} {off : Int} (tgt : Nat) (hd : decode cc pc = .ok (.if_icmp .le off, 3)) (ht : (pc : Int) + off = (tgt : Int)) (pc2 : Nat) (hpc : pc + 3 = pc2) (kt : x ≤ y → WW p l e R s m args below meth c cells slots Q Γ A nL ws tgt lv st) (kf : ¬ (x ≤ y) → WW p l e R s m args below meth c cells slots Q Γ A nL ws pc2 lv st) : WW p l e R s m args below meth c cells slots Q Γ A nL ws pc lv (.int y :: .int x :: st) := by
  subst hpc
  exact fun H locs ls hP hD hS hl => lv_icmp_le C.1 C.2.1 hd ht (fun h => kt h H locs ls hP hD hS hl) (fun h => kf h H locs ls hP hD hS hl)
theorem ww_goto (C : Cx p R s m args meth c cc own nL Γ A dd) {off : Int} (tgt : Nat) (hd : decode cc pc = .ok (.goto off, 3)) (ht : (pc : Int) + off = (tgt : Int)) (k : WW p l e R s m args below meth c cells slots Q Γ A nL ws tgt lv st) : WW p l e R s m args below meth c cells slots Q Γ A nL ws pc lv st :=
  fun H locs ls hP hD hS hl => lv_goto C.1 C.2.1 hd ht (k H locs ls hP hD hS hl)
/-- an entry of a class's pool that names field k of the class ci of vwCl -/
def FE (own : String) (index ci k : Nat) (C : String) (T : u_T) (N : Nat) (ty : Nat → FieldType) : Prop :=
  Cond.fieldLink own index (T k).1 (T k).2.1 (T k).2.2.1 ∈ Tg ∧ vwCl[ci]? = some (C, T, N) ∧ k < N ∧ (∀ w ∈ u_ws C T N, w ∈ Tg) ∧ (∀ k, k < N → parseFieldDescriptor (T k).2.2.1 = some (ty k)) ∧ (∀ a, a < N → ∀ b, b < N → a ≠ b → (T a).2.1 ≠ (T b).2.1)
theorem ww_get (C : Cx p R s m args meth c cc own nL Γ A dd) {index ci kf : Nat} {C0 : String} {T : u_T} {N : Nat} {ty : Nat → FieldType} {a : Nat} {fs : List Value} {v : Value} (F : FE own index ci kf C0 T N ty) (hd : decode cc pc = .ok (.getfield index, 3)) (q0 : Nat) (he : ws[q0]? = some (a, .inr (ci, fs))) (hv : fs[kf]? = some v) (pc2 : Nat) (hpc : pc + 3 = pc2) (k : WW p l e R s m args below meth c cells slots Q Γ A nL ws pc2 lv (v :: st)) : WW p l e R s m args below meth c cells slots Q Γ A nL ws pc lv (.ref a :: st) := by
  subst hpc
  intro H locs ls hP hD hS hl
  exact va_get C.1 C.2.1 C.2.2.2.2.1 F.2.2.2.1 C.2.2.2.1 C.2.2.2.2.2.1 hP q0 he F.2.1 kf F.2.2.1 (C.2.2.2.2.1 _ F.1) (fun _ h9 => h9) hv hd (k H locs ls hP hD hS hl)
theorem ww_put (C : Cx p R s m args meth c cc own nL Γ A dd) {index ci kf : Nat} {C0 : String} {T : u_T} {N : Nat} {ty : Nat → FieldType} {a : Nat} {fs : List Value} {v : Value} (F : FE own index ci kf C0 T N ty) (hfin : (T kf).2.2.2 = false) (hd : decode cc pc = .ok (.putfield index, 3)) (q0 : Nat) (he : ws[q0]? = some (a, .inr (ci, fs))) (hn : narrow (ty kf) v = v) (hfit : fits (ty kf) v = true) (hl0 : kf < fs.length) (pc2 : Nat) (hpc : pc + 3 = pc2) (k : WW p l e R s m args below meth c cells slots Q Γ A nL (ws.set q0 (a, .inr (ci, fs.set kf v))) pc2 lv st) : WW p l e R s m args below meth c cells slots Q Γ A nL ws pc lv (v :: .ref a :: st) := by
  subst hpc
  intro H locs ls hP hD hS hl
  exact va_put C.1 C.2.1 C.2.2.2.2.1 F.2.2.2.1 ty F.2.2.2.2.1 F.2.2.2.2.2 C.2.2.2.1 C.2.2.2.2.2.1 hP hD hS q0 he F.2.1 kf F.2.2.1 (C.2.2.2.2.1 _ F.1) (fun _ h9 => h9) hfin (F.2.2.2.2.1 kf F.2.2.1) hn hfit hl0 hd (fun H locs hP hD hS => k H locs ls hP hD hS hl)
theorem ww_putF (C : Cx p R s m args meth c cc own nL Γ A dd) {index ci kf : Nat} {C0 : String} {T : u_T} {N : Nat} {ty : Nat → FieldType} {a : Nat} {fs : List Value} {v : Value} (F : FE own index ci kf C0 T N ty) (hfin : (T kf).2.2.2 = true) (hin : meth.name = "<init>") (hdecl : (T kf).1 = own) (hd : decode cc pc = .ok (.putfield index, 3)) (q0 : Nat) (he : ws[q0]? = some (a, .inr (ci, fs))) (hn : narrow (ty kf) v = v) (hfit : fits (ty kf) v = true) (hl0 : kf < fs.length) (pc2 : Nat) (hpc : pc + 3 = pc2) (k : WW p l e R s m args below meth c cells slots Q Γ A nL (ws.set q0 (a, .inr (ci, fs.set kf v))) pc2 lv st) : WW p l e R s m args below meth c cells slots Q Γ A nL ws pc lv (v :: .ref a :: st) := by
  subst hpc
  intro H locs ls hP hD hS hl
  exact va_putF C.1 C.2.1 C.2.2.2.2.1 F.2.2.2.1 ty F.2.2.2.2.1 F.2.2.2.2.2 C.2.2.2.1 C.2.2.2.2.2.1 hP hD hS q0 he F.2.1 kf F.2.2.1 (C.2.2.2.2.1 _ F.1) (fun _ h9 => h9) hfin hin hdecl (F.2.2.2.2.1 kf F.2.2.1) hn hfit hl0 hd (fun H locs hP hD hS => k H locs ls hP hD hS hl)
theorem ww_iald (C : Cx p R s m args meth c cc own nL Γ A dd) {a n : Nat} {f : Nat → Int32} {i : Int32} (hd : decode cc pc = .ok (.iaload, 1)) (q0 : Nat) (he : ws[q0]? = some (a, .inl (Γ.2.1, n, .inl f))) (hin : vp_in i n) (pc2 : Nat) (hpc : pc + 1 = pc2) (k : WW p l e R s m args below meth c cells slots Q Γ A nL ws pc2 lv (.int (f i.toNatClampNeg) :: st)) : WW p l e R s m args below meth c cells slots Q Γ A nL ws pc lv (.int i :: .ref a :: st) := by
  subst hpc
  intro H locs ls hP hD hS hl
  exact va_iald C.1 C.2.1 C.2.2.2.2.2.1 hP q0 0 he rfl hin hd (k H locs ls hP hD hS hl)
theorem ww_lald (C : Cx p R s m args meth c cc own nL Γ A dd) {a n : Nat} {f : Nat → Int64} {i : Int32} (hd : decode cc pc = .ok (.laload, 1)) (q0 : Nat) (he : ws[q0]? = some (a, .inl (Γ.2.2.1, n, .inr (.inl f)))) (hin : vp_in i n) (pc2 : Nat) (hpc : pc + 1 = pc2) (k : WW p l e R s m args below meth c cells slots Q Γ A nL ws pc2 lv (.long (f i.toNatClampNeg) :: st)) : WW p l e R s m args below meth c cells slots Q Γ A nL ws pc lv (.int i :: .ref a :: st) := by
  subst hpc
  intro H locs ls hP hD hS hl
  exact va_lald C.1 C.2.1 C.2.2.2.2.2.1 hP q0 1 he rfl hin hd (k H locs ls hP hD hS hl)
theorem ww_aald (C : Cx p R s m args meth c cc own nL Γ A dd) {a n b : Nat} {f : Nat → Option Nat} {i : Int32} (hd : decode cc pc = .ok (.aaload, 1)) (q0 : Nat) (he : ws[q0]? = some (a, .inl (Γ.2.2.2, n, .inr (.inr (.inr (.inr f)))))) (hin : vp_in i n) (hf : f i.toNatClampNeg = some b) (pc2 : Nat) (hpc : pc + 1 = pc2) (k : WW p l e R s m args below meth c cells slots Q Γ A nL ws pc2 lv (.ref b :: st)) : WW p l e R s m args below meth c cells slots Q Γ A nL ws pc lv (.int i :: .ref a :: st) := by
  subst hpc
  intro H locs ls hP hD hS hl
  exact va_aldq (C := RX7) C.1 C.2.1 C.2.2.2.2.2.1 hP q0 2 he rfl hin hd (by rw [hf]; exact k H locs ls hP hD hS hl)
theorem ww_iast (C : Cx p R s m args meth c cc own nL Γ A dd) {a n : Nat} {f : Nat → Int32} {i x : Int32} (hd : decode cc pc = .ok (.iastore, 1)) (q0 : Nat) (he : ws[q0]? = some (a, .inl (Γ.2.1, n, .inl f))) (hin : vp_in i n) (pc2 : Nat) (hpc : pc + 1 = pc2) (k : WW p l e R s m args below meth c cells slots Q Γ A nL (ws.set q0 (a, .inl (Γ.2.1, n, .inl (upd f i.toNatClampNeg x)))) pc2 lv st) : WW p l e R s m args below meth c cells slots Q Γ A nL ws pc lv (.int x :: .int i :: .ref a :: st) := by
  subst hpc
  intro H locs ls hP hD hS hl
  exact va_iast C.1 C.2.1 C.2.2.2.2.2.1 hP hD hS q0 0 he rfl hin hd (fun H locs hP hD hS => k H locs ls hP hD hS hl)
theorem ww_last (C : Cx p R s m args meth c cc own nL Γ A dd) {a n : Nat} {f : Nat → Int64} {i : Int32} {x : Int64} (hd : decode cc pc = .ok (.lastore, 1)) (q0 : Nat) (he : ws[q0]? = some (a, .inl (Γ.2.2.1, n, .inr (.inl f)))) (hin : vp_in i n) (pc2 : Nat) (hpc : pc + 1 = pc2) (k : WW p l e R s m args below meth c cells slots Q Γ A nL (ws.set q0 (a, .inl (Γ.2.2.1, n, .inr (.inl (vp_updL f i.toNatClampNeg x))))) pc2 lv st) : WW p l e R s m args below meth c cells slots Q Γ A nL ws pc lv (.long x :: .int i :: .ref a :: st) := by
  subst hpc
  intro H locs ls hP hD hS hl
  exact va_last C.1 C.2.1 C.2.2.2.2.2.1 hP hD hS q0 1 he rfl hin hd (fun H locs hP hD hS => k H locs ls hP hD hS hl)
theorem ww_copyi (C : Cx p R s m args meth c cc own nL Γ A dd) {index : Nat} (q0 q1 : Nat) {a0 a n0 n1 : Nat} {f g : Nat → Int32} {sp dp n : Int32} (hlk : Cond.methodLink own index arraycopyName ∈ Tg) (hd : decode cc pc = .ok (.invokestatic index, 3)) (ha0 : ws[q0]? = some (a0, .inl (Γ.2.1, n0, .inl f))) (ha1 : ws[q1]? = some (a, .inl (Γ.2.1, n1, .inl g))) (h1 : ¬ sp < 0) (h2 : ¬ dp < 0) (h3 : ¬ n < 0) (h4 : sp.toNatClampNeg + n.toNatClampNeg ≤ n0) (h5 : dp.toNatClampNeg + n.toNatClampNeg ≤ n1) (hst : st = []) (hdd : 1 ≤ dd) (pc2 : Nat) (hpc : pc + 3 = pc2) (k : WW p l e R s m args below meth c cells slots Q Γ A nL (ws.set q1 (a, .inl (Γ.2.1, n1, .inl (va_cpy f g sp.toNatClampNeg dp.toNatClampNeg n.toNatClampNeg)))) pc2 lv st) : WW p l e R s m args below meth c cells slots Q Γ A nL ws pc lv (.int n :: .int dp :: .ref a :: .int sp :: .ref a0 :: st) := by
  subst hpc
  intro H locs ls hP hD hS hl
  subst hst
  refine va_copyi C.1 C.2.1 (C.2.2.1.trans hl.1.symm) C.2.2.2.1 (C.2.2.2.2.1 _ hlk) (C.2.2.2.2.1 _ na_arraycopy) (C.2.2.2.2.1 _ st_arraycopyName) (C.2.2.2.2.1 _ in_J10) C.2.2.2.2.2.1 hP hD hS q0 q1 0 0 ha0 ha1 rfl rfl rfl h1 h2 h3 h4 h5 (fun i _ => rfl) ?_ ?_ hd (fun H locs hP hD hS => k H locs ls hP hD hS hl)
  · exact Nat.le_trans hdd C.2.2.2.2.2.2.2.2.1
  · refine Nat.le_trans ?_ (Nat.le_trans (Nat.mul_le_mul_left 35 hdd) C.2.2.2.2.2.2.2.2.2)
    decide
end WWs
/-- a method's contract: from the world wc it returns rv, and the world is wc' then, at the same cells -/
def QCt (wc : va_W) (sz : Nat) (Γ : Gm) (rv : Option Value) (wc' : va_W) : Array Value → State → Outcome → State → Prop := fun _ st oc t => oc = .returned rv ∧ va_P Γ.1 vwCl wc' t.heap ∧ va_D (va_A wc sz) wc' ∧ va_F (va_A wc sz) st t
def PCt (Γ : Gm) (sz : Nat) (av : List Value) (wc : va_W) : Array Value → State → Prop := va_Pc av (fun U => U.heap.size = sz ∧ va_P Γ.1 vwCl wc U.heap ∧ va_K Γ.1 vwCl (tyG Γ) U ∧ va_D (fun _ => True) wc)
def Ct (l : Launch) (Γ : Gm) (y : MethodName) (cc : ByteArray) (maxL : Nat) (ret : Option FieldType) (d : Nat) (av : List Value) (wc : va_W) (rv : Option Value) (wc' : va_W) : Prop :=
  ∀ sz : Nat, Met l y (.code y cc maxL ret :: Tg) (rmD d) (PCt Γ sz av wc) (QCt wc sz Γ rv wc') 0 0 (va_A wc sz)
theorem PCt.blind {Γ : Gm} {sz : Nat} {av : List Value} {wc : va_W} : FrameBlind (PCt Γ sz av wc) := fun a U g mk q => ⟨q.1, q.2.1, q.2.2.1, va_K.moved (u := U) (U := U.calling g mk a) (Vm.Alike.refl U.vm) q.2.2.2.1, q.2.2.2.2⟩
theorem LV.entry {av : List Value} {nL : Nat} {lv : List (Option Value)} (h : (lg_sl av).length ≤ nL) (hq : ∀ (i : Nat) (v : Value), lv[i]? = some (some v) → (i, v) ∈ lv_args 0 av) : LV ((lg_sl av ++ List.replicate (nL - (lg_sl av).length) Slot.unset).toArray) nL lv := by
  obtain ⟨h1, h2, h3⟩ := lv_entry av h
  exact ⟨h1, h2, fun i v hi => h3 (i, v) (hq i v hi)⟩
/-- the locals that the arguments make -/
def lvA : List Value → List (Option Value)
  | [] => []
  | .long x :: t => some (.long x) :: none :: lvA t
  | .double x :: t => some (.double x) :: none :: lvA t
  | v :: t => some v :: lvA t
theorem lvA_args : ∀ (av : List Value) (j i : Nat) (v : Value), (lvA av)[i]? = some (some v) → (j + i, v) ∈ lv_args j av
  | [], j, i, v, h => by simp [lvA] at h
  | w :: t, j, i, v, h => by
    by_cases hc : w.category = 2
    · have e : lvA (w :: t) = some w :: none :: lvA t := by cases w <;> first | rfl | (simp [Value.category] at hc)
      rw [e] at h
      match i, h with
      | 0, h =>
        simp at h
        subst h
        exact List.mem_cons_self
      | 1, h => simp at h
      | i + 2, h =>
        have := lvA_args t (j + 2) i v (by simpa using h)
        rw [show j + (i + 2) = j + 2 + i by omega]
        simp only [lv_args, hc, if_true]
        exact List.mem_cons_of_mem _ this
    · have e : lvA (w :: t) = some w :: lvA t := by cases w <;> first | rfl | (simp [Value.category] at hc)
      rw [e] at h
      match i, h with
      | 0, h =>
        simp at h
        subst h
        exact List.mem_cons_self
      | i + 1, h =>
        have := lvA_args t (j + 1) i v (by simpa using h)
        rw [show j + (i + 1) = j + 1 + i by omega]
        simp only [lv_args, hc, if_false]
        exact List.mem_cons_of_mem _ this
theorem lvA_pad {av : List Value} {n i : Nat} {v : Value} (h : (lvA av ++ List.replicate n none)[i]? = some (some v)) : (lvA av)[i]? = some (some v) := by
  by_cases hl : i < (lvA av).length
  · rw [List.getElem?_append_left hl] at h
    exact h
  · rw [List.getElem?_append_right (by omega)] at h
    have := (List.mem_replicate.mp (List.mem_of_getElem? h)).2
    cases this
/-- a contract out of a walk -/
theorem Ct.of {l : Launch} {Γ : Gm} {y : MethodName} {cc : ByteArray} {maxL : Nat} {ret : Option FieldType} {d n : Nat} {av : List Value} {wc : va_W} {rv : Option Value} {wc' : va_W} (hm : MI y cc maxL ret n) (lv : List (Option Value)) (k : Nat) (hlv : lvA av ++ List.replicate k none = lv) (hle : (lg_sl av).length ≤ maxL)
    (body : ∀ (p : Program) (e : Env) (s : State) (m : MethodId) (args : Array Value) (below : List Frame) (meth : Method) (c : Code), Cx p (rmD d) s m args meth c cc y.cls maxL Γ (va_A wc s.heap.size) d → meth.sig.returnType = ret → WW p l e (rmD d) s m args below meth c 0 0 (MQ below (QCt wc s.heap.size Γ rv wc') args s 0 0 (va_A wc s.heap.size)) Γ (va_A wc s.heap.size) maxL wc 0 lv []) : Ct l Γ y cc maxL ret d av wc rv wc' := by
  intro sz
  refine Met.ofW (cc := cc) (maxL := maxL) (ret := ret) hm.2.2.2.2.2 rfl ?_
  intro p e s m args below meth c s₁ B hml hv
  obtain ⟨rfl, hsz, hP, hK, hD0⟩ := hv
  subst hsz
  have hts : ∀ w ∈ Tg, w.before av.toArray s = true := fun w hw => atoms_spec (ws := .code y cc maxL ret :: Tg) B.pre w (List.mem_cons_of_mem _ hw)
  have hown : s.vm.findClass y.cls = some m.cls := findClass_of_methodNamed B.named
  rw [lg_entry_eq]
  refine body p e s m av.toArray below meth c ⟨B.exec, B.bytes, hml, hown, hts, hK, fun q h => Or.inr h, B.notSynchronized, Nat.le_refl _, Nat.le_refl _⟩ B.returns s.heap [] _ hP hD0.self va_S.rf (LV.entry hle (fun i v hi => ?_))
  subst hlv
  have := lvA_args av 0 i v (lvA_pad hi)
  rw [Nat.zero_add] at this
  exact this
section WWr
variable {p : Program} {l : Launch} {e : Env} {R : Room} {s : State} {m : MethodId} {args : Array Value} {below : List Frame} {meth : Method} {c : Code} {cells slots : Nat} {Q : State → Prop} {Γ : Gm} {A : Nat → Prop} {nL dd : Nat} {cc : ByteArray} {own : String} {ws : va_W} {pc : Nat} {lv : List (Option Value)} {st : List Value} {wc wc' : va_W} {rv : Option Value}
theorem ww_iret (C : Cx p R s m args meth c cc own nL Γ (va_A wc s.heap.size) dd) (hr : meth.sig.returnType = some .int) {v : Int32} (hd : decode cc pc = .ok (.ireturn, 1)) (h1 : rv = some (.int v)) (h2 : wc' = ws) : WW p l e R s m args below meth c 0 0 (MQ below (QCt wc s.heap.size Γ rv wc') args s 0 0 (va_A wc s.heap.size)) Γ (va_A wc s.heap.size) nL ws pc lv [.int v] := by
  subst h1; subst h2
  intro H locs ls hP hD hS hl
  exact W.iret C.1 C.2.1 hr (fun t ht hW => ⟨rfl, by rw [ht]; exact hP, hD, hS.F ht⟩) hS.2.2 hd C.2.2.2.2.2.2.2.1
theorem ww_lret (C : Cx p R s m args meth c cc own nL Γ (va_A wc s.heap.size) dd) (hr : meth.sig.returnType = some .long) {v : Int64} (hd : decode cc pc = .ok (.lreturn, 1)) (h1 : rv = some (.long v)) (h2 : wc' = ws) : WW p l e R s m args below meth c 0 0 (MQ below (QCt wc s.heap.size Γ rv wc') args s 0 0 (va_A wc s.heap.size)) Γ (va_A wc s.heap.size) nL ws pc lv [.long v] := by
  subst h1; subst h2
  intro H locs ls hP hD hS hl
  exact W.lret C.1 C.2.1 hr (fun t ht hW => ⟨rfl, by rw [ht]; exact hP, hD, hS.F ht⟩) hS.2.2 hd C.2.2.2.2.2.2.2.1
theorem ww_zret (C : Cx p R s m args meth c cc own nL Γ (va_A wc s.heap.size) dd) (hr : meth.sig.returnType = some .boolean) {v : Int32} (hz : narrow .boolean (.int v) = .int v) (hd : decode cc pc = .ok (.ireturn, 1)) (h1 : rv = some (.int v)) (h2 : wc' = ws) : WW p l e R s m args below meth c 0 0 (MQ below (QCt wc s.heap.size Γ rv wc') args s 0 0 (va_A wc s.heap.size)) Γ (va_A wc s.heap.size) nL ws pc lv [.int v] := by
  subst h1; subst h2
  intro H locs ls hP hD hS hl
  exact W.zret C.1 C.2.1 hr hz (fun t ht hW => ⟨rfl, by rw [ht]; exact hP, hD, hS.F ht⟩) hS.2.2 hd C.2.2.2.2.2.2.2.1
theorem ww_vret (C : Cx p R s m args meth c cc own nL Γ (va_A wc s.heap.size) dd) (hr : meth.sig.returnType = none)  (hd : decode cc pc = .ok (.return_, 1)) (h1 : rv = none) (h2 : wc' = ws) : WW p l e R s m args below meth c 0 0 (MQ below (QCt wc s.heap.size Γ rv wc') args s 0 0 (va_A wc s.heap.size)) Γ (va_A wc s.heap.size) nL ws pc lv [] := by
  subst h1; subst h2
  intro H locs ls hP hD hS hl
  exact W.vret C.1 C.2.1 hr (fun t ht hW => ⟨rfl, by rw [ht]; exact hP, hD, hS.F ht⟩) hS.2.2 hd C.2.2.2.2.2.2.2.1
/-- the cells at the places is become cs -/
def pB : va_W → List Nat → va_W → va_W
  | ws, [], _ => ws
  | ws, _, [] => ws
  | ws, i :: is, c :: cs => pB (ws.set i c) is cs
theorem pB_len : ∀ (is : List Nat) (ws cs : va_W), (pB ws is cs).length = ws.length
  | [], ws, cs => by simp [pB]
  | i :: is, ws, [] => by simp [pB]
  | i :: is, ws, c :: cs => by rw [pB, pB_len is]; simp
/-- a cell of the world behind a call is one that was there, at a place that isn't the callee's, or the callee's -/
theorem pB_get : ∀ (is : List Nat) (ws cs : va_W) (k : Nat) (q : Nat × va_E), va_nd is = true → is.length = cs.length → (pB ws is cs)[k]? = some q → (k ∉ is ∧ ws[k]? = some q) ∨ ∃ j : Nat, is[j]? = some k ∧ cs[j]? = some q
  | [], ws, cs, k, q, hn, hl, h => by
    simp [pB] at h
    exact Or.inl ⟨by simp, h⟩
  | i :: is, ws, [], k, q, hn, hl, h => by simp at hl
  | i :: is, ws, c :: cs, k, q, hn, hl, h => by
    simp only [va_nd, Bool.and_eq_true, decide_eq_true_eq] at hn
    rw [pB] at h
    rcases pB_get is (ws.set i c) cs k q hn.2 (by simpa using hl) h with ⟨h1, h2⟩ | ⟨j, h1, h2⟩
    · by_cases hk : i = k
      · subst hk
        have hlt : i < ws.length := by
          have := (List.getElem?_eq_some_iff.mp h2).1
          simpa using this
        rw [List.getElem?_set_self hlt] at h2
        exact Or.inr ⟨0, rfl, h2⟩
      · rw [List.getElem?_set_ne hk] at h2
        refine Or.inl ⟨fun hm => ?_, h2⟩
        rcases List.mem_cons.mp hm with e | e
        · exact hk e.symm
        · exact h1 e
    · exact Or.inr ⟨j + 1, by simpa using h1, by simpa using h2⟩
theorem pB_same {ws wc : va_W} : ∀ (is : List Nat), is.map (fun i => ws[i]?) = wc.map some → pB ws is wc = ws := by
  intro is
  induction is generalizing wc with
  | nil => intro _; simp [pB]
  | cons i is ih =>
    intro h
    cases wc with
    | nil => simp at h
    | cons c cs =>
      simp only [List.map_cons, List.cons.injEq] at h
      have e : ws.set i c = ws := by
        apply List.ext_getElem?
        intro j
        by_cases hij : i = j
        · subst hij
          have hlt := (List.getElem?_eq_some_iff.mp h.1).1
          rw [List.getElem?_set_self hlt, h.1]
        · rw [List.getElem?_set_ne hij]
      rw [pB, e]
      exact ih h.2
theorem va_at_of {ws wc : va_W} {is : List Nat} (hC : is.map (fun i => ws[i]?) = wc.map some) {j : Nat} {q : Nat × va_E} (hq : wc[j]? = some q) : ∃ i, is[j]? = some i ∧ ws[i]? = some q := by
  have h1 : (is.map (fun i => ws[i]?))[j]? = some (some q) := by rw [hC, List.getElem?_map, hq]; rfl
  rw [List.getElem?_map] at h1
  cases hi : is[j]? with
  | none => rw [hi] at h1; cases h1
  | some i => rw [hi] at h1; exact ⟨i, rfl, Option.some.inj h1⟩
theorem va_at_of2 {ws wc : va_W} {is : List Nat} (hC : is.map (fun i => ws[i]?) = wc.map some) {j i : Nat} (hi : is[j]? = some i) : ∃ q, wc[j]? = some q ∧ ws[i]? = some q := by
  have h1 : (wc.map some)[j]? = some (ws[i]?) := by rw [← hC, List.getElem?_map, hi]; rfl
  rw [List.getElem?_map] at h1
  cases hq : wc[j]? with
  | none => rw [hq] at h1; cases h1
  | some q => rw [hq] at h1; exact ⟨q, rfl, (Option.some.inj h1).symm⟩
theorem pB_P {A : Nat → Prop} {D : va_G} {cl : List vw_C} {ws wc wc' : va_W} {H H1 : Heap} {is : List Nat} (hP : va_P D cl ws H) (hD : va_D A ws) (hC : is.map (fun i => ws[i]?) = wc.map some) (hn : va_nd is = true) (ha : wc'.map (fun q => q.1) = wc.map (fun q => q.1))
    (hk : ∀ q : Nat, q < H.size → ¬ va_A wc H.size q → H1[q]? = H[q]?) (hP1 : va_P D cl wc' H1) : va_P D cl (pB ws is wc') H1 ∧ va_D A (pB ws is wc') := by
  have hlen : is.length = wc'.length := by
    have h1 := congrArg List.length hC
    have h2 := congrArg List.length ha
    simp at h1 h2
    omega
  have adr : ∀ (k : Nat) (q : Nat × va_E), (pB ws is wc')[k]? = some q → ∃ q0, ws[k]? = some q0 ∧ q0.1 = q.1 := by
    intro k q hq
    rcases pB_get is ws wc' k q hn hlen hq with ⟨-, h2⟩ | ⟨j, h1, h2⟩
    · exact ⟨q, h2, rfl⟩
    · obtain ⟨q0, h3, h4⟩ := va_at_of2 hC h1
      refine ⟨q0, h4, ?_⟩
      have h5 : (wc'.map (fun q => q.1))[j]? = some q.1 := by rw [List.getElem?_map, h2]; rfl
      rw [ha, List.getElem?_map, h3] at h5
      exact Option.some.inj h5
  refine ⟨fun k q hq => ?_, fun i j x y hi hj hxy => ?_, fun k q hq => ?_⟩
  · rcases pB_get is ws wc' k q hn hlen hq with ⟨h1, h2⟩ | ⟨j, h1, h2⟩
    · refine (hP k q h2).kept (hk q.1 (hP k q h2).lt ?_)
      rintro (⟨j, e, hj⟩ | hj)
      · obtain ⟨i, h3, h4⟩ := va_at_of hC hj
        have := hD.1 k i q (q.1, e) h2 h4 rfl
        subst this
        exact h1 (List.mem_of_getElem? h3)
      · exact absurd (hP k q h2).lt (by omega)
    · exact hP1 j q h2
  · obtain ⟨x0, h1, h2⟩ := adr i x hi
    obtain ⟨y0, h3, h4⟩ := adr j y hj
    exact hD.1 i j x0 y0 h1 h3 (h2.trans (hxy.trans h4.symm))
  · obtain ⟨q0, h1, h2⟩ := adr k q hq
    rw [← h2]
    exact hD.2 k q0 h1
/-- behind a call's run -/
theorem ww_run {pc2 : Nat} {st0 rest : List Value} {H : Heap} {locs : List Loc} {ls : Array Slot} {is : List Nat} {a : Array Value} (hr : va_Run p l e R s m args below meth c H locs cells slots 0 0 (F0 m pc ls st0) rest (QCt wc H.size Γ rv wc' a) (va_A wc H.size)) (hA : ∀ q, s.heap.size ≤ q → A q) (hP : va_P Γ.1 vwCl ws H) (hD : va_D A ws) (hS : va_S A s.heap H locs) (hl : LV ls nL lv) (hC : is.map (fun i => ws[i]?) = wc.map some) (hn : va_nd is = true) (ha : wc'.map (fun q => q.1) = wc.map (fun q => q.1)) (hpc : pc + 3 = pc2)
    (k : WW p l e R s m args below meth c cells slots Q Γ A nL (pB ws is wc') pc2 lv (rv.toList ++ rest)) : W p l e R s m args below meth c H locs cells slots Q (F0 m pc ls st0) := by
  subst hpc
  have hF := va_free (wc := wc) hD hS hA is hC
  intro T hT X
  obtain ⟨v, st₀, t, T', L, h0, X', hL, e1, e2, ⟨hv, hP1, hD1, hz, hk⟩, st⟩ := hr T hT X
  cases hv
  rw [h0] at hz hk
  rw [← e1] at hP1
  obtain ⟨hP2, hD2⟩ := pB_P (H1 := T'.heap) hP hD hC hn ha (fun q h1 h2 => by rw [e1]; exact hk q h1 h2) hP1
  obtain ⟨t2, a1, b1⟩ := k T'.heap (locs ++ L) ls hP2 hD2
    ⟨Nat.le_trans hS.1 (by rw [e1]; exact hz), fun q h1 h2 => by rw [e1, hk q (Nat.lt_of_lt_of_le h1 hS.1) (fun z => h2 (hF q z))]; exact hS.2.1 q h1 h2, fun q hq => by
      rcases List.mem_append.mp hq with h | h
      · exact hS.2.2 q h
      · exact hF _ (hL q h)⟩ hl T' rfl X'
  exact ⟨t2, st t2 a1, b1⟩
theorem code_good {y : MethodName} {cy : ByteArray} {mL : Nat} {ret : Option FieldType} (h : Cond.code y cy mL ret ∈ Tg) : GoodIn Tg (.code y cy mL ret :: Tg) := fun w hw => by
  rcases List.mem_cons.mp hw with rfl | hw
  · exact tg_good _ h
  · exact tg_good _ hw
theorem catsum_le {rest : List Value} (h : rest.length ≤ 4) : (rest.map fun v => v.category).sum ≤ 8 := by
  have hc : ∀ v : Value, v.category ≤ 2 := fun v => by rcases lv_cat v with h | h <;> omega
  match rest, h with
  | [], _ => simp
  | [a], _ => have := hc a; simp; omega
  | [a, b], _ => have := hc a; have := hc b; simp; omega
  | [a, b, d], _ => have := hc a; have := hc b; have := hc d; simp; omega
  | [a, b, d, f], _ => have := hc a; have := hc b; have := hc d; have := hc f; simp; omega
  | _ :: _ :: _ :: _ :: _ :: _, h => simp at h
theorem pct_pre {sz : Nat} {H : Heap} {av : List Value} {is : List Nat} (C : Cx p R s m args meth c cc own nL Γ A dd) (hP : va_P Γ.1 vwCl ws H) (hD : va_D A ws) (hsz : H.size = sz) (hC : is.map (fun i => ws[i]?) = wc.map some) (hn : va_nd is = true) : ∀ U : State, U.heap = H → s.WarmedH U.vm → PCt Γ sz av wc av.toArray U := fun U hU hW => by
  refine ⟨rfl, by rw [hU]; exact hsz, ?_, va_K.moved hW.alike C.2.2.2.2.2.1, (hD.sub is hn hC).weaken (fun _ _ _ _ => trivial)⟩
  rw [hU]
  intro k q hq
  obtain ⟨i, -, h2⟩ := va_at_of hC hq
  exact hP i q h2

theorem ww_loop {σ : Type} (μ : σ → Nat) (Inv : σ → Prop) (W_ : σ → va_W) (L_ : σ → List (Option Value)) (x0 : σ) (h0 : Inv x0) (hw : ws = W_ x0) (hl : lv = L_ x0) (step : ∀ x : σ, Inv x → (∀ y : σ, Inv y → μ y < μ x → WW p l e R s m args below meth c cells slots Q Γ A nL (W_ y) pc (L_ y) st) → WW p l e R s m args below meth c cells slots Q Γ A nL (W_ x) pc (L_ x) st) : WW p l e R s m args below meth c cells slots Q Γ A nL ws pc lv st := by
  subst hw; subst hl
  have key : ∀ (n : Nat) (x : σ), μ x < n → Inv x → WW p l e R s m args below meth c cells slots Q Γ A nL (W_ x) pc (L_ x) st := by
    intro n
    induction n with
    | zero => intro x h; exact absurd h (Nat.not_lt_zero _)
    | succ n ih => intro x h hx; exact step x hx (fun y hy hlt => ih y (by omega) hy)
  exact key (μ x0 + 1) x0 (Nat.lt_succ_self _) h0
theorem ww_callV0 (C : Cx p R s m args meth c cc own nL Γ A dd) {y : MethodName} {cy : ByteArray} {mL : Nat} {ret : Option FieldType} {d index : Nat} {b : Nat}  {r : Value} {rest : List Value} (hct : Ct l Γ y cy mL ret d [.ref b] wc (some r) wc') (hm : MI y cy mL ret 0) (him : Cond.instanceMethod y ∈ Tg) (hse : Cond.selects y.cls y y ∈ Tg) (hlk : Cond.methodLink own index y ∈ Tg) (hd : decode cc pc = .ok (.invokevirtual index, 3)) (q0 : Nat) {ci : Nat} {fs : List Value} {qc : vw_C} (he : ws[q0]? = some (b, .inr (ci, fs))) (hc : vwCl[ci]? = some qc) (hcn : qc.1 = y.cls) (hdd : d + 1 ≤ dd) (hmL : mL ≤ 16) (hrest : rest.length ≤ 4) (hcs : cells ≤ R.cells ∧ slots ≤ R.slots) (is : List Nat) (hC : is.map (fun i => ws[i]?) = wc.map some) (hn : va_nd is = true) (ha : wc'.map (fun q => q.1) = wc.map (fun q => q.1)) (pc2 : Nat) (hpc : pc + 3 = pc2) (k : WW p l e R s m args below meth c cells slots Q Γ A nL (pB ws is wc') pc2 lv (r :: rest)) : WW p l e R s m args below meth c cells slots Q Γ A nL ws pc lv (.ref b :: rest) := fun H locs ls hP hD hS hl => by
  have hroom : d + 1 ≤ R.frames ∧ 8 + (mL + 11) + 35 * d ≤ R.locals := ⟨Nat.le_trans hdd C.2.2.2.2.2.2.2.2.1, by have := C.2.2.2.2.2.2.2.2.2; show 8 + (mL + 11) + 35 * d ≤ R.locals; omega⟩
  have hcb : CallB R s args own index y cy mL ret (.code y cy mL ret :: Tg) (rmD d) 0 0 0 := ⟨rfl, rfl, ((hroom)).1, ((hroom)).2, pay_in C.2.2.2.2.1 (code_good hm.1), List.mem_cons_self, C.2.2.2.2.1 _ hm.1, C.2.2.2.2.1 _ hm.2.1, ⟨hm.2.2.1, hm.2.2.2.1⟩, fun sig h => by have h2 := hm.2.2.2.2.1; rw [h] at h2; exact (Option.some.inj h2).symm, C.2.2.2.2.1 _ hlk⟩
  have hrun := va_runV (e := e) (below := below) (meth := meth) (As := []) (rest := rest) (g := F0 m pc ls (.ref b :: rest)) (locs := locs) (cells := cells) (slots := slots) ⟨C.1, C.2.1, C.2.2.1, C.2.2.2.1, C.2.2.2.2.1⟩ (hct H.size) ⟨hcb, C.2.2.2.2.1 _ him, C.2.2.2.2.1 _ hse⟩ ⟨PCt.blind, by have h9 := va_recv C.2.2.2.2.2.1 hP hc he; rw [hcn] at h9; exact h9, pct_pre C hP hD rfl hC hn⟩ rfl rfl hl.1 rfl (lv_room (catsum_le hrest)) hd ⟨hcs.1, hcs.2⟩
  exact ww_run hrun C.2.2.2.2.2.2.1 hP hD hS hl hC hn ha hpc k
theorem ww_callV0p (C : Cx p R s m args meth c cc own nL Γ A dd) {y : MethodName} {cy : ByteArray} {mL : Nat} {ret : Option FieldType} {d index : Nat} {b : Nat}  {r : Value} {rest : List Value} (hct : Ct l Γ y cy mL ret d [.ref b] wc (some r) wc) (hm : MI y cy mL ret 0) (him : Cond.instanceMethod y ∈ Tg) (hse : Cond.selects y.cls y y ∈ Tg) (hlk : Cond.methodLink own index y ∈ Tg) (hd : decode cc pc = .ok (.invokevirtual index, 3)) (q0 : Nat) {ci : Nat} {fs : List Value} {qc : vw_C} (he : ws[q0]? = some (b, .inr (ci, fs))) (hc : vwCl[ci]? = some qc) (hcn : qc.1 = y.cls) (hdd : d + 1 ≤ dd) (hmL : mL ≤ 16) (hrest : rest.length ≤ 4) (hcs : cells ≤ R.cells ∧ slots ≤ R.slots) (is : List Nat) (hC : is.map (fun i => ws[i]?) = wc.map some) (hn : va_nd is = true) (pc2 : Nat) (hpc : pc + 3 = pc2) (k : WW p l e R s m args below meth c cells slots Q Γ A nL ws pc2 lv (r :: rest)) : WW p l e R s m args below meth c cells slots Q Γ A nL ws pc lv (.ref b :: rest) := fun H locs ls hP hD hS hl => by
  have hroom : d + 1 ≤ R.frames ∧ 8 + (mL + 11) + 35 * d ≤ R.locals := ⟨Nat.le_trans hdd C.2.2.2.2.2.2.2.2.1, by have := C.2.2.2.2.2.2.2.2.2; show 8 + (mL + 11) + 35 * d ≤ R.locals; omega⟩
  have hcb : CallB R s args own index y cy mL ret (.code y cy mL ret :: Tg) (rmD d) 0 0 0 := ⟨rfl, rfl, ((hroom)).1, ((hroom)).2, pay_in C.2.2.2.2.1 (code_good hm.1), List.mem_cons_self, C.2.2.2.2.1 _ hm.1, C.2.2.2.2.1 _ hm.2.1, ⟨hm.2.2.1, hm.2.2.2.1⟩, fun sig h => by have h2 := hm.2.2.2.2.1; rw [h] at h2; exact (Option.some.inj h2).symm, C.2.2.2.2.1 _ hlk⟩
  have hrun := va_runV (e := e) (below := below) (meth := meth) (As := []) (rest := rest) (g := F0 m pc ls (.ref b :: rest)) (locs := locs) (cells := cells) (slots := slots) ⟨C.1, C.2.1, C.2.2.1, C.2.2.2.1, C.2.2.2.2.1⟩ (hct H.size) ⟨hcb, C.2.2.2.2.1 _ him, C.2.2.2.2.1 _ hse⟩ ⟨PCt.blind, by have h9 := va_recv C.2.2.2.2.2.1 hP hc he; rw [hcn] at h9; exact h9, pct_pre C hP hD rfl hC hn⟩ rfl rfl hl.1 rfl (lv_room (catsum_le hrest)) hd ⟨hcs.1, hcs.2⟩
  exact ww_run hrun C.2.2.2.2.2.2.1 hP hD hS hl hC hn rfl hpc (by rw [pB_same is hC]; exact k)
theorem ww_callV0v (C : Cx p R s m args meth c cc own nL Γ A dd) {y : MethodName} {cy : ByteArray} {mL : Nat} {ret : Option FieldType} {d index : Nat} {b : Nat}  {rest : List Value} (hct : Ct l Γ y cy mL ret d [.ref b] wc none wc') (hm : MI y cy mL ret 0) (him : Cond.instanceMethod y ∈ Tg) (hse : Cond.selects y.cls y y ∈ Tg) (hlk : Cond.methodLink own index y ∈ Tg) (hd : decode cc pc = .ok (.invokevirtual index, 3)) (q0 : Nat) {ci : Nat} {fs : List Value} {qc : vw_C} (he : ws[q0]? = some (b, .inr (ci, fs))) (hc : vwCl[ci]? = some qc) (hcn : qc.1 = y.cls) (hdd : d + 1 ≤ dd) (hmL : mL ≤ 16) (hrest : rest.length ≤ 4) (hcs : cells ≤ R.cells ∧ slots ≤ R.slots) (is : List Nat) (hC : is.map (fun i => ws[i]?) = wc.map some) (hn : va_nd is = true) (ha : wc'.map (fun q => q.1) = wc.map (fun q => q.1)) (pc2 : Nat) (hpc : pc + 3 = pc2) (k : WW p l e R s m args below meth c cells slots Q Γ A nL (pB ws is wc') pc2 lv rest) : WW p l e R s m args below meth c cells slots Q Γ A nL ws pc lv (.ref b :: rest) := fun H locs ls hP hD hS hl => by
  have hroom : d + 1 ≤ R.frames ∧ 8 + (mL + 11) + 35 * d ≤ R.locals := ⟨Nat.le_trans hdd C.2.2.2.2.2.2.2.2.1, by have := C.2.2.2.2.2.2.2.2.2; show 8 + (mL + 11) + 35 * d ≤ R.locals; omega⟩
  have hcb : CallB R s args own index y cy mL ret (.code y cy mL ret :: Tg) (rmD d) 0 0 0 := ⟨rfl, rfl, ((hroom)).1, ((hroom)).2, pay_in C.2.2.2.2.1 (code_good hm.1), List.mem_cons_self, C.2.2.2.2.1 _ hm.1, C.2.2.2.2.1 _ hm.2.1, ⟨hm.2.2.1, hm.2.2.2.1⟩, fun sig h => by have h2 := hm.2.2.2.2.1; rw [h] at h2; exact (Option.some.inj h2).symm, C.2.2.2.2.1 _ hlk⟩
  have hrun := va_runV (e := e) (below := below) (meth := meth) (As := []) (rest := rest) (g := F0 m pc ls (.ref b :: rest)) (locs := locs) (cells := cells) (slots := slots) ⟨C.1, C.2.1, C.2.2.1, C.2.2.2.1, C.2.2.2.2.1⟩ (hct H.size) ⟨hcb, C.2.2.2.2.1 _ him, C.2.2.2.2.1 _ hse⟩ ⟨PCt.blind, by have h9 := va_recv C.2.2.2.2.2.1 hP hc he; rw [hcn] at h9; exact h9, pct_pre C hP hD rfl hC hn⟩ rfl rfl hl.1 rfl (lv_room (catsum_le hrest)) hd ⟨hcs.1, hcs.2⟩
  exact ww_run hrun C.2.2.2.2.2.2.1 hP hD hS hl hC hn ha hpc k
theorem ww_callV0vp (C : Cx p R s m args meth c cc own nL Γ A dd) {y : MethodName} {cy : ByteArray} {mL : Nat} {ret : Option FieldType} {d index : Nat} {b : Nat}  {rest : List Value} (hct : Ct l Γ y cy mL ret d [.ref b] wc none wc) (hm : MI y cy mL ret 0) (him : Cond.instanceMethod y ∈ Tg) (hse : Cond.selects y.cls y y ∈ Tg) (hlk : Cond.methodLink own index y ∈ Tg) (hd : decode cc pc = .ok (.invokevirtual index, 3)) (q0 : Nat) {ci : Nat} {fs : List Value} {qc : vw_C} (he : ws[q0]? = some (b, .inr (ci, fs))) (hc : vwCl[ci]? = some qc) (hcn : qc.1 = y.cls) (hdd : d + 1 ≤ dd) (hmL : mL ≤ 16) (hrest : rest.length ≤ 4) (hcs : cells ≤ R.cells ∧ slots ≤ R.slots) (is : List Nat) (hC : is.map (fun i => ws[i]?) = wc.map some) (hn : va_nd is = true) (pc2 : Nat) (hpc : pc + 3 = pc2) (k : WW p l e R s m args below meth c cells slots Q Γ A nL ws pc2 lv rest) : WW p l e R s m args below meth c cells slots Q Γ A nL ws pc lv (.ref b :: rest) := fun H locs ls hP hD hS hl => by
  have hroom : d + 1 ≤ R.frames ∧ 8 + (mL + 11) + 35 * d ≤ R.locals := ⟨Nat.le_trans hdd C.2.2.2.2.2.2.2.2.1, by have := C.2.2.2.2.2.2.2.2.2; show 8 + (mL + 11) + 35 * d ≤ R.locals; omega⟩
  have hcb : CallB R s args own index y cy mL ret (.code y cy mL ret :: Tg) (rmD d) 0 0 0 := ⟨rfl, rfl, ((hroom)).1, ((hroom)).2, pay_in C.2.2.2.2.1 (code_good hm.1), List.mem_cons_self, C.2.2.2.2.1 _ hm.1, C.2.2.2.2.1 _ hm.2.1, ⟨hm.2.2.1, hm.2.2.2.1⟩, fun sig h => by have h2 := hm.2.2.2.2.1; rw [h] at h2; exact (Option.some.inj h2).symm, C.2.2.2.2.1 _ hlk⟩
  have hrun := va_runV (e := e) (below := below) (meth := meth) (As := []) (rest := rest) (g := F0 m pc ls (.ref b :: rest)) (locs := locs) (cells := cells) (slots := slots) ⟨C.1, C.2.1, C.2.2.1, C.2.2.2.1, C.2.2.2.2.1⟩ (hct H.size) ⟨hcb, C.2.2.2.2.1 _ him, C.2.2.2.2.1 _ hse⟩ ⟨PCt.blind, by have h9 := va_recv C.2.2.2.2.2.1 hP hc he; rw [hcn] at h9; exact h9, pct_pre C hP hD rfl hC hn⟩ rfl rfl hl.1 rfl (lv_room (catsum_le hrest)) hd ⟨hcs.1, hcs.2⟩
  exact ww_run hrun C.2.2.2.2.2.2.1 hP hD hS hl hC hn rfl hpc (by rw [pB_same is hC]; exact k)
theorem ww_callV1 (C : Cx p R s m args meth c cc own nL Γ A dd) {y : MethodName} {cy : ByteArray} {mL : Nat} {ret : Option FieldType} {d index : Nat} {b : Nat} {v1 : Value} {r : Value} {rest : List Value} (hct : Ct l Γ y cy mL ret d [.ref b, v1] wc (some r) wc') (hm : MI y cy mL ret 1) (him : Cond.instanceMethod y ∈ Tg) (hse : Cond.selects y.cls y y ∈ Tg) (hlk : Cond.methodLink own index y ∈ Tg) (hd : decode cc pc = .ok (.invokevirtual index, 3)) (q0 : Nat) {ci : Nat} {fs : List Value} {qc : vw_C} (he : ws[q0]? = some (b, .inr (ci, fs))) (hc : vwCl[ci]? = some qc) (hcn : qc.1 = y.cls) (hdd : d + 1 ≤ dd) (hmL : mL ≤ 16) (hrest : rest.length ≤ 4) (hcs : cells ≤ R.cells ∧ slots ≤ R.slots) (is : List Nat) (hC : is.map (fun i => ws[i]?) = wc.map some) (hn : va_nd is = true) (ha : wc'.map (fun q => q.1) = wc.map (fun q => q.1)) (pc2 : Nat) (hpc : pc + 3 = pc2) (k : WW p l e R s m args below meth c cells slots Q Γ A nL (pB ws is wc') pc2 lv (r :: rest)) : WW p l e R s m args below meth c cells slots Q Γ A nL ws pc lv (v1 :: .ref b :: rest) := fun H locs ls hP hD hS hl => by
  have hroom : d + 1 ≤ R.frames ∧ 8 + (mL + 11) + 35 * d ≤ R.locals := ⟨Nat.le_trans hdd C.2.2.2.2.2.2.2.2.1, by have := C.2.2.2.2.2.2.2.2.2; show 8 + (mL + 11) + 35 * d ≤ R.locals; omega⟩
  have hcb : CallB R s args own index y cy mL ret (.code y cy mL ret :: Tg) (rmD d) 0 0 1 := ⟨rfl, rfl, ((hroom)).1, ((hroom)).2, pay_in C.2.2.2.2.1 (code_good hm.1), List.mem_cons_self, C.2.2.2.2.1 _ hm.1, C.2.2.2.2.1 _ hm.2.1, ⟨hm.2.2.1, hm.2.2.2.1⟩, fun sig h => by have h2 := hm.2.2.2.2.1; rw [h] at h2; exact (Option.some.inj h2).symm, C.2.2.2.2.1 _ hlk⟩
  have hrun := va_runV (e := e) (below := below) (meth := meth) (As := [v1]) (rest := rest) (g := F0 m pc ls (v1 :: .ref b :: rest)) (locs := locs) (cells := cells) (slots := slots) ⟨C.1, C.2.1, C.2.2.1, C.2.2.2.1, C.2.2.2.2.1⟩ (hct H.size) ⟨hcb, C.2.2.2.2.1 _ him, C.2.2.2.2.1 _ hse⟩ ⟨PCt.blind, by have h9 := va_recv C.2.2.2.2.2.1 hP hc he; rw [hcn] at h9; exact h9, pct_pre C hP hD rfl hC hn⟩ rfl rfl hl.1 rfl (lv_room (catsum_le hrest)) hd ⟨hcs.1, hcs.2⟩
  exact ww_run hrun C.2.2.2.2.2.2.1 hP hD hS hl hC hn ha hpc k
theorem ww_callV1p (C : Cx p R s m args meth c cc own nL Γ A dd) {y : MethodName} {cy : ByteArray} {mL : Nat} {ret : Option FieldType} {d index : Nat} {b : Nat} {v1 : Value} {r : Value} {rest : List Value} (hct : Ct l Γ y cy mL ret d [.ref b, v1] wc (some r) wc) (hm : MI y cy mL ret 1) (him : Cond.instanceMethod y ∈ Tg) (hse : Cond.selects y.cls y y ∈ Tg) (hlk : Cond.methodLink own index y ∈ Tg) (hd : decode cc pc = .ok (.invokevirtual index, 3)) (q0 : Nat) {ci : Nat} {fs : List Value} {qc : vw_C} (he : ws[q0]? = some (b, .inr (ci, fs))) (hc : vwCl[ci]? = some qc) (hcn : qc.1 = y.cls) (hdd : d + 1 ≤ dd) (hmL : mL ≤ 16) (hrest : rest.length ≤ 4) (hcs : cells ≤ R.cells ∧ slots ≤ R.slots) (is : List Nat) (hC : is.map (fun i => ws[i]?) = wc.map some) (hn : va_nd is = true) (pc2 : Nat) (hpc : pc + 3 = pc2) (k : WW p l e R s m args below meth c cells slots Q Γ A nL ws pc2 lv (r :: rest)) : WW p l e R s m args below meth c cells slots Q Γ A nL ws pc lv (v1 :: .ref b :: rest) := fun H locs ls hP hD hS hl => by
  have hroom : d + 1 ≤ R.frames ∧ 8 + (mL + 11) + 35 * d ≤ R.locals := ⟨Nat.le_trans hdd C.2.2.2.2.2.2.2.2.1, by have := C.2.2.2.2.2.2.2.2.2; show 8 + (mL + 11) + 35 * d ≤ R.locals; omega⟩
  have hcb : CallB R s args own index y cy mL ret (.code y cy mL ret :: Tg) (rmD d) 0 0 1 := ⟨rfl, rfl, ((hroom)).1, ((hroom)).2, pay_in C.2.2.2.2.1 (code_good hm.1), List.mem_cons_self, C.2.2.2.2.1 _ hm.1, C.2.2.2.2.1 _ hm.2.1, ⟨hm.2.2.1, hm.2.2.2.1⟩, fun sig h => by have h2 := hm.2.2.2.2.1; rw [h] at h2; exact (Option.some.inj h2).symm, C.2.2.2.2.1 _ hlk⟩
  have hrun := va_runV (e := e) (below := below) (meth := meth) (As := [v1]) (rest := rest) (g := F0 m pc ls (v1 :: .ref b :: rest)) (locs := locs) (cells := cells) (slots := slots) ⟨C.1, C.2.1, C.2.2.1, C.2.2.2.1, C.2.2.2.2.1⟩ (hct H.size) ⟨hcb, C.2.2.2.2.1 _ him, C.2.2.2.2.1 _ hse⟩ ⟨PCt.blind, by have h9 := va_recv C.2.2.2.2.2.1 hP hc he; rw [hcn] at h9; exact h9, pct_pre C hP hD rfl hC hn⟩ rfl rfl hl.1 rfl (lv_room (catsum_le hrest)) hd ⟨hcs.1, hcs.2⟩
  exact ww_run hrun C.2.2.2.2.2.2.1 hP hD hS hl hC hn rfl hpc (by rw [pB_same is hC]; exact k)
theorem ww_callV1v (C : Cx p R s m args meth c cc own nL Γ A dd) {y : MethodName} {cy : ByteArray} {mL : Nat} {ret : Option FieldType} {d index : Nat} {b : Nat} {v1 : Value} {rest : List Value} (hct : Ct l Γ y cy mL ret d [.ref b, v1] wc none wc') (hm : MI y cy mL ret 1) (him : Cond.instanceMethod y ∈ Tg) (hse : Cond.selects y.cls y y ∈ Tg) (hlk : Cond.methodLink own index y ∈ Tg) (hd : decode cc pc = .ok (.invokevirtual index, 3)) (q0 : Nat) {ci : Nat} {fs : List Value} {qc : vw_C} (he : ws[q0]? = some (b, .inr (ci, fs))) (hc : vwCl[ci]? = some qc) (hcn : qc.1 = y.cls) (hdd : d + 1 ≤ dd) (hmL : mL ≤ 16) (hrest : rest.length ≤ 4) (hcs : cells ≤ R.cells ∧ slots ≤ R.slots) (is : List Nat) (hC : is.map (fun i => ws[i]?) = wc.map some) (hn : va_nd is = true) (ha : wc'.map (fun q => q.1) = wc.map (fun q => q.1)) (pc2 : Nat) (hpc : pc + 3 = pc2) (k : WW p l e R s m args below meth c cells slots Q Γ A nL (pB ws is wc') pc2 lv rest) : WW p l e R s m args below meth c cells slots Q Γ A nL ws pc lv (v1 :: .ref b :: rest) := fun H locs ls hP hD hS hl => by
  have hroom : d + 1 ≤ R.frames ∧ 8 + (mL + 11) + 35 * d ≤ R.locals := ⟨Nat.le_trans hdd C.2.2.2.2.2.2.2.2.1, by have := C.2.2.2.2.2.2.2.2.2; show 8 + (mL + 11) + 35 * d ≤ R.locals; omega⟩
  have hcb : CallB R s args own index y cy mL ret (.code y cy mL ret :: Tg) (rmD d) 0 0 1 := ⟨rfl, rfl, ((hroom)).1, ((hroom)).2, pay_in C.2.2.2.2.1 (code_good hm.1), List.mem_cons_self, C.2.2.2.2.1 _ hm.1, C.2.2.2.2.1 _ hm.2.1, ⟨hm.2.2.1, hm.2.2.2.1⟩, fun sig h => by have h2 := hm.2.2.2.2.1; rw [h] at h2; exact (Option.some.inj h2).symm, C.2.2.2.2.1 _ hlk⟩
  have hrun := va_runV (e := e) (below := below) (meth := meth) (As := [v1]) (rest := rest) (g := F0 m pc ls (v1 :: .ref b :: rest)) (locs := locs) (cells := cells) (slots := slots) ⟨C.1, C.2.1, C.2.2.1, C.2.2.2.1, C.2.2.2.2.1⟩ (hct H.size) ⟨hcb, C.2.2.2.2.1 _ him, C.2.2.2.2.1 _ hse⟩ ⟨PCt.blind, by have h9 := va_recv C.2.2.2.2.2.1 hP hc he; rw [hcn] at h9; exact h9, pct_pre C hP hD rfl hC hn⟩ rfl rfl hl.1 rfl (lv_room (catsum_le hrest)) hd ⟨hcs.1, hcs.2⟩
  exact ww_run hrun C.2.2.2.2.2.2.1 hP hD hS hl hC hn ha hpc k
theorem ww_callV1vp (C : Cx p R s m args meth c cc own nL Γ A dd) {y : MethodName} {cy : ByteArray} {mL : Nat} {ret : Option FieldType} {d index : Nat} {b : Nat} {v1 : Value} {rest : List Value} (hct : Ct l Γ y cy mL ret d [.ref b, v1] wc none wc) (hm : MI y cy mL ret 1) (him : Cond.instanceMethod y ∈ Tg) (hse : Cond.selects y.cls y y ∈ Tg) (hlk : Cond.methodLink own index y ∈ Tg) (hd : decode cc pc = .ok (.invokevirtual index, 3)) (q0 : Nat) {ci : Nat} {fs : List Value} {qc : vw_C} (he : ws[q0]? = some (b, .inr (ci, fs))) (hc : vwCl[ci]? = some qc) (hcn : qc.1 = y.cls) (hdd : d + 1 ≤ dd) (hmL : mL ≤ 16) (hrest : rest.length ≤ 4) (hcs : cells ≤ R.cells ∧ slots ≤ R.slots) (is : List Nat) (hC : is.map (fun i => ws[i]?) = wc.map some) (hn : va_nd is = true) (pc2 : Nat) (hpc : pc + 3 = pc2) (k : WW p l e R s m args below meth c cells slots Q Γ A nL ws pc2 lv rest) : WW p l e R s m args below meth c cells slots Q Γ A nL ws pc lv (v1 :: .ref b :: rest) := fun H locs ls hP hD hS hl => by
  have hroom : d + 1 ≤ R.frames ∧ 8 + (mL + 11) + 35 * d ≤ R.locals := ⟨Nat.le_trans hdd C.2.2.2.2.2.2.2.2.1, by have := C.2.2.2.2.2.2.2.2.2; show 8 + (mL + 11) + 35 * d ≤ R.locals; omega⟩
  have hcb : CallB R s args own index y cy mL ret (.code y cy mL ret :: Tg) (rmD d) 0 0 1 := ⟨rfl, rfl, ((hroom)).1, ((hroom)).2, pay_in C.2.2.2.2.1 (code_good hm.1), List.mem_cons_self, C.2.2.2.2.1 _ hm.1, C.2.2.2.2.1 _ hm.2.1, ⟨hm.2.2.1, hm.2.2.2.1⟩, fun sig h => by have h2 := hm.2.2.2.2.1; rw [h] at h2; exact (Option.some.inj h2).symm, C.2.2.2.2.1 _ hlk⟩
  have hrun := va_runV (e := e) (below := below) (meth := meth) (As := [v1]) (rest := rest) (g := F0 m pc ls (v1 :: .ref b :: rest)) (locs := locs) (cells := cells) (slots := slots) ⟨C.1, C.2.1, C.2.2.1, C.2.2.2.1, C.2.2.2.2.1⟩ (hct H.size) ⟨hcb, C.2.2.2.2.1 _ him, C.2.2.2.2.1 _ hse⟩ ⟨PCt.blind, by have h9 := va_recv C.2.2.2.2.2.1 hP hc he; rw [hcn] at h9; exact h9, pct_pre C hP hD rfl hC hn⟩ rfl rfl hl.1 rfl (lv_room (catsum_le hrest)) hd ⟨hcs.1, hcs.2⟩
  exact ww_run hrun C.2.2.2.2.2.2.1 hP hD hS hl hC hn rfl hpc (by rw [pB_same is hC]; exact k)
theorem ww_callV2 (C : Cx p R s m args meth c cc own nL Γ A dd) {y : MethodName} {cy : ByteArray} {mL : Nat} {ret : Option FieldType} {d index : Nat} {b : Nat} {v1 v2 : Value} {r : Value} {rest : List Value} (hct : Ct l Γ y cy mL ret d [.ref b, v1, v2] wc (some r) wc') (hm : MI y cy mL ret 2) (him : Cond.instanceMethod y ∈ Tg) (hse : Cond.selects y.cls y y ∈ Tg) (hlk : Cond.methodLink own index y ∈ Tg) (hd : decode cc pc = .ok (.invokevirtual index, 3)) (q0 : Nat) {ci : Nat} {fs : List Value} {qc : vw_C} (he : ws[q0]? = some (b, .inr (ci, fs))) (hc : vwCl[ci]? = some qc) (hcn : qc.1 = y.cls) (hdd : d + 1 ≤ dd) (hmL : mL ≤ 16) (hrest : rest.length ≤ 4) (hcs : cells ≤ R.cells ∧ slots ≤ R.slots) (is : List Nat) (hC : is.map (fun i => ws[i]?) = wc.map some) (hn : va_nd is = true) (ha : wc'.map (fun q => q.1) = wc.map (fun q => q.1)) (pc2 : Nat) (hpc : pc + 3 = pc2) (k : WW p l e R s m args below meth c cells slots Q Γ A nL (pB ws is wc') pc2 lv (r :: rest)) : WW p l e R s m args below meth c cells slots Q Γ A nL ws pc lv (v2 :: v1 :: .ref b :: rest) := fun H locs ls hP hD hS hl => by
  have hroom : d + 1 ≤ R.frames ∧ 8 + (mL + 11) + 35 * d ≤ R.locals := ⟨Nat.le_trans hdd C.2.2.2.2.2.2.2.2.1, by have := C.2.2.2.2.2.2.2.2.2; show 8 + (mL + 11) + 35 * d ≤ R.locals; omega⟩
  have hcb : CallB R s args own index y cy mL ret (.code y cy mL ret :: Tg) (rmD d) 0 0 2 := ⟨rfl, rfl, ((hroom)).1, ((hroom)).2, pay_in C.2.2.2.2.1 (code_good hm.1), List.mem_cons_self, C.2.2.2.2.1 _ hm.1, C.2.2.2.2.1 _ hm.2.1, ⟨hm.2.2.1, hm.2.2.2.1⟩, fun sig h => by have h2 := hm.2.2.2.2.1; rw [h] at h2; exact (Option.some.inj h2).symm, C.2.2.2.2.1 _ hlk⟩
  have hrun := va_runV (e := e) (below := below) (meth := meth) (As := [v1, v2]) (rest := rest) (g := F0 m pc ls (v2 :: v1 :: .ref b :: rest)) (locs := locs) (cells := cells) (slots := slots) ⟨C.1, C.2.1, C.2.2.1, C.2.2.2.1, C.2.2.2.2.1⟩ (hct H.size) ⟨hcb, C.2.2.2.2.1 _ him, C.2.2.2.2.1 _ hse⟩ ⟨PCt.blind, by have h9 := va_recv C.2.2.2.2.2.1 hP hc he; rw [hcn] at h9; exact h9, pct_pre C hP hD rfl hC hn⟩ rfl rfl hl.1 rfl (lv_room (catsum_le hrest)) hd ⟨hcs.1, hcs.2⟩
  exact ww_run hrun C.2.2.2.2.2.2.1 hP hD hS hl hC hn ha hpc k
theorem ww_callV2p (C : Cx p R s m args meth c cc own nL Γ A dd) {y : MethodName} {cy : ByteArray} {mL : Nat} {ret : Option FieldType} {d index : Nat} {b : Nat} {v1 v2 : Value} {r : Value} {rest : List Value} (hct : Ct l Γ y cy mL ret d [.ref b, v1, v2] wc (some r) wc) (hm : MI y cy mL ret 2) (him : Cond.instanceMethod y ∈ Tg) (hse : Cond.selects y.cls y y ∈ Tg) (hlk : Cond.methodLink own index y ∈ Tg) (hd : decode cc pc = .ok (.invokevirtual index, 3)) (q0 : Nat) {ci : Nat} {fs : List Value} {qc : vw_C} (he : ws[q0]? = some (b, .inr (ci, fs))) (hc : vwCl[ci]? = some qc) (hcn : qc.1 = y.cls) (hdd : d + 1 ≤ dd) (hmL : mL ≤ 16) (hrest : rest.length ≤ 4) (hcs : cells ≤ R.cells ∧ slots ≤ R.slots) (is : List Nat) (hC : is.map (fun i => ws[i]?) = wc.map some) (hn : va_nd is = true) (pc2 : Nat) (hpc : pc + 3 = pc2) (k : WW p l e R s m args below meth c cells slots Q Γ A nL ws pc2 lv (r :: rest)) : WW p l e R s m args below meth c cells slots Q Γ A nL ws pc lv (v2 :: v1 :: .ref b :: rest) := fun H locs ls hP hD hS hl => by
  have hroom : d + 1 ≤ R.frames ∧ 8 + (mL + 11) + 35 * d ≤ R.locals := ⟨Nat.le_trans hdd C.2.2.2.2.2.2.2.2.1, by have := C.2.2.2.2.2.2.2.2.2; show 8 + (mL + 11) + 35 * d ≤ R.locals; omega⟩
  have hcb : CallB R s args own index y cy mL ret (.code y cy mL ret :: Tg) (rmD d) 0 0 2 := ⟨rfl, rfl, ((hroom)).1, ((hroom)).2, pay_in C.2.2.2.2.1 (code_good hm.1), List.mem_cons_self, C.2.2.2.2.1 _ hm.1, C.2.2.2.2.1 _ hm.2.1, ⟨hm.2.2.1, hm.2.2.2.1⟩, fun sig h => by have h2 := hm.2.2.2.2.1; rw [h] at h2; exact (Option.some.inj h2).symm, C.2.2.2.2.1 _ hlk⟩
  have hrun := va_runV (e := e) (below := below) (meth := meth) (As := [v1, v2]) (rest := rest) (g := F0 m pc ls (v2 :: v1 :: .ref b :: rest)) (locs := locs) (cells := cells) (slots := slots) ⟨C.1, C.2.1, C.2.2.1, C.2.2.2.1, C.2.2.2.2.1⟩ (hct H.size) ⟨hcb, C.2.2.2.2.1 _ him, C.2.2.2.2.1 _ hse⟩ ⟨PCt.blind, by have h9 := va_recv C.2.2.2.2.2.1 hP hc he; rw [hcn] at h9; exact h9, pct_pre C hP hD rfl hC hn⟩ rfl rfl hl.1 rfl (lv_room (catsum_le hrest)) hd ⟨hcs.1, hcs.2⟩
  exact ww_run hrun C.2.2.2.2.2.2.1 hP hD hS hl hC hn rfl hpc (by rw [pB_same is hC]; exact k)
theorem ww_callV2v (C : Cx p R s m args meth c cc own nL Γ A dd) {y : MethodName} {cy : ByteArray} {mL : Nat} {ret : Option FieldType} {d index : Nat} {b : Nat} {v1 v2 : Value} {rest : List Value} (hct : Ct l Γ y cy mL ret d [.ref b, v1, v2] wc none wc') (hm : MI y cy mL ret 2) (him : Cond.instanceMethod y ∈ Tg) (hse : Cond.selects y.cls y y ∈ Tg) (hlk : Cond.methodLink own index y ∈ Tg) (hd : decode cc pc = .ok (.invokevirtual index, 3)) (q0 : Nat) {ci : Nat} {fs : List Value} {qc : vw_C} (he : ws[q0]? = some (b, .inr (ci, fs))) (hc : vwCl[ci]? = some qc) (hcn : qc.1 = y.cls) (hdd : d + 1 ≤ dd) (hmL : mL ≤ 16) (hrest : rest.length ≤ 4) (hcs : cells ≤ R.cells ∧ slots ≤ R.slots) (is : List Nat) (hC : is.map (fun i => ws[i]?) = wc.map some) (hn : va_nd is = true) (ha : wc'.map (fun q => q.1) = wc.map (fun q => q.1)) (pc2 : Nat) (hpc : pc + 3 = pc2) (k : WW p l e R s m args below meth c cells slots Q Γ A nL (pB ws is wc') pc2 lv rest) : WW p l e R s m args below meth c cells slots Q Γ A nL ws pc lv (v2 :: v1 :: .ref b :: rest) := fun H locs ls hP hD hS hl => by
  have hroom : d + 1 ≤ R.frames ∧ 8 + (mL + 11) + 35 * d ≤ R.locals := ⟨Nat.le_trans hdd C.2.2.2.2.2.2.2.2.1, by have := C.2.2.2.2.2.2.2.2.2; show 8 + (mL + 11) + 35 * d ≤ R.locals; omega⟩
  have hcb : CallB R s args own index y cy mL ret (.code y cy mL ret :: Tg) (rmD d) 0 0 2 := ⟨rfl, rfl, ((hroom)).1, ((hroom)).2, pay_in C.2.2.2.2.1 (code_good hm.1), List.mem_cons_self, C.2.2.2.2.1 _ hm.1, C.2.2.2.2.1 _ hm.2.1, ⟨hm.2.2.1, hm.2.2.2.1⟩, fun sig h => by have h2 := hm.2.2.2.2.1; rw [h] at h2; exact (Option.some.inj h2).symm, C.2.2.2.2.1 _ hlk⟩
  have hrun := va_runV (e := e) (below := below) (meth := meth) (As := [v1, v2]) (rest := rest) (g := F0 m pc ls (v2 :: v1 :: .ref b :: rest)) (locs := locs) (cells := cells) (slots := slots) ⟨C.1, C.2.1, C.2.2.1, C.2.2.2.1, C.2.2.2.2.1⟩ (hct H.size) ⟨hcb, C.2.2.2.2.1 _ him, C.2.2.2.2.1 _ hse⟩ ⟨PCt.blind, by have h9 := va_recv C.2.2.2.2.2.1 hP hc he; rw [hcn] at h9; exact h9, pct_pre C hP hD rfl hC hn⟩ rfl rfl hl.1 rfl (lv_room (catsum_le hrest)) hd ⟨hcs.1, hcs.2⟩
  exact ww_run hrun C.2.2.2.2.2.2.1 hP hD hS hl hC hn ha hpc k
theorem ww_callV2vp (C : Cx p R s m args meth c cc own nL Γ A dd) {y : MethodName} {cy : ByteArray} {mL : Nat} {ret : Option FieldType} {d index : Nat} {b : Nat} {v1 v2 : Value} {rest : List Value} (hct : Ct l Γ y cy mL ret d [.ref b, v1, v2] wc none wc) (hm : MI y cy mL ret 2) (him : Cond.instanceMethod y ∈ Tg) (hse : Cond.selects y.cls y y ∈ Tg) (hlk : Cond.methodLink own index y ∈ Tg) (hd : decode cc pc = .ok (.invokevirtual index, 3)) (q0 : Nat) {ci : Nat} {fs : List Value} {qc : vw_C} (he : ws[q0]? = some (b, .inr (ci, fs))) (hc : vwCl[ci]? = some qc) (hcn : qc.1 = y.cls) (hdd : d + 1 ≤ dd) (hmL : mL ≤ 16) (hrest : rest.length ≤ 4) (hcs : cells ≤ R.cells ∧ slots ≤ R.slots) (is : List Nat) (hC : is.map (fun i => ws[i]?) = wc.map some) (hn : va_nd is = true) (pc2 : Nat) (hpc : pc + 3 = pc2) (k : WW p l e R s m args below meth c cells slots Q Γ A nL ws pc2 lv rest) : WW p l e R s m args below meth c cells slots Q Γ A nL ws pc lv (v2 :: v1 :: .ref b :: rest) := fun H locs ls hP hD hS hl => by
  have hroom : d + 1 ≤ R.frames ∧ 8 + (mL + 11) + 35 * d ≤ R.locals := ⟨Nat.le_trans hdd C.2.2.2.2.2.2.2.2.1, by have := C.2.2.2.2.2.2.2.2.2; show 8 + (mL + 11) + 35 * d ≤ R.locals; omega⟩
  have hcb : CallB R s args own index y cy mL ret (.code y cy mL ret :: Tg) (rmD d) 0 0 2 := ⟨rfl, rfl, ((hroom)).1, ((hroom)).2, pay_in C.2.2.2.2.1 (code_good hm.1), List.mem_cons_self, C.2.2.2.2.1 _ hm.1, C.2.2.2.2.1 _ hm.2.1, ⟨hm.2.2.1, hm.2.2.2.1⟩, fun sig h => by have h2 := hm.2.2.2.2.1; rw [h] at h2; exact (Option.some.inj h2).symm, C.2.2.2.2.1 _ hlk⟩
  have hrun := va_runV (e := e) (below := below) (meth := meth) (As := [v1, v2]) (rest := rest) (g := F0 m pc ls (v2 :: v1 :: .ref b :: rest)) (locs := locs) (cells := cells) (slots := slots) ⟨C.1, C.2.1, C.2.2.1, C.2.2.2.1, C.2.2.2.2.1⟩ (hct H.size) ⟨hcb, C.2.2.2.2.1 _ him, C.2.2.2.2.1 _ hse⟩ ⟨PCt.blind, by have h9 := va_recv C.2.2.2.2.2.1 hP hc he; rw [hcn] at h9; exact h9, pct_pre C hP hD rfl hC hn⟩ rfl rfl hl.1 rfl (lv_room (catsum_le hrest)) hd ⟨hcs.1, hcs.2⟩
  exact ww_run hrun C.2.2.2.2.2.2.1 hP hD hS hl hC hn rfl hpc (by rw [pB_same is hC]; exact k)
theorem ww_callV3 (C : Cx p R s m args meth c cc own nL Γ A dd) {y : MethodName} {cy : ByteArray} {mL : Nat} {ret : Option FieldType} {d index : Nat} {b : Nat} {v1 v2 v3 : Value} {r : Value} {rest : List Value} (hct : Ct l Γ y cy mL ret d [.ref b, v1, v2, v3] wc (some r) wc') (hm : MI y cy mL ret 3) (him : Cond.instanceMethod y ∈ Tg) (hse : Cond.selects y.cls y y ∈ Tg) (hlk : Cond.methodLink own index y ∈ Tg) (hd : decode cc pc = .ok (.invokevirtual index, 3)) (q0 : Nat) {ci : Nat} {fs : List Value} {qc : vw_C} (he : ws[q0]? = some (b, .inr (ci, fs))) (hc : vwCl[ci]? = some qc) (hcn : qc.1 = y.cls) (hdd : d + 1 ≤ dd) (hmL : mL ≤ 16) (hrest : rest.length ≤ 4) (hcs : cells ≤ R.cells ∧ slots ≤ R.slots) (is : List Nat) (hC : is.map (fun i => ws[i]?) = wc.map some) (hn : va_nd is = true) (ha : wc'.map (fun q => q.1) = wc.map (fun q => q.1)) (pc2 : Nat) (hpc : pc + 3 = pc2) (k : WW p l e R s m args below meth c cells slots Q Γ A nL (pB ws is wc') pc2 lv (r :: rest)) : WW p l e R s m args below meth c cells slots Q Γ A nL ws pc lv (v3 :: v2 :: v1 :: .ref b :: rest) := fun H locs ls hP hD hS hl => by
  have hroom : d + 1 ≤ R.frames ∧ 8 + (mL + 11) + 35 * d ≤ R.locals := ⟨Nat.le_trans hdd C.2.2.2.2.2.2.2.2.1, by have := C.2.2.2.2.2.2.2.2.2; show 8 + (mL + 11) + 35 * d ≤ R.locals; omega⟩
  have hcb : CallB R s args own index y cy mL ret (.code y cy mL ret :: Tg) (rmD d) 0 0 3 := ⟨rfl, rfl, ((hroom)).1, ((hroom)).2, pay_in C.2.2.2.2.1 (code_good hm.1), List.mem_cons_self, C.2.2.2.2.1 _ hm.1, C.2.2.2.2.1 _ hm.2.1, ⟨hm.2.2.1, hm.2.2.2.1⟩, fun sig h => by have h2 := hm.2.2.2.2.1; rw [h] at h2; exact (Option.some.inj h2).symm, C.2.2.2.2.1 _ hlk⟩
  have hrun := va_runV (e := e) (below := below) (meth := meth) (As := [v1, v2, v3]) (rest := rest) (g := F0 m pc ls (v3 :: v2 :: v1 :: .ref b :: rest)) (locs := locs) (cells := cells) (slots := slots) ⟨C.1, C.2.1, C.2.2.1, C.2.2.2.1, C.2.2.2.2.1⟩ (hct H.size) ⟨hcb, C.2.2.2.2.1 _ him, C.2.2.2.2.1 _ hse⟩ ⟨PCt.blind, by have h9 := va_recv C.2.2.2.2.2.1 hP hc he; rw [hcn] at h9; exact h9, pct_pre C hP hD rfl hC hn⟩ rfl rfl hl.1 rfl (lv_room (catsum_le hrest)) hd ⟨hcs.1, hcs.2⟩
  exact ww_run hrun C.2.2.2.2.2.2.1 hP hD hS hl hC hn ha hpc k
theorem ww_callV3p (C : Cx p R s m args meth c cc own nL Γ A dd) {y : MethodName} {cy : ByteArray} {mL : Nat} {ret : Option FieldType} {d index : Nat} {b : Nat} {v1 v2 v3 : Value} {r : Value} {rest : List Value} (hct : Ct l Γ y cy mL ret d [.ref b, v1, v2, v3] wc (some r) wc) (hm : MI y cy mL ret 3) (him : Cond.instanceMethod y ∈ Tg) (hse : Cond.selects y.cls y y ∈ Tg) (hlk : Cond.methodLink own index y ∈ Tg) (hd : decode cc pc = .ok (.invokevirtual index, 3)) (q0 : Nat) {ci : Nat} {fs : List Value} {qc : vw_C} (he : ws[q0]? = some (b, .inr (ci, fs))) (hc : vwCl[ci]? = some qc) (hcn : qc.1 = y.cls) (hdd : d + 1 ≤ dd) (hmL : mL ≤ 16) (hrest : rest.length ≤ 4) (hcs : cells ≤ R.cells ∧ slots ≤ R.slots) (is : List Nat) (hC : is.map (fun i => ws[i]?) = wc.map some) (hn : va_nd is = true) (pc2 : Nat) (hpc : pc + 3 = pc2) (k : WW p l e R s m args below meth c cells slots Q Γ A nL ws pc2 lv (r :: rest)) : WW p l e R s m args below meth c cells slots Q Γ A nL ws pc lv (v3 :: v2 :: v1 :: .ref b :: rest) := fun H locs ls hP hD hS hl => by
  have hroom : d + 1 ≤ R.frames ∧ 8 + (mL + 11) + 35 * d ≤ R.locals := ⟨Nat.le_trans hdd C.2.2.2.2.2.2.2.2.1, by have := C.2.2.2.2.2.2.2.2.2; show 8 + (mL + 11) + 35 * d ≤ R.locals; omega⟩
  have hcb : CallB R s args own index y cy mL ret (.code y cy mL ret :: Tg) (rmD d) 0 0 3 := ⟨rfl, rfl, ((hroom)).1, ((hroom)).2, pay_in C.2.2.2.2.1 (code_good hm.1), List.mem_cons_self, C.2.2.2.2.1 _ hm.1, C.2.2.2.2.1 _ hm.2.1, ⟨hm.2.2.1, hm.2.2.2.1⟩, fun sig h => by have h2 := hm.2.2.2.2.1; rw [h] at h2; exact (Option.some.inj h2).symm, C.2.2.2.2.1 _ hlk⟩
  have hrun := va_runV (e := e) (below := below) (meth := meth) (As := [v1, v2, v3]) (rest := rest) (g := F0 m pc ls (v3 :: v2 :: v1 :: .ref b :: rest)) (locs := locs) (cells := cells) (slots := slots) ⟨C.1, C.2.1, C.2.2.1, C.2.2.2.1, C.2.2.2.2.1⟩ (hct H.size) ⟨hcb, C.2.2.2.2.1 _ him, C.2.2.2.2.1 _ hse⟩ ⟨PCt.blind, by have h9 := va_recv C.2.2.2.2.2.1 hP hc he; rw [hcn] at h9; exact h9, pct_pre C hP hD rfl hC hn⟩ rfl rfl hl.1 rfl (lv_room (catsum_le hrest)) hd ⟨hcs.1, hcs.2⟩
  exact ww_run hrun C.2.2.2.2.2.2.1 hP hD hS hl hC hn rfl hpc (by rw [pB_same is hC]; exact k)
theorem ww_callV3v (C : Cx p R s m args meth c cc own nL Γ A dd) {y : MethodName} {cy : ByteArray} {mL : Nat} {ret : Option FieldType} {d index : Nat} {b : Nat} {v1 v2 v3 : Value} {rest : List Value} (hct : Ct l Γ y cy mL ret d [.ref b, v1, v2, v3] wc none wc') (hm : MI y cy mL ret 3) (him : Cond.instanceMethod y ∈ Tg) (hse : Cond.selects y.cls y y ∈ Tg) (hlk : Cond.methodLink own index y ∈ Tg) (hd : decode cc pc = .ok (.invokevirtual index, 3)) (q0 : Nat) {ci : Nat} {fs : List Value} {qc : vw_C} (he : ws[q0]? = some (b, .inr (ci, fs))) (hc : vwCl[ci]? = some qc) (hcn : qc.1 = y.cls) (hdd : d + 1 ≤ dd) (hmL : mL ≤ 16) (hrest : rest.length ≤ 4) (hcs : cells ≤ R.cells ∧ slots ≤ R.slots) (is : List Nat) (hC : is.map (fun i => ws[i]?) = wc.map some) (hn : va_nd is = true) (ha : wc'.map (fun q => q.1) = wc.map (fun q => q.1)) (pc2 : Nat) (hpc : pc + 3 = pc2) (k : WW p l e R s m args below meth c cells slots Q Γ A nL (pB ws is wc') pc2 lv rest) : WW p l e R s m args below meth c cells slots Q Γ A nL ws pc lv (v3 :: v2 :: v1 :: .ref b :: rest) := fun H locs ls hP hD hS hl => by
  have hroom : d + 1 ≤ R.frames ∧ 8 + (mL + 11) + 35 * d ≤ R.locals := ⟨Nat.le_trans hdd C.2.2.2.2.2.2.2.2.1, by have := C.2.2.2.2.2.2.2.2.2; show 8 + (mL + 11) + 35 * d ≤ R.locals; omega⟩
  have hcb : CallB R s args own index y cy mL ret (.code y cy mL ret :: Tg) (rmD d) 0 0 3 := ⟨rfl, rfl, ((hroom)).1, ((hroom)).2, pay_in C.2.2.2.2.1 (code_good hm.1), List.mem_cons_self, C.2.2.2.2.1 _ hm.1, C.2.2.2.2.1 _ hm.2.1, ⟨hm.2.2.1, hm.2.2.2.1⟩, fun sig h => by have h2 := hm.2.2.2.2.1; rw [h] at h2; exact (Option.some.inj h2).symm, C.2.2.2.2.1 _ hlk⟩
  have hrun := va_runV (e := e) (below := below) (meth := meth) (As := [v1, v2, v3]) (rest := rest) (g := F0 m pc ls (v3 :: v2 :: v1 :: .ref b :: rest)) (locs := locs) (cells := cells) (slots := slots) ⟨C.1, C.2.1, C.2.2.1, C.2.2.2.1, C.2.2.2.2.1⟩ (hct H.size) ⟨hcb, C.2.2.2.2.1 _ him, C.2.2.2.2.1 _ hse⟩ ⟨PCt.blind, by have h9 := va_recv C.2.2.2.2.2.1 hP hc he; rw [hcn] at h9; exact h9, pct_pre C hP hD rfl hC hn⟩ rfl rfl hl.1 rfl (lv_room (catsum_le hrest)) hd ⟨hcs.1, hcs.2⟩
  exact ww_run hrun C.2.2.2.2.2.2.1 hP hD hS hl hC hn ha hpc k
theorem ww_callV3vp (C : Cx p R s m args meth c cc own nL Γ A dd) {y : MethodName} {cy : ByteArray} {mL : Nat} {ret : Option FieldType} {d index : Nat} {b : Nat} {v1 v2 v3 : Value} {rest : List Value} (hct : Ct l Γ y cy mL ret d [.ref b, v1, v2, v3] wc none wc) (hm : MI y cy mL ret 3) (him : Cond.instanceMethod y ∈ Tg) (hse : Cond.selects y.cls y y ∈ Tg) (hlk : Cond.methodLink own index y ∈ Tg) (hd : decode cc pc = .ok (.invokevirtual index, 3)) (q0 : Nat) {ci : Nat} {fs : List Value} {qc : vw_C} (he : ws[q0]? = some (b, .inr (ci, fs))) (hc : vwCl[ci]? = some qc) (hcn : qc.1 = y.cls) (hdd : d + 1 ≤ dd) (hmL : mL ≤ 16) (hrest : rest.length ≤ 4) (hcs : cells ≤ R.cells ∧ slots ≤ R.slots) (is : List Nat) (hC : is.map (fun i => ws[i]?) = wc.map some) (hn : va_nd is = true) (pc2 : Nat) (hpc : pc + 3 = pc2) (k : WW p l e R s m args below meth c cells slots Q Γ A nL ws pc2 lv rest) : WW p l e R s m args below meth c cells slots Q Γ A nL ws pc lv (v3 :: v2 :: v1 :: .ref b :: rest) := fun H locs ls hP hD hS hl => by
  have hroom : d + 1 ≤ R.frames ∧ 8 + (mL + 11) + 35 * d ≤ R.locals := ⟨Nat.le_trans hdd C.2.2.2.2.2.2.2.2.1, by have := C.2.2.2.2.2.2.2.2.2; show 8 + (mL + 11) + 35 * d ≤ R.locals; omega⟩
  have hcb : CallB R s args own index y cy mL ret (.code y cy mL ret :: Tg) (rmD d) 0 0 3 := ⟨rfl, rfl, ((hroom)).1, ((hroom)).2, pay_in C.2.2.2.2.1 (code_good hm.1), List.mem_cons_self, C.2.2.2.2.1 _ hm.1, C.2.2.2.2.1 _ hm.2.1, ⟨hm.2.2.1, hm.2.2.2.1⟩, fun sig h => by have h2 := hm.2.2.2.2.1; rw [h] at h2; exact (Option.some.inj h2).symm, C.2.2.2.2.1 _ hlk⟩
  have hrun := va_runV (e := e) (below := below) (meth := meth) (As := [v1, v2, v3]) (rest := rest) (g := F0 m pc ls (v3 :: v2 :: v1 :: .ref b :: rest)) (locs := locs) (cells := cells) (slots := slots) ⟨C.1, C.2.1, C.2.2.1, C.2.2.2.1, C.2.2.2.2.1⟩ (hct H.size) ⟨hcb, C.2.2.2.2.1 _ him, C.2.2.2.2.1 _ hse⟩ ⟨PCt.blind, by have h9 := va_recv C.2.2.2.2.2.1 hP hc he; rw [hcn] at h9; exact h9, pct_pre C hP hD rfl hC hn⟩ rfl rfl hl.1 rfl (lv_room (catsum_le hrest)) hd ⟨hcs.1, hcs.2⟩
  exact ww_run hrun C.2.2.2.2.2.2.1 hP hD hS hl hC hn rfl hpc (by rw [pB_same is hC]; exact k)
theorem ww_callV4 (C : Cx p R s m args meth c cc own nL Γ A dd) {y : MethodName} {cy : ByteArray} {mL : Nat} {ret : Option FieldType} {d index : Nat} {b : Nat} {v1 v2 v3 v4 : Value} {r : Value} {rest : List Value} (hct : Ct l Γ y cy mL ret d [.ref b, v1, v2, v3, v4] wc (some r) wc') (hm : MI y cy mL ret 4) (him : Cond.instanceMethod y ∈ Tg) (hse : Cond.selects y.cls y y ∈ Tg) (hlk : Cond.methodLink own index y ∈ Tg) (hd : decode cc pc = .ok (.invokevirtual index, 3)) (q0 : Nat) {ci : Nat} {fs : List Value} {qc : vw_C} (he : ws[q0]? = some (b, .inr (ci, fs))) (hc : vwCl[ci]? = some qc) (hcn : qc.1 = y.cls) (hdd : d + 1 ≤ dd) (hmL : mL ≤ 16) (hrest : rest.length ≤ 4) (hcs : cells ≤ R.cells ∧ slots ≤ R.slots) (is : List Nat) (hC : is.map (fun i => ws[i]?) = wc.map some) (hn : va_nd is = true) (ha : wc'.map (fun q => q.1) = wc.map (fun q => q.1)) (pc2 : Nat) (hpc : pc + 3 = pc2) (k : WW p l e R s m args below meth c cells slots Q Γ A nL (pB ws is wc') pc2 lv (r :: rest)) : WW p l e R s m args below meth c cells slots Q Γ A nL ws pc lv (v4 :: v3 :: v2 :: v1 :: .ref b :: rest) := fun H locs ls hP hD hS hl => by
  have hroom : d + 1 ≤ R.frames ∧ 8 + (mL + 11) + 35 * d ≤ R.locals := ⟨Nat.le_trans hdd C.2.2.2.2.2.2.2.2.1, by have := C.2.2.2.2.2.2.2.2.2; show 8 + (mL + 11) + 35 * d ≤ R.locals; omega⟩
  have hcb : CallB R s args own index y cy mL ret (.code y cy mL ret :: Tg) (rmD d) 0 0 4 := ⟨rfl, rfl, ((hroom)).1, ((hroom)).2, pay_in C.2.2.2.2.1 (code_good hm.1), List.mem_cons_self, C.2.2.2.2.1 _ hm.1, C.2.2.2.2.1 _ hm.2.1, ⟨hm.2.2.1, hm.2.2.2.1⟩, fun sig h => by have h2 := hm.2.2.2.2.1; rw [h] at h2; exact (Option.some.inj h2).symm, C.2.2.2.2.1 _ hlk⟩
  have hrun := va_runV (e := e) (below := below) (meth := meth) (As := [v1, v2, v3, v4]) (rest := rest) (g := F0 m pc ls (v4 :: v3 :: v2 :: v1 :: .ref b :: rest)) (locs := locs) (cells := cells) (slots := slots) ⟨C.1, C.2.1, C.2.2.1, C.2.2.2.1, C.2.2.2.2.1⟩ (hct H.size) ⟨hcb, C.2.2.2.2.1 _ him, C.2.2.2.2.1 _ hse⟩ ⟨PCt.blind, by have h9 := va_recv C.2.2.2.2.2.1 hP hc he; rw [hcn] at h9; exact h9, pct_pre C hP hD rfl hC hn⟩ rfl rfl hl.1 rfl (lv_room (catsum_le hrest)) hd ⟨hcs.1, hcs.2⟩
  exact ww_run hrun C.2.2.2.2.2.2.1 hP hD hS hl hC hn ha hpc k
theorem ww_callV4p (C : Cx p R s m args meth c cc own nL Γ A dd) {y : MethodName} {cy : ByteArray} {mL : Nat} {ret : Option FieldType} {d index : Nat} {b : Nat} {v1 v2 v3 v4 : Value} {r : Value} {rest : List Value} (hct : Ct l Γ y cy mL ret d [.ref b, v1, v2, v3, v4] wc (some r) wc) (hm : MI y cy mL ret 4) (him : Cond.instanceMethod y ∈ Tg) (hse : Cond.selects y.cls y y ∈ Tg) (hlk : Cond.methodLink own index y ∈ Tg) (hd : decode cc pc = .ok (.invokevirtual index, 3)) (q0 : Nat) {ci : Nat} {fs : List Value} {qc : vw_C} (he : ws[q0]? = some (b, .inr (ci, fs))) (hc : vwCl[ci]? = some qc) (hcn : qc.1 = y.cls) (hdd : d + 1 ≤ dd) (hmL : mL ≤ 16) (hrest : rest.length ≤ 4) (hcs : cells ≤ R.cells ∧ slots ≤ R.slots) (is : List Nat) (hC : is.map (fun i => ws[i]?) = wc.map some) (hn : va_nd is = true) (pc2 : Nat) (hpc : pc + 3 = pc2) (k : WW p l e R s m args below meth c cells slots Q Γ A nL ws pc2 lv (r :: rest)) : WW p l e R s m args below meth c cells slots Q Γ A nL ws pc lv (v4 :: v3 :: v2 :: v1 :: .ref b :: rest) := fun H locs ls hP hD hS hl => by
  have hroom : d + 1 ≤ R.frames ∧ 8 + (mL + 11) + 35 * d ≤ R.locals := ⟨Nat.le_trans hdd C.2.2.2.2.2.2.2.2.1, by have := C.2.2.2.2.2.2.2.2.2; show 8 + (mL + 11) + 35 * d ≤ R.locals; omega⟩
  have hcb : CallB R s args own index y cy mL ret (.code y cy mL ret :: Tg) (rmD d) 0 0 4 := ⟨rfl, rfl, ((hroom)).1, ((hroom)).2, pay_in C.2.2.2.2.1 (code_good hm.1), List.mem_cons_self, C.2.2.2.2.1 _ hm.1, C.2.2.2.2.1 _ hm.2.1, ⟨hm.2.2.1, hm.2.2.2.1⟩, fun sig h => by have h2 := hm.2.2.2.2.1; rw [h] at h2; exact (Option.some.inj h2).symm, C.2.2.2.2.1 _ hlk⟩
  have hrun := va_runV (e := e) (below := below) (meth := meth) (As := [v1, v2, v3, v4]) (rest := rest) (g := F0 m pc ls (v4 :: v3 :: v2 :: v1 :: .ref b :: rest)) (locs := locs) (cells := cells) (slots := slots) ⟨C.1, C.2.1, C.2.2.1, C.2.2.2.1, C.2.2.2.2.1⟩ (hct H.size) ⟨hcb, C.2.2.2.2.1 _ him, C.2.2.2.2.1 _ hse⟩ ⟨PCt.blind, by have h9 := va_recv C.2.2.2.2.2.1 hP hc he; rw [hcn] at h9; exact h9, pct_pre C hP hD rfl hC hn⟩ rfl rfl hl.1 rfl (lv_room (catsum_le hrest)) hd ⟨hcs.1, hcs.2⟩
  exact ww_run hrun C.2.2.2.2.2.2.1 hP hD hS hl hC hn rfl hpc (by rw [pB_same is hC]; exact k)
theorem ww_callV4v (C : Cx p R s m args meth c cc own nL Γ A dd) {y : MethodName} {cy : ByteArray} {mL : Nat} {ret : Option FieldType} {d index : Nat} {b : Nat} {v1 v2 v3 v4 : Value} {rest : List Value} (hct : Ct l Γ y cy mL ret d [.ref b, v1, v2, v3, v4] wc none wc') (hm : MI y cy mL ret 4) (him : Cond.instanceMethod y ∈ Tg) (hse : Cond.selects y.cls y y ∈ Tg) (hlk : Cond.methodLink own index y ∈ Tg) (hd : decode cc pc = .ok (.invokevirtual index, 3)) (q0 : Nat) {ci : Nat} {fs : List Value} {qc : vw_C} (he : ws[q0]? = some (b, .inr (ci, fs))) (hc : vwCl[ci]? = some qc) (hcn : qc.1 = y.cls) (hdd : d + 1 ≤ dd) (hmL : mL ≤ 16) (hrest : rest.length ≤ 4) (hcs : cells ≤ R.cells ∧ slots ≤ R.slots) (is : List Nat) (hC : is.map (fun i => ws[i]?) = wc.map some) (hn : va_nd is = true) (ha : wc'.map (fun q => q.1) = wc.map (fun q => q.1)) (pc2 : Nat) (hpc : pc + 3 = pc2) (k : WW p l e R s m args below meth c cells slots Q Γ A nL (pB ws is wc') pc2 lv rest) : WW p l e R s m args below meth c cells slots Q Γ A nL ws pc lv (v4 :: v3 :: v2 :: v1 :: .ref b :: rest) := fun H locs ls hP hD hS hl => by
  have hroom : d + 1 ≤ R.frames ∧ 8 + (mL + 11) + 35 * d ≤ R.locals := ⟨Nat.le_trans hdd C.2.2.2.2.2.2.2.2.1, by have := C.2.2.2.2.2.2.2.2.2; show 8 + (mL + 11) + 35 * d ≤ R.locals; omega⟩
  have hcb : CallB R s args own index y cy mL ret (.code y cy mL ret :: Tg) (rmD d) 0 0 4 := ⟨rfl, rfl, ((hroom)).1, ((hroom)).2, pay_in C.2.2.2.2.1 (code_good hm.1), List.mem_cons_self, C.2.2.2.2.1 _ hm.1, C.2.2.2.2.1 _ hm.2.1, ⟨hm.2.2.1, hm.2.2.2.1⟩, fun sig h => by have h2 := hm.2.2.2.2.1; rw [h] at h2; exact (Option.some.inj h2).symm, C.2.2.2.2.1 _ hlk⟩
  have hrun := va_runV (e := e) (below := below) (meth := meth) (As := [v1, v2, v3, v4]) (rest := rest) (g := F0 m pc ls (v4 :: v3 :: v2 :: v1 :: .ref b :: rest)) (locs := locs) (cells := cells) (slots := slots) ⟨C.1, C.2.1, C.2.2.1, C.2.2.2.1, C.2.2.2.2.1⟩ (hct H.size) ⟨hcb, C.2.2.2.2.1 _ him, C.2.2.2.2.1 _ hse⟩ ⟨PCt.blind, by have h9 := va_recv C.2.2.2.2.2.1 hP hc he; rw [hcn] at h9; exact h9, pct_pre C hP hD rfl hC hn⟩ rfl rfl hl.1 rfl (lv_room (catsum_le hrest)) hd ⟨hcs.1, hcs.2⟩
  exact ww_run hrun C.2.2.2.2.2.2.1 hP hD hS hl hC hn ha hpc k
theorem ww_callV4vp (C : Cx p R s m args meth c cc own nL Γ A dd) {y : MethodName} {cy : ByteArray} {mL : Nat} {ret : Option FieldType} {d index : Nat} {b : Nat} {v1 v2 v3 v4 : Value} {rest : List Value} (hct : Ct l Γ y cy mL ret d [.ref b, v1, v2, v3, v4] wc none wc) (hm : MI y cy mL ret 4) (him : Cond.instanceMethod y ∈ Tg) (hse : Cond.selects y.cls y y ∈ Tg) (hlk : Cond.methodLink own index y ∈ Tg) (hd : decode cc pc = .ok (.invokevirtual index, 3)) (q0 : Nat) {ci : Nat} {fs : List Value} {qc : vw_C} (he : ws[q0]? = some (b, .inr (ci, fs))) (hc : vwCl[ci]? = some qc) (hcn : qc.1 = y.cls) (hdd : d + 1 ≤ dd) (hmL : mL ≤ 16) (hrest : rest.length ≤ 4) (hcs : cells ≤ R.cells ∧ slots ≤ R.slots) (is : List Nat) (hC : is.map (fun i => ws[i]?) = wc.map some) (hn : va_nd is = true) (pc2 : Nat) (hpc : pc + 3 = pc2) (k : WW p l e R s m args below meth c cells slots Q Γ A nL ws pc2 lv rest) : WW p l e R s m args below meth c cells slots Q Γ A nL ws pc lv (v4 :: v3 :: v2 :: v1 :: .ref b :: rest) := fun H locs ls hP hD hS hl => by
  have hroom : d + 1 ≤ R.frames ∧ 8 + (mL + 11) + 35 * d ≤ R.locals := ⟨Nat.le_trans hdd C.2.2.2.2.2.2.2.2.1, by have := C.2.2.2.2.2.2.2.2.2; show 8 + (mL + 11) + 35 * d ≤ R.locals; omega⟩
  have hcb : CallB R s args own index y cy mL ret (.code y cy mL ret :: Tg) (rmD d) 0 0 4 := ⟨rfl, rfl, ((hroom)).1, ((hroom)).2, pay_in C.2.2.2.2.1 (code_good hm.1), List.mem_cons_self, C.2.2.2.2.1 _ hm.1, C.2.2.2.2.1 _ hm.2.1, ⟨hm.2.2.1, hm.2.2.2.1⟩, fun sig h => by have h2 := hm.2.2.2.2.1; rw [h] at h2; exact (Option.some.inj h2).symm, C.2.2.2.2.1 _ hlk⟩
  have hrun := va_runV (e := e) (below := below) (meth := meth) (As := [v1, v2, v3, v4]) (rest := rest) (g := F0 m pc ls (v4 :: v3 :: v2 :: v1 :: .ref b :: rest)) (locs := locs) (cells := cells) (slots := slots) ⟨C.1, C.2.1, C.2.2.1, C.2.2.2.1, C.2.2.2.2.1⟩ (hct H.size) ⟨hcb, C.2.2.2.2.1 _ him, C.2.2.2.2.1 _ hse⟩ ⟨PCt.blind, by have h9 := va_recv C.2.2.2.2.2.1 hP hc he; rw [hcn] at h9; exact h9, pct_pre C hP hD rfl hC hn⟩ rfl rfl hl.1 rfl (lv_room (catsum_le hrest)) hd ⟨hcs.1, hcs.2⟩
  exact ww_run hrun C.2.2.2.2.2.2.1 hP hD hS hl hC hn rfl hpc (by rw [pB_same is hC]; exact k)
theorem ww_callV5 (C : Cx p R s m args meth c cc own nL Γ A dd) {y : MethodName} {cy : ByteArray} {mL : Nat} {ret : Option FieldType} {d index : Nat} {b : Nat} {v1 v2 v3 v4 v5 : Value} {r : Value} {rest : List Value} (hct : Ct l Γ y cy mL ret d [.ref b, v1, v2, v3, v4, v5] wc (some r) wc') (hm : MI y cy mL ret 5) (him : Cond.instanceMethod y ∈ Tg) (hse : Cond.selects y.cls y y ∈ Tg) (hlk : Cond.methodLink own index y ∈ Tg) (hd : decode cc pc = .ok (.invokevirtual index, 3)) (q0 : Nat) {ci : Nat} {fs : List Value} {qc : vw_C} (he : ws[q0]? = some (b, .inr (ci, fs))) (hc : vwCl[ci]? = some qc) (hcn : qc.1 = y.cls) (hdd : d + 1 ≤ dd) (hmL : mL ≤ 16) (hrest : rest.length ≤ 4) (hcs : cells ≤ R.cells ∧ slots ≤ R.slots) (is : List Nat) (hC : is.map (fun i => ws[i]?) = wc.map some) (hn : va_nd is = true) (ha : wc'.map (fun q => q.1) = wc.map (fun q => q.1)) (pc2 : Nat) (hpc : pc + 3 = pc2) (k : WW p l e R s m args below meth c cells slots Q Γ A nL (pB ws is wc') pc2 lv (r :: rest)) : WW p l e R s m args below meth c cells slots Q Γ A nL ws pc lv (v5 :: v4 :: v3 :: v2 :: v1 :: .ref b :: rest) := fun H locs ls hP hD hS hl => by
  have hroom : d + 1 ≤ R.frames ∧ 8 + (mL + 11) + 35 * d ≤ R.locals := ⟨Nat.le_trans hdd C.2.2.2.2.2.2.2.2.1, by have := C.2.2.2.2.2.2.2.2.2; show 8 + (mL + 11) + 35 * d ≤ R.locals; omega⟩
  have hcb : CallB R s args own index y cy mL ret (.code y cy mL ret :: Tg) (rmD d) 0 0 5 := ⟨rfl, rfl, ((hroom)).1, ((hroom)).2, pay_in C.2.2.2.2.1 (code_good hm.1), List.mem_cons_self, C.2.2.2.2.1 _ hm.1, C.2.2.2.2.1 _ hm.2.1, ⟨hm.2.2.1, hm.2.2.2.1⟩, fun sig h => by have h2 := hm.2.2.2.2.1; rw [h] at h2; exact (Option.some.inj h2).symm, C.2.2.2.2.1 _ hlk⟩
  have hrun := va_runV (e := e) (below := below) (meth := meth) (As := [v1, v2, v3, v4, v5]) (rest := rest) (g := F0 m pc ls (v5 :: v4 :: v3 :: v2 :: v1 :: .ref b :: rest)) (locs := locs) (cells := cells) (slots := slots) ⟨C.1, C.2.1, C.2.2.1, C.2.2.2.1, C.2.2.2.2.1⟩ (hct H.size) ⟨hcb, C.2.2.2.2.1 _ him, C.2.2.2.2.1 _ hse⟩ ⟨PCt.blind, by have h9 := va_recv C.2.2.2.2.2.1 hP hc he; rw [hcn] at h9; exact h9, pct_pre C hP hD rfl hC hn⟩ rfl rfl hl.1 rfl (lv_room (catsum_le hrest)) hd ⟨hcs.1, hcs.2⟩
  exact ww_run hrun C.2.2.2.2.2.2.1 hP hD hS hl hC hn ha hpc k
theorem ww_callV5p (C : Cx p R s m args meth c cc own nL Γ A dd) {y : MethodName} {cy : ByteArray} {mL : Nat} {ret : Option FieldType} {d index : Nat} {b : Nat} {v1 v2 v3 v4 v5 : Value} {r : Value} {rest : List Value} (hct : Ct l Γ y cy mL ret d [.ref b, v1, v2, v3, v4, v5] wc (some r) wc) (hm : MI y cy mL ret 5) (him : Cond.instanceMethod y ∈ Tg) (hse : Cond.selects y.cls y y ∈ Tg) (hlk : Cond.methodLink own index y ∈ Tg) (hd : decode cc pc = .ok (.invokevirtual index, 3)) (q0 : Nat) {ci : Nat} {fs : List Value} {qc : vw_C} (he : ws[q0]? = some (b, .inr (ci, fs))) (hc : vwCl[ci]? = some qc) (hcn : qc.1 = y.cls) (hdd : d + 1 ≤ dd) (hmL : mL ≤ 16) (hrest : rest.length ≤ 4) (hcs : cells ≤ R.cells ∧ slots ≤ R.slots) (is : List Nat) (hC : is.map (fun i => ws[i]?) = wc.map some) (hn : va_nd is = true) (pc2 : Nat) (hpc : pc + 3 = pc2) (k : WW p l e R s m args below meth c cells slots Q Γ A nL ws pc2 lv (r :: rest)) : WW p l e R s m args below meth c cells slots Q Γ A nL ws pc lv (v5 :: v4 :: v3 :: v2 :: v1 :: .ref b :: rest) := fun H locs ls hP hD hS hl => by
  have hroom : d + 1 ≤ R.frames ∧ 8 + (mL + 11) + 35 * d ≤ R.locals := ⟨Nat.le_trans hdd C.2.2.2.2.2.2.2.2.1, by have := C.2.2.2.2.2.2.2.2.2; show 8 + (mL + 11) + 35 * d ≤ R.locals; omega⟩
  have hcb : CallB R s args own index y cy mL ret (.code y cy mL ret :: Tg) (rmD d) 0 0 5 := ⟨rfl, rfl, ((hroom)).1, ((hroom)).2, pay_in C.2.2.2.2.1 (code_good hm.1), List.mem_cons_self, C.2.2.2.2.1 _ hm.1, C.2.2.2.2.1 _ hm.2.1, ⟨hm.2.2.1, hm.2.2.2.1⟩, fun sig h => by have h2 := hm.2.2.2.2.1; rw [h] at h2; exact (Option.some.inj h2).symm, C.2.2.2.2.1 _ hlk⟩
  have hrun := va_runV (e := e) (below := below) (meth := meth) (As := [v1, v2, v3, v4, v5]) (rest := rest) (g := F0 m pc ls (v5 :: v4 :: v3 :: v2 :: v1 :: .ref b :: rest)) (locs := locs) (cells := cells) (slots := slots) ⟨C.1, C.2.1, C.2.2.1, C.2.2.2.1, C.2.2.2.2.1⟩ (hct H.size) ⟨hcb, C.2.2.2.2.1 _ him, C.2.2.2.2.1 _ hse⟩ ⟨PCt.blind, by have h9 := va_recv C.2.2.2.2.2.1 hP hc he; rw [hcn] at h9; exact h9, pct_pre C hP hD rfl hC hn⟩ rfl rfl hl.1 rfl (lv_room (catsum_le hrest)) hd ⟨hcs.1, hcs.2⟩
  exact ww_run hrun C.2.2.2.2.2.2.1 hP hD hS hl hC hn rfl hpc (by rw [pB_same is hC]; exact k)
theorem ww_callV5v (C : Cx p R s m args meth c cc own nL Γ A dd) {y : MethodName} {cy : ByteArray} {mL : Nat} {ret : Option FieldType} {d index : Nat} {b : Nat} {v1 v2 v3 v4 v5 : Value} {rest : List Value} (hct : Ct l Γ y cy mL ret d [.ref b, v1, v2, v3, v4, v5] wc none wc') (hm : MI y cy mL ret 5) (him : Cond.instanceMethod y ∈ Tg) (hse : Cond.selects y.cls y y ∈ Tg) (hlk : Cond.methodLink own index y ∈ Tg) (hd : decode cc pc = .ok (.invokevirtual index, 3)) (q0 : Nat) {ci : Nat} {fs : List Value} {qc : vw_C} (he : ws[q0]? = some (b, .inr (ci, fs))) (hc : vwCl[ci]? = some qc) (hcn : qc.1 = y.cls) (hdd : d + 1 ≤ dd) (hmL : mL ≤ 16) (hrest : rest.length ≤ 4) (hcs : cells ≤ R.cells ∧ slots ≤ R.slots) (is : List Nat) (hC : is.map (fun i => ws[i]?) = wc.map some) (hn : va_nd is = true) (ha : wc'.map (fun q => q.1) = wc.map (fun q => q.1)) (pc2 : Nat) (hpc : pc + 3 = pc2) (k : WW p l e R s m args below meth c cells slots Q Γ A nL (pB ws is wc') pc2 lv rest) : WW p l e R s m args below meth c cells slots Q Γ A nL ws pc lv (v5 :: v4 :: v3 :: v2 :: v1 :: .ref b :: rest) := fun H locs ls hP hD hS hl => by
  have hroom : d + 1 ≤ R.frames ∧ 8 + (mL + 11) + 35 * d ≤ R.locals := ⟨Nat.le_trans hdd C.2.2.2.2.2.2.2.2.1, by have := C.2.2.2.2.2.2.2.2.2; show 8 + (mL + 11) + 35 * d ≤ R.locals; omega⟩
  have hcb : CallB R s args own index y cy mL ret (.code y cy mL ret :: Tg) (rmD d) 0 0 5 := ⟨rfl, rfl, ((hroom)).1, ((hroom)).2, pay_in C.2.2.2.2.1 (code_good hm.1), List.mem_cons_self, C.2.2.2.2.1 _ hm.1, C.2.2.2.2.1 _ hm.2.1, ⟨hm.2.2.1, hm.2.2.2.1⟩, fun sig h => by have h2 := hm.2.2.2.2.1; rw [h] at h2; exact (Option.some.inj h2).symm, C.2.2.2.2.1 _ hlk⟩
  have hrun := va_runV (e := e) (below := below) (meth := meth) (As := [v1, v2, v3, v4, v5]) (rest := rest) (g := F0 m pc ls (v5 :: v4 :: v3 :: v2 :: v1 :: .ref b :: rest)) (locs := locs) (cells := cells) (slots := slots) ⟨C.1, C.2.1, C.2.2.1, C.2.2.2.1, C.2.2.2.2.1⟩ (hct H.size) ⟨hcb, C.2.2.2.2.1 _ him, C.2.2.2.2.1 _ hse⟩ ⟨PCt.blind, by have h9 := va_recv C.2.2.2.2.2.1 hP hc he; rw [hcn] at h9; exact h9, pct_pre C hP hD rfl hC hn⟩ rfl rfl hl.1 rfl (lv_room (catsum_le hrest)) hd ⟨hcs.1, hcs.2⟩
  exact ww_run hrun C.2.2.2.2.2.2.1 hP hD hS hl hC hn ha hpc k
theorem ww_callV5vp (C : Cx p R s m args meth c cc own nL Γ A dd) {y : MethodName} {cy : ByteArray} {mL : Nat} {ret : Option FieldType} {d index : Nat} {b : Nat} {v1 v2 v3 v4 v5 : Value} {rest : List Value} (hct : Ct l Γ y cy mL ret d [.ref b, v1, v2, v3, v4, v5] wc none wc) (hm : MI y cy mL ret 5) (him : Cond.instanceMethod y ∈ Tg) (hse : Cond.selects y.cls y y ∈ Tg) (hlk : Cond.methodLink own index y ∈ Tg) (hd : decode cc pc = .ok (.invokevirtual index, 3)) (q0 : Nat) {ci : Nat} {fs : List Value} {qc : vw_C} (he : ws[q0]? = some (b, .inr (ci, fs))) (hc : vwCl[ci]? = some qc) (hcn : qc.1 = y.cls) (hdd : d + 1 ≤ dd) (hmL : mL ≤ 16) (hrest : rest.length ≤ 4) (hcs : cells ≤ R.cells ∧ slots ≤ R.slots) (is : List Nat) (hC : is.map (fun i => ws[i]?) = wc.map some) (hn : va_nd is = true) (pc2 : Nat) (hpc : pc + 3 = pc2) (k : WW p l e R s m args below meth c cells slots Q Γ A nL ws pc2 lv rest) : WW p l e R s m args below meth c cells slots Q Γ A nL ws pc lv (v5 :: v4 :: v3 :: v2 :: v1 :: .ref b :: rest) := fun H locs ls hP hD hS hl => by
  have hroom : d + 1 ≤ R.frames ∧ 8 + (mL + 11) + 35 * d ≤ R.locals := ⟨Nat.le_trans hdd C.2.2.2.2.2.2.2.2.1, by have := C.2.2.2.2.2.2.2.2.2; show 8 + (mL + 11) + 35 * d ≤ R.locals; omega⟩
  have hcb : CallB R s args own index y cy mL ret (.code y cy mL ret :: Tg) (rmD d) 0 0 5 := ⟨rfl, rfl, ((hroom)).1, ((hroom)).2, pay_in C.2.2.2.2.1 (code_good hm.1), List.mem_cons_self, C.2.2.2.2.1 _ hm.1, C.2.2.2.2.1 _ hm.2.1, ⟨hm.2.2.1, hm.2.2.2.1⟩, fun sig h => by have h2 := hm.2.2.2.2.1; rw [h] at h2; exact (Option.some.inj h2).symm, C.2.2.2.2.1 _ hlk⟩
  have hrun := va_runV (e := e) (below := below) (meth := meth) (As := [v1, v2, v3, v4, v5]) (rest := rest) (g := F0 m pc ls (v5 :: v4 :: v3 :: v2 :: v1 :: .ref b :: rest)) (locs := locs) (cells := cells) (slots := slots) ⟨C.1, C.2.1, C.2.2.1, C.2.2.2.1, C.2.2.2.2.1⟩ (hct H.size) ⟨hcb, C.2.2.2.2.1 _ him, C.2.2.2.2.1 _ hse⟩ ⟨PCt.blind, by have h9 := va_recv C.2.2.2.2.2.1 hP hc he; rw [hcn] at h9; exact h9, pct_pre C hP hD rfl hC hn⟩ rfl rfl hl.1 rfl (lv_room (catsum_le hrest)) hd ⟨hcs.1, hcs.2⟩
  exact ww_run hrun C.2.2.2.2.2.2.1 hP hD hS hl hC hn rfl hpc (by rw [pB_same is hC]; exact k)
theorem ww_callS0 (C : Cx p R s m args meth c cc own nL Γ A dd) {y : MethodName} {cy : ByteArray} {mL : Nat} {ret : Option FieldType} {d index : Nat}   {r : Value} {rest : List Value} (hct : Ct l Γ y cy mL ret d [] wc (some r) wc') (hm : MI y cy mL ret 0) (hst : Cond.static y ∈ Tg) (hlk : Cond.methodLink own index y ∈ Tg) (hd : decode cc pc = .ok (.invokestatic index, 3)) (hdd : d + 1 ≤ dd) (hmL : mL ≤ 16) (hrest : rest.length ≤ 4) (hcs : cells ≤ R.cells ∧ slots ≤ R.slots) (is : List Nat) (hC : is.map (fun i => ws[i]?) = wc.map some) (hn : va_nd is = true) (ha : wc'.map (fun q => q.1) = wc.map (fun q => q.1)) (pc2 : Nat) (hpc : pc + 3 = pc2) (k : WW p l e R s m args below meth c cells slots Q Γ A nL (pB ws is wc') pc2 lv (r :: rest)) : WW p l e R s m args below meth c cells slots Q Γ A nL ws pc lv (rest) := fun H locs ls hP hD hS hl => by
  have hroom : d + 1 ≤ R.frames ∧ 8 + (mL + 11) + 35 * d ≤ R.locals := ⟨Nat.le_trans hdd C.2.2.2.2.2.2.2.2.1, by have := C.2.2.2.2.2.2.2.2.2; show 8 + (mL + 11) + 35 * d ≤ R.locals; omega⟩
  have hcb : CallB R s args own index y cy mL ret (.code y cy mL ret :: Tg) (rmD d) 0 0 0 := ⟨rfl, rfl, ((hroom)).1, ((hroom)).2, pay_in C.2.2.2.2.1 (code_good hm.1), List.mem_cons_self, C.2.2.2.2.1 _ hm.1, C.2.2.2.2.1 _ hm.2.1, ⟨hm.2.2.1, hm.2.2.2.1⟩, fun sig h => by have h2 := hm.2.2.2.2.1; rw [h] at h2; exact (Option.some.inj h2).symm, C.2.2.2.2.1 _ hlk⟩
  have hrun := va_runS (e := e) (below := below) (meth := meth) (As := []) (rest := rest) (g := F0 m pc ls (rest)) (locs := locs) (cells := cells) (slots := slots) ⟨C.1, C.2.1, C.2.2.1, C.2.2.2.1, C.2.2.2.2.1⟩ (hct H.size) ⟨hcb, C.2.2.2.2.1 _ hst⟩ ⟨PCt.blind, pct_pre C hP hD rfl hC hn⟩ rfl rfl hl.1 rfl (lv_room (catsum_le hrest)) hd ⟨hcs.1, hcs.2⟩
  exact ww_run hrun C.2.2.2.2.2.2.1 hP hD hS hl hC hn ha hpc k
theorem ww_callS0p (C : Cx p R s m args meth c cc own nL Γ A dd) {y : MethodName} {cy : ByteArray} {mL : Nat} {ret : Option FieldType} {d index : Nat}   {r : Value} {rest : List Value} (hct : Ct l Γ y cy mL ret d [] wc (some r) wc) (hm : MI y cy mL ret 0) (hst : Cond.static y ∈ Tg) (hlk : Cond.methodLink own index y ∈ Tg) (hd : decode cc pc = .ok (.invokestatic index, 3)) (hdd : d + 1 ≤ dd) (hmL : mL ≤ 16) (hrest : rest.length ≤ 4) (hcs : cells ≤ R.cells ∧ slots ≤ R.slots) (is : List Nat) (hC : is.map (fun i => ws[i]?) = wc.map some) (hn : va_nd is = true) (pc2 : Nat) (hpc : pc + 3 = pc2) (k : WW p l e R s m args below meth c cells slots Q Γ A nL ws pc2 lv (r :: rest)) : WW p l e R s m args below meth c cells slots Q Γ A nL ws pc lv (rest) := fun H locs ls hP hD hS hl => by
  have hroom : d + 1 ≤ R.frames ∧ 8 + (mL + 11) + 35 * d ≤ R.locals := ⟨Nat.le_trans hdd C.2.2.2.2.2.2.2.2.1, by have := C.2.2.2.2.2.2.2.2.2; show 8 + (mL + 11) + 35 * d ≤ R.locals; omega⟩
  have hcb : CallB R s args own index y cy mL ret (.code y cy mL ret :: Tg) (rmD d) 0 0 0 := ⟨rfl, rfl, ((hroom)).1, ((hroom)).2, pay_in C.2.2.2.2.1 (code_good hm.1), List.mem_cons_self, C.2.2.2.2.1 _ hm.1, C.2.2.2.2.1 _ hm.2.1, ⟨hm.2.2.1, hm.2.2.2.1⟩, fun sig h => by have h2 := hm.2.2.2.2.1; rw [h] at h2; exact (Option.some.inj h2).symm, C.2.2.2.2.1 _ hlk⟩
  have hrun := va_runS (e := e) (below := below) (meth := meth) (As := []) (rest := rest) (g := F0 m pc ls (rest)) (locs := locs) (cells := cells) (slots := slots) ⟨C.1, C.2.1, C.2.2.1, C.2.2.2.1, C.2.2.2.2.1⟩ (hct H.size) ⟨hcb, C.2.2.2.2.1 _ hst⟩ ⟨PCt.blind, pct_pre C hP hD rfl hC hn⟩ rfl rfl hl.1 rfl (lv_room (catsum_le hrest)) hd ⟨hcs.1, hcs.2⟩
  exact ww_run hrun C.2.2.2.2.2.2.1 hP hD hS hl hC hn rfl hpc (by rw [pB_same is hC]; exact k)
theorem ww_callS0v (C : Cx p R s m args meth c cc own nL Γ A dd) {y : MethodName} {cy : ByteArray} {mL : Nat} {ret : Option FieldType} {d index : Nat}   {rest : List Value} (hct : Ct l Γ y cy mL ret d [] wc none wc') (hm : MI y cy mL ret 0) (hst : Cond.static y ∈ Tg) (hlk : Cond.methodLink own index y ∈ Tg) (hd : decode cc pc = .ok (.invokestatic index, 3)) (hdd : d + 1 ≤ dd) (hmL : mL ≤ 16) (hrest : rest.length ≤ 4) (hcs : cells ≤ R.cells ∧ slots ≤ R.slots) (is : List Nat) (hC : is.map (fun i => ws[i]?) = wc.map some) (hn : va_nd is = true) (ha : wc'.map (fun q => q.1) = wc.map (fun q => q.1)) (pc2 : Nat) (hpc : pc + 3 = pc2) (k : WW p l e R s m args below meth c cells slots Q Γ A nL (pB ws is wc') pc2 lv rest) : WW p l e R s m args below meth c cells slots Q Γ A nL ws pc lv (rest) := fun H locs ls hP hD hS hl => by
  have hroom : d + 1 ≤ R.frames ∧ 8 + (mL + 11) + 35 * d ≤ R.locals := ⟨Nat.le_trans hdd C.2.2.2.2.2.2.2.2.1, by have := C.2.2.2.2.2.2.2.2.2; show 8 + (mL + 11) + 35 * d ≤ R.locals; omega⟩
  have hcb : CallB R s args own index y cy mL ret (.code y cy mL ret :: Tg) (rmD d) 0 0 0 := ⟨rfl, rfl, ((hroom)).1, ((hroom)).2, pay_in C.2.2.2.2.1 (code_good hm.1), List.mem_cons_self, C.2.2.2.2.1 _ hm.1, C.2.2.2.2.1 _ hm.2.1, ⟨hm.2.2.1, hm.2.2.2.1⟩, fun sig h => by have h2 := hm.2.2.2.2.1; rw [h] at h2; exact (Option.some.inj h2).symm, C.2.2.2.2.1 _ hlk⟩
  have hrun := va_runS (e := e) (below := below) (meth := meth) (As := []) (rest := rest) (g := F0 m pc ls (rest)) (locs := locs) (cells := cells) (slots := slots) ⟨C.1, C.2.1, C.2.2.1, C.2.2.2.1, C.2.2.2.2.1⟩ (hct H.size) ⟨hcb, C.2.2.2.2.1 _ hst⟩ ⟨PCt.blind, pct_pre C hP hD rfl hC hn⟩ rfl rfl hl.1 rfl (lv_room (catsum_le hrest)) hd ⟨hcs.1, hcs.2⟩
  exact ww_run hrun C.2.2.2.2.2.2.1 hP hD hS hl hC hn ha hpc k
theorem ww_callS0vp (C : Cx p R s m args meth c cc own nL Γ A dd) {y : MethodName} {cy : ByteArray} {mL : Nat} {ret : Option FieldType} {d index : Nat}   {rest : List Value} (hct : Ct l Γ y cy mL ret d [] wc none wc) (hm : MI y cy mL ret 0) (hst : Cond.static y ∈ Tg) (hlk : Cond.methodLink own index y ∈ Tg) (hd : decode cc pc = .ok (.invokestatic index, 3)) (hdd : d + 1 ≤ dd) (hmL : mL ≤ 16) (hrest : rest.length ≤ 4) (hcs : cells ≤ R.cells ∧ slots ≤ R.slots) (is : List Nat) (hC : is.map (fun i => ws[i]?) = wc.map some) (hn : va_nd is = true) (pc2 : Nat) (hpc : pc + 3 = pc2) (k : WW p l e R s m args below meth c cells slots Q Γ A nL ws pc2 lv rest) : WW p l e R s m args below meth c cells slots Q Γ A nL ws pc lv (rest) := fun H locs ls hP hD hS hl => by
  have hroom : d + 1 ≤ R.frames ∧ 8 + (mL + 11) + 35 * d ≤ R.locals := ⟨Nat.le_trans hdd C.2.2.2.2.2.2.2.2.1, by have := C.2.2.2.2.2.2.2.2.2; show 8 + (mL + 11) + 35 * d ≤ R.locals; omega⟩
  have hcb : CallB R s args own index y cy mL ret (.code y cy mL ret :: Tg) (rmD d) 0 0 0 := ⟨rfl, rfl, ((hroom)).1, ((hroom)).2, pay_in C.2.2.2.2.1 (code_good hm.1), List.mem_cons_self, C.2.2.2.2.1 _ hm.1, C.2.2.2.2.1 _ hm.2.1, ⟨hm.2.2.1, hm.2.2.2.1⟩, fun sig h => by have h2 := hm.2.2.2.2.1; rw [h] at h2; exact (Option.some.inj h2).symm, C.2.2.2.2.1 _ hlk⟩
  have hrun := va_runS (e := e) (below := below) (meth := meth) (As := []) (rest := rest) (g := F0 m pc ls (rest)) (locs := locs) (cells := cells) (slots := slots) ⟨C.1, C.2.1, C.2.2.1, C.2.2.2.1, C.2.2.2.2.1⟩ (hct H.size) ⟨hcb, C.2.2.2.2.1 _ hst⟩ ⟨PCt.blind, pct_pre C hP hD rfl hC hn⟩ rfl rfl hl.1 rfl (lv_room (catsum_le hrest)) hd ⟨hcs.1, hcs.2⟩
  exact ww_run hrun C.2.2.2.2.2.2.1 hP hD hS hl hC hn rfl hpc (by rw [pB_same is hC]; exact k)
theorem ww_callS1 (C : Cx p R s m args meth c cc own nL Γ A dd) {y : MethodName} {cy : ByteArray} {mL : Nat} {ret : Option FieldType} {d index : Nat}  {v1 : Value} {r : Value} {rest : List Value} (hct : Ct l Γ y cy mL ret d [v1] wc (some r) wc') (hm : MI y cy mL ret 1) (hst : Cond.static y ∈ Tg) (hlk : Cond.methodLink own index y ∈ Tg) (hd : decode cc pc = .ok (.invokestatic index, 3)) (hdd : d + 1 ≤ dd) (hmL : mL ≤ 16) (hrest : rest.length ≤ 4) (hcs : cells ≤ R.cells ∧ slots ≤ R.slots) (is : List Nat) (hC : is.map (fun i => ws[i]?) = wc.map some) (hn : va_nd is = true) (ha : wc'.map (fun q => q.1) = wc.map (fun q => q.1)) (pc2 : Nat) (hpc : pc + 3 = pc2) (k : WW p l e R s m args below meth c cells slots Q Γ A nL (pB ws is wc') pc2 lv (r :: rest)) : WW p l e R s m args below meth c cells slots Q Γ A nL ws pc lv (v1 :: rest) := fun H locs ls hP hD hS hl => by
  have hroom : d + 1 ≤ R.frames ∧ 8 + (mL + 11) + 35 * d ≤ R.locals := ⟨Nat.le_trans hdd C.2.2.2.2.2.2.2.2.1, by have := C.2.2.2.2.2.2.2.2.2; show 8 + (mL + 11) + 35 * d ≤ R.locals; omega⟩
  have hcb : CallB R s args own index y cy mL ret (.code y cy mL ret :: Tg) (rmD d) 0 0 1 := ⟨rfl, rfl, ((hroom)).1, ((hroom)).2, pay_in C.2.2.2.2.1 (code_good hm.1), List.mem_cons_self, C.2.2.2.2.1 _ hm.1, C.2.2.2.2.1 _ hm.2.1, ⟨hm.2.2.1, hm.2.2.2.1⟩, fun sig h => by have h2 := hm.2.2.2.2.1; rw [h] at h2; exact (Option.some.inj h2).symm, C.2.2.2.2.1 _ hlk⟩
  have hrun := va_runS (e := e) (below := below) (meth := meth) (As := [v1]) (rest := rest) (g := F0 m pc ls (v1 :: rest)) (locs := locs) (cells := cells) (slots := slots) ⟨C.1, C.2.1, C.2.2.1, C.2.2.2.1, C.2.2.2.2.1⟩ (hct H.size) ⟨hcb, C.2.2.2.2.1 _ hst⟩ ⟨PCt.blind, pct_pre C hP hD rfl hC hn⟩ rfl rfl hl.1 rfl (lv_room (catsum_le hrest)) hd ⟨hcs.1, hcs.2⟩
  exact ww_run hrun C.2.2.2.2.2.2.1 hP hD hS hl hC hn ha hpc k
theorem ww_callS1p (C : Cx p R s m args meth c cc own nL Γ A dd) {y : MethodName} {cy : ByteArray} {mL : Nat} {ret : Option FieldType} {d index : Nat}  {v1 : Value} {r : Value} {rest : List Value} (hct : Ct l Γ y cy mL ret d [v1] wc (some r) wc) (hm : MI y cy mL ret 1) (hst : Cond.static y ∈ Tg) (hlk : Cond.methodLink own index y ∈ Tg) (hd : decode cc pc = .ok (.invokestatic index, 3)) (hdd : d + 1 ≤ dd) (hmL : mL ≤ 16) (hrest : rest.length ≤ 4) (hcs : cells ≤ R.cells ∧ slots ≤ R.slots) (is : List Nat) (hC : is.map (fun i => ws[i]?) = wc.map some) (hn : va_nd is = true) (pc2 : Nat) (hpc : pc + 3 = pc2) (k : WW p l e R s m args below meth c cells slots Q Γ A nL ws pc2 lv (r :: rest)) : WW p l e R s m args below meth c cells slots Q Γ A nL ws pc lv (v1 :: rest) := fun H locs ls hP hD hS hl => by
  have hroom : d + 1 ≤ R.frames ∧ 8 + (mL + 11) + 35 * d ≤ R.locals := ⟨Nat.le_trans hdd C.2.2.2.2.2.2.2.2.1, by have := C.2.2.2.2.2.2.2.2.2; show 8 + (mL + 11) + 35 * d ≤ R.locals; omega⟩
  have hcb : CallB R s args own index y cy mL ret (.code y cy mL ret :: Tg) (rmD d) 0 0 1 := ⟨rfl, rfl, ((hroom)).1, ((hroom)).2, pay_in C.2.2.2.2.1 (code_good hm.1), List.mem_cons_self, C.2.2.2.2.1 _ hm.1, C.2.2.2.2.1 _ hm.2.1, ⟨hm.2.2.1, hm.2.2.2.1⟩, fun sig h => by have h2 := hm.2.2.2.2.1; rw [h] at h2; exact (Option.some.inj h2).symm, C.2.2.2.2.1 _ hlk⟩
  have hrun := va_runS (e := e) (below := below) (meth := meth) (As := [v1]) (rest := rest) (g := F0 m pc ls (v1 :: rest)) (locs := locs) (cells := cells) (slots := slots) ⟨C.1, C.2.1, C.2.2.1, C.2.2.2.1, C.2.2.2.2.1⟩ (hct H.size) ⟨hcb, C.2.2.2.2.1 _ hst⟩ ⟨PCt.blind, pct_pre C hP hD rfl hC hn⟩ rfl rfl hl.1 rfl (lv_room (catsum_le hrest)) hd ⟨hcs.1, hcs.2⟩
  exact ww_run hrun C.2.2.2.2.2.2.1 hP hD hS hl hC hn rfl hpc (by rw [pB_same is hC]; exact k)
theorem ww_callS1v (C : Cx p R s m args meth c cc own nL Γ A dd) {y : MethodName} {cy : ByteArray} {mL : Nat} {ret : Option FieldType} {d index : Nat}  {v1 : Value} {rest : List Value} (hct : Ct l Γ y cy mL ret d [v1] wc none wc') (hm : MI y cy mL ret 1) (hst : Cond.static y ∈ Tg) (hlk : Cond.methodLink own index y ∈ Tg) (hd : decode cc pc = .ok (.invokestatic index, 3)) (hdd : d + 1 ≤ dd) (hmL : mL ≤ 16) (hrest : rest.length ≤ 4) (hcs : cells ≤ R.cells ∧ slots ≤ R.slots) (is : List Nat) (hC : is.map (fun i => ws[i]?) = wc.map some) (hn : va_nd is = true) (ha : wc'.map (fun q => q.1) = wc.map (fun q => q.1)) (pc2 : Nat) (hpc : pc + 3 = pc2) (k : WW p l e R s m args below meth c cells slots Q Γ A nL (pB ws is wc') pc2 lv rest) : WW p l e R s m args below meth c cells slots Q Γ A nL ws pc lv (v1 :: rest) := fun H locs ls hP hD hS hl => by
  have hroom : d + 1 ≤ R.frames ∧ 8 + (mL + 11) + 35 * d ≤ R.locals := ⟨Nat.le_trans hdd C.2.2.2.2.2.2.2.2.1, by have := C.2.2.2.2.2.2.2.2.2; show 8 + (mL + 11) + 35 * d ≤ R.locals; omega⟩
  have hcb : CallB R s args own index y cy mL ret (.code y cy mL ret :: Tg) (rmD d) 0 0 1 := ⟨rfl, rfl, ((hroom)).1, ((hroom)).2, pay_in C.2.2.2.2.1 (code_good hm.1), List.mem_cons_self, C.2.2.2.2.1 _ hm.1, C.2.2.2.2.1 _ hm.2.1, ⟨hm.2.2.1, hm.2.2.2.1⟩, fun sig h => by have h2 := hm.2.2.2.2.1; rw [h] at h2; exact (Option.some.inj h2).symm, C.2.2.2.2.1 _ hlk⟩
  have hrun := va_runS (e := e) (below := below) (meth := meth) (As := [v1]) (rest := rest) (g := F0 m pc ls (v1 :: rest)) (locs := locs) (cells := cells) (slots := slots) ⟨C.1, C.2.1, C.2.2.1, C.2.2.2.1, C.2.2.2.2.1⟩ (hct H.size) ⟨hcb, C.2.2.2.2.1 _ hst⟩ ⟨PCt.blind, pct_pre C hP hD rfl hC hn⟩ rfl rfl hl.1 rfl (lv_room (catsum_le hrest)) hd ⟨hcs.1, hcs.2⟩
  exact ww_run hrun C.2.2.2.2.2.2.1 hP hD hS hl hC hn ha hpc k
theorem ww_callS1vp (C : Cx p R s m args meth c cc own nL Γ A dd) {y : MethodName} {cy : ByteArray} {mL : Nat} {ret : Option FieldType} {d index : Nat}  {v1 : Value} {rest : List Value} (hct : Ct l Γ y cy mL ret d [v1] wc none wc) (hm : MI y cy mL ret 1) (hst : Cond.static y ∈ Tg) (hlk : Cond.methodLink own index y ∈ Tg) (hd : decode cc pc = .ok (.invokestatic index, 3)) (hdd : d + 1 ≤ dd) (hmL : mL ≤ 16) (hrest : rest.length ≤ 4) (hcs : cells ≤ R.cells ∧ slots ≤ R.slots) (is : List Nat) (hC : is.map (fun i => ws[i]?) = wc.map some) (hn : va_nd is = true) (pc2 : Nat) (hpc : pc + 3 = pc2) (k : WW p l e R s m args below meth c cells slots Q Γ A nL ws pc2 lv rest) : WW p l e R s m args below meth c cells slots Q Γ A nL ws pc lv (v1 :: rest) := fun H locs ls hP hD hS hl => by
  have hroom : d + 1 ≤ R.frames ∧ 8 + (mL + 11) + 35 * d ≤ R.locals := ⟨Nat.le_trans hdd C.2.2.2.2.2.2.2.2.1, by have := C.2.2.2.2.2.2.2.2.2; show 8 + (mL + 11) + 35 * d ≤ R.locals; omega⟩
  have hcb : CallB R s args own index y cy mL ret (.code y cy mL ret :: Tg) (rmD d) 0 0 1 := ⟨rfl, rfl, ((hroom)).1, ((hroom)).2, pay_in C.2.2.2.2.1 (code_good hm.1), List.mem_cons_self, C.2.2.2.2.1 _ hm.1, C.2.2.2.2.1 _ hm.2.1, ⟨hm.2.2.1, hm.2.2.2.1⟩, fun sig h => by have h2 := hm.2.2.2.2.1; rw [h] at h2; exact (Option.some.inj h2).symm, C.2.2.2.2.1 _ hlk⟩
  have hrun := va_runS (e := e) (below := below) (meth := meth) (As := [v1]) (rest := rest) (g := F0 m pc ls (v1 :: rest)) (locs := locs) (cells := cells) (slots := slots) ⟨C.1, C.2.1, C.2.2.1, C.2.2.2.1, C.2.2.2.2.1⟩ (hct H.size) ⟨hcb, C.2.2.2.2.1 _ hst⟩ ⟨PCt.blind, pct_pre C hP hD rfl hC hn⟩ rfl rfl hl.1 rfl (lv_room (catsum_le hrest)) hd ⟨hcs.1, hcs.2⟩
  exact ww_run hrun C.2.2.2.2.2.2.1 hP hD hS hl hC hn rfl hpc (by rw [pB_same is hC]; exact k)
theorem ww_callS2 (C : Cx p R s m args meth c cc own nL Γ A dd) {y : MethodName} {cy : ByteArray} {mL : Nat} {ret : Option FieldType} {d index : Nat}  {v1 v2 : Value} {r : Value} {rest : List Value} (hct : Ct l Γ y cy mL ret d [v1, v2] wc (some r) wc') (hm : MI y cy mL ret 2) (hst : Cond.static y ∈ Tg) (hlk : Cond.methodLink own index y ∈ Tg) (hd : decode cc pc = .ok (.invokestatic index, 3)) (hdd : d + 1 ≤ dd) (hmL : mL ≤ 16) (hrest : rest.length ≤ 4) (hcs : cells ≤ R.cells ∧ slots ≤ R.slots) (is : List Nat) (hC : is.map (fun i => ws[i]?) = wc.map some) (hn : va_nd is = true) (ha : wc'.map (fun q => q.1) = wc.map (fun q => q.1)) (pc2 : Nat) (hpc : pc + 3 = pc2) (k : WW p l e R s m args below meth c cells slots Q Γ A nL (pB ws is wc') pc2 lv (r :: rest)) : WW p l e R s m args below meth c cells slots Q Γ A nL ws pc lv (v2 :: v1 :: rest) := fun H locs ls hP hD hS hl => by
  have hroom : d + 1 ≤ R.frames ∧ 8 + (mL + 11) + 35 * d ≤ R.locals := ⟨Nat.le_trans hdd C.2.2.2.2.2.2.2.2.1, by have := C.2.2.2.2.2.2.2.2.2; show 8 + (mL + 11) + 35 * d ≤ R.locals; omega⟩
  have hcb : CallB R s args own index y cy mL ret (.code y cy mL ret :: Tg) (rmD d) 0 0 2 := ⟨rfl, rfl, ((hroom)).1, ((hroom)).2, pay_in C.2.2.2.2.1 (code_good hm.1), List.mem_cons_self, C.2.2.2.2.1 _ hm.1, C.2.2.2.2.1 _ hm.2.1, ⟨hm.2.2.1, hm.2.2.2.1⟩, fun sig h => by have h2 := hm.2.2.2.2.1; rw [h] at h2; exact (Option.some.inj h2).symm, C.2.2.2.2.1 _ hlk⟩
  have hrun := va_runS (e := e) (below := below) (meth := meth) (As := [v1, v2]) (rest := rest) (g := F0 m pc ls (v2 :: v1 :: rest)) (locs := locs) (cells := cells) (slots := slots) ⟨C.1, C.2.1, C.2.2.1, C.2.2.2.1, C.2.2.2.2.1⟩ (hct H.size) ⟨hcb, C.2.2.2.2.1 _ hst⟩ ⟨PCt.blind, pct_pre C hP hD rfl hC hn⟩ rfl rfl hl.1 rfl (lv_room (catsum_le hrest)) hd ⟨hcs.1, hcs.2⟩
  exact ww_run hrun C.2.2.2.2.2.2.1 hP hD hS hl hC hn ha hpc k
theorem ww_callS2p (C : Cx p R s m args meth c cc own nL Γ A dd) {y : MethodName} {cy : ByteArray} {mL : Nat} {ret : Option FieldType} {d index : Nat}  {v1 v2 : Value} {r : Value} {rest : List Value} (hct : Ct l Γ y cy mL ret d [v1, v2] wc (some r) wc) (hm : MI y cy mL ret 2) (hst : Cond.static y ∈ Tg) (hlk : Cond.methodLink own index y ∈ Tg) (hd : decode cc pc = .ok (.invokestatic index, 3)) (hdd : d + 1 ≤ dd) (hmL : mL ≤ 16) (hrest : rest.length ≤ 4) (hcs : cells ≤ R.cells ∧ slots ≤ R.slots) (is : List Nat) (hC : is.map (fun i => ws[i]?) = wc.map some) (hn : va_nd is = true) (pc2 : Nat) (hpc : pc + 3 = pc2) (k : WW p l e R s m args below meth c cells slots Q Γ A nL ws pc2 lv (r :: rest)) : WW p l e R s m args below meth c cells slots Q Γ A nL ws pc lv (v2 :: v1 :: rest) := fun H locs ls hP hD hS hl => by
  have hroom : d + 1 ≤ R.frames ∧ 8 + (mL + 11) + 35 * d ≤ R.locals := ⟨Nat.le_trans hdd C.2.2.2.2.2.2.2.2.1, by have := C.2.2.2.2.2.2.2.2.2; show 8 + (mL + 11) + 35 * d ≤ R.locals; omega⟩
  have hcb : CallB R s args own index y cy mL ret (.code y cy mL ret :: Tg) (rmD d) 0 0 2 := ⟨rfl, rfl, ((hroom)).1, ((hroom)).2, pay_in C.2.2.2.2.1 (code_good hm.1), List.mem_cons_self, C.2.2.2.2.1 _ hm.1, C.2.2.2.2.1 _ hm.2.1, ⟨hm.2.2.1, hm.2.2.2.1⟩, fun sig h => by have h2 := hm.2.2.2.2.1; rw [h] at h2; exact (Option.some.inj h2).symm, C.2.2.2.2.1 _ hlk⟩
  have hrun := va_runS (e := e) (below := below) (meth := meth) (As := [v1, v2]) (rest := rest) (g := F0 m pc ls (v2 :: v1 :: rest)) (locs := locs) (cells := cells) (slots := slots) ⟨C.1, C.2.1, C.2.2.1, C.2.2.2.1, C.2.2.2.2.1⟩ (hct H.size) ⟨hcb, C.2.2.2.2.1 _ hst⟩ ⟨PCt.blind, pct_pre C hP hD rfl hC hn⟩ rfl rfl hl.1 rfl (lv_room (catsum_le hrest)) hd ⟨hcs.1, hcs.2⟩
  exact ww_run hrun C.2.2.2.2.2.2.1 hP hD hS hl hC hn rfl hpc (by rw [pB_same is hC]; exact k)
theorem ww_callS2v (C : Cx p R s m args meth c cc own nL Γ A dd) {y : MethodName} {cy : ByteArray} {mL : Nat} {ret : Option FieldType} {d index : Nat}  {v1 v2 : Value} {rest : List Value} (hct : Ct l Γ y cy mL ret d [v1, v2] wc none wc') (hm : MI y cy mL ret 2) (hst : Cond.static y ∈ Tg) (hlk : Cond.methodLink own index y ∈ Tg) (hd : decode cc pc = .ok (.invokestatic index, 3)) (hdd : d + 1 ≤ dd) (hmL : mL ≤ 16) (hrest : rest.length ≤ 4) (hcs : cells ≤ R.cells ∧ slots ≤ R.slots) (is : List Nat) (hC : is.map (fun i => ws[i]?) = wc.map some) (hn : va_nd is = true) (ha : wc'.map (fun q => q.1) = wc.map (fun q => q.1)) (pc2 : Nat) (hpc : pc + 3 = pc2) (k : WW p l e R s m args below meth c cells slots Q Γ A nL (pB ws is wc') pc2 lv rest) : WW p l e R s m args below meth c cells slots Q Γ A nL ws pc lv (v2 :: v1 :: rest) := fun H locs ls hP hD hS hl => by
  have hroom : d + 1 ≤ R.frames ∧ 8 + (mL + 11) + 35 * d ≤ R.locals := ⟨Nat.le_trans hdd C.2.2.2.2.2.2.2.2.1, by have := C.2.2.2.2.2.2.2.2.2; show 8 + (mL + 11) + 35 * d ≤ R.locals; omega⟩
  have hcb : CallB R s args own index y cy mL ret (.code y cy mL ret :: Tg) (rmD d) 0 0 2 := ⟨rfl, rfl, ((hroom)).1, ((hroom)).2, pay_in C.2.2.2.2.1 (code_good hm.1), List.mem_cons_self, C.2.2.2.2.1 _ hm.1, C.2.2.2.2.1 _ hm.2.1, ⟨hm.2.2.1, hm.2.2.2.1⟩, fun sig h => by have h2 := hm.2.2.2.2.1; rw [h] at h2; exact (Option.some.inj h2).symm, C.2.2.2.2.1 _ hlk⟩
  have hrun := va_runS (e := e) (below := below) (meth := meth) (As := [v1, v2]) (rest := rest) (g := F0 m pc ls (v2 :: v1 :: rest)) (locs := locs) (cells := cells) (slots := slots) ⟨C.1, C.2.1, C.2.2.1, C.2.2.2.1, C.2.2.2.2.1⟩ (hct H.size) ⟨hcb, C.2.2.2.2.1 _ hst⟩ ⟨PCt.blind, pct_pre C hP hD rfl hC hn⟩ rfl rfl hl.1 rfl (lv_room (catsum_le hrest)) hd ⟨hcs.1, hcs.2⟩
  exact ww_run hrun C.2.2.2.2.2.2.1 hP hD hS hl hC hn ha hpc k
theorem ww_callS2vp (C : Cx p R s m args meth c cc own nL Γ A dd) {y : MethodName} {cy : ByteArray} {mL : Nat} {ret : Option FieldType} {d index : Nat}  {v1 v2 : Value} {rest : List Value} (hct : Ct l Γ y cy mL ret d [v1, v2] wc none wc) (hm : MI y cy mL ret 2) (hst : Cond.static y ∈ Tg) (hlk : Cond.methodLink own index y ∈ Tg) (hd : decode cc pc = .ok (.invokestatic index, 3)) (hdd : d + 1 ≤ dd) (hmL : mL ≤ 16) (hrest : rest.length ≤ 4) (hcs : cells ≤ R.cells ∧ slots ≤ R.slots) (is : List Nat) (hC : is.map (fun i => ws[i]?) = wc.map some) (hn : va_nd is = true) (pc2 : Nat) (hpc : pc + 3 = pc2) (k : WW p l e R s m args below meth c cells slots Q Γ A nL ws pc2 lv rest) : WW p l e R s m args below meth c cells slots Q Γ A nL ws pc lv (v2 :: v1 :: rest) := fun H locs ls hP hD hS hl => by
  have hroom : d + 1 ≤ R.frames ∧ 8 + (mL + 11) + 35 * d ≤ R.locals := ⟨Nat.le_trans hdd C.2.2.2.2.2.2.2.2.1, by have := C.2.2.2.2.2.2.2.2.2; show 8 + (mL + 11) + 35 * d ≤ R.locals; omega⟩
  have hcb : CallB R s args own index y cy mL ret (.code y cy mL ret :: Tg) (rmD d) 0 0 2 := ⟨rfl, rfl, ((hroom)).1, ((hroom)).2, pay_in C.2.2.2.2.1 (code_good hm.1), List.mem_cons_self, C.2.2.2.2.1 _ hm.1, C.2.2.2.2.1 _ hm.2.1, ⟨hm.2.2.1, hm.2.2.2.1⟩, fun sig h => by have h2 := hm.2.2.2.2.1; rw [h] at h2; exact (Option.some.inj h2).symm, C.2.2.2.2.1 _ hlk⟩
  have hrun := va_runS (e := e) (below := below) (meth := meth) (As := [v1, v2]) (rest := rest) (g := F0 m pc ls (v2 :: v1 :: rest)) (locs := locs) (cells := cells) (slots := slots) ⟨C.1, C.2.1, C.2.2.1, C.2.2.2.1, C.2.2.2.2.1⟩ (hct H.size) ⟨hcb, C.2.2.2.2.1 _ hst⟩ ⟨PCt.blind, pct_pre C hP hD rfl hC hn⟩ rfl rfl hl.1 rfl (lv_room (catsum_le hrest)) hd ⟨hcs.1, hcs.2⟩
  exact ww_run hrun C.2.2.2.2.2.2.1 hP hD hS hl hC hn rfl hpc (by rw [pB_same is hC]; exact k)
theorem ww_callS3 (C : Cx p R s m args meth c cc own nL Γ A dd) {y : MethodName} {cy : ByteArray} {mL : Nat} {ret : Option FieldType} {d index : Nat}  {v1 v2 v3 : Value} {r : Value} {rest : List Value} (hct : Ct l Γ y cy mL ret d [v1, v2, v3] wc (some r) wc') (hm : MI y cy mL ret 3) (hst : Cond.static y ∈ Tg) (hlk : Cond.methodLink own index y ∈ Tg) (hd : decode cc pc = .ok (.invokestatic index, 3)) (hdd : d + 1 ≤ dd) (hmL : mL ≤ 16) (hrest : rest.length ≤ 4) (hcs : cells ≤ R.cells ∧ slots ≤ R.slots) (is : List Nat) (hC : is.map (fun i => ws[i]?) = wc.map some) (hn : va_nd is = true) (ha : wc'.map (fun q => q.1) = wc.map (fun q => q.1)) (pc2 : Nat) (hpc : pc + 3 = pc2) (k : WW p l e R s m args below meth c cells slots Q Γ A nL (pB ws is wc') pc2 lv (r :: rest)) : WW p l e R s m args below meth c cells slots Q Γ A nL ws pc lv (v3 :: v2 :: v1 :: rest) := fun H locs ls hP hD hS hl => by
  have hroom : d + 1 ≤ R.frames ∧ 8 + (mL + 11) + 35 * d ≤ R.locals := ⟨Nat.le_trans hdd C.2.2.2.2.2.2.2.2.1, by have := C.2.2.2.2.2.2.2.2.2; show 8 + (mL + 11) + 35 * d ≤ R.locals; omega⟩
  have hcb : CallB R s args own index y cy mL ret (.code y cy mL ret :: Tg) (rmD d) 0 0 3 := ⟨rfl, rfl, ((hroom)).1, ((hroom)).2, pay_in C.2.2.2.2.1 (code_good hm.1), List.mem_cons_self, C.2.2.2.2.1 _ hm.1, C.2.2.2.2.1 _ hm.2.1, ⟨hm.2.2.1, hm.2.2.2.1⟩, fun sig h => by have h2 := hm.2.2.2.2.1; rw [h] at h2; exact (Option.some.inj h2).symm, C.2.2.2.2.1 _ hlk⟩
  have hrun := va_runS (e := e) (below := below) (meth := meth) (As := [v1, v2, v3]) (rest := rest) (g := F0 m pc ls (v3 :: v2 :: v1 :: rest)) (locs := locs) (cells := cells) (slots := slots) ⟨C.1, C.2.1, C.2.2.1, C.2.2.2.1, C.2.2.2.2.1⟩ (hct H.size) ⟨hcb, C.2.2.2.2.1 _ hst⟩ ⟨PCt.blind, pct_pre C hP hD rfl hC hn⟩ rfl rfl hl.1 rfl (lv_room (catsum_le hrest)) hd ⟨hcs.1, hcs.2⟩
  exact ww_run hrun C.2.2.2.2.2.2.1 hP hD hS hl hC hn ha hpc k
theorem ww_callS3p (C : Cx p R s m args meth c cc own nL Γ A dd) {y : MethodName} {cy : ByteArray} {mL : Nat} {ret : Option FieldType} {d index : Nat}  {v1 v2 v3 : Value} {r : Value} {rest : List Value} (hct : Ct l Γ y cy mL ret d [v1, v2, v3] wc (some r) wc) (hm : MI y cy mL ret 3) (hst : Cond.static y ∈ Tg) (hlk : Cond.methodLink own index y ∈ Tg) (hd : decode cc pc = .ok (.invokestatic index, 3)) (hdd : d + 1 ≤ dd) (hmL : mL ≤ 16) (hrest : rest.length ≤ 4) (hcs : cells ≤ R.cells ∧ slots ≤ R.slots) (is : List Nat) (hC : is.map (fun i => ws[i]?) = wc.map some) (hn : va_nd is = true) (pc2 : Nat) (hpc : pc + 3 = pc2) (k : WW p l e R s m args below meth c cells slots Q Γ A nL ws pc2 lv (r :: rest)) : WW p l e R s m args below meth c cells slots Q Γ A nL ws pc lv (v3 :: v2 :: v1 :: rest) := fun H locs ls hP hD hS hl => by
  have hroom : d + 1 ≤ R.frames ∧ 8 + (mL + 11) + 35 * d ≤ R.locals := ⟨Nat.le_trans hdd C.2.2.2.2.2.2.2.2.1, by have := C.2.2.2.2.2.2.2.2.2; show 8 + (mL + 11) + 35 * d ≤ R.locals; omega⟩
  have hcb : CallB R s args own index y cy mL ret (.code y cy mL ret :: Tg) (rmD d) 0 0 3 := ⟨rfl, rfl, ((hroom)).1, ((hroom)).2, pay_in C.2.2.2.2.1 (code_good hm.1), List.mem_cons_self, C.2.2.2.2.1 _ hm.1, C.2.2.2.2.1 _ hm.2.1, ⟨hm.2.2.1, hm.2.2.2.1⟩, fun sig h => by have h2 := hm.2.2.2.2.1; rw [h] at h2; exact (Option.some.inj h2).symm, C.2.2.2.2.1 _ hlk⟩
  have hrun := va_runS (e := e) (below := below) (meth := meth) (As := [v1, v2, v3]) (rest := rest) (g := F0 m pc ls (v3 :: v2 :: v1 :: rest)) (locs := locs) (cells := cells) (slots := slots) ⟨C.1, C.2.1, C.2.2.1, C.2.2.2.1, C.2.2.2.2.1⟩ (hct H.size) ⟨hcb, C.2.2.2.2.1 _ hst⟩ ⟨PCt.blind, pct_pre C hP hD rfl hC hn⟩ rfl rfl hl.1 rfl (lv_room (catsum_le hrest)) hd ⟨hcs.1, hcs.2⟩
  exact ww_run hrun C.2.2.2.2.2.2.1 hP hD hS hl hC hn rfl hpc (by rw [pB_same is hC]; exact k)
theorem ww_callS3v (C : Cx p R s m args meth c cc own nL Γ A dd) {y : MethodName} {cy : ByteArray} {mL : Nat} {ret : Option FieldType} {d index : Nat}  {v1 v2 v3 : Value} {rest : List Value} (hct : Ct l Γ y cy mL ret d [v1, v2, v3] wc none wc') (hm : MI y cy mL ret 3) (hst : Cond.static y ∈ Tg) (hlk : Cond.methodLink own index y ∈ Tg) (hd : decode cc pc = .ok (.invokestatic index, 3)) (hdd : d + 1 ≤ dd) (hmL : mL ≤ 16) (hrest : rest.length ≤ 4) (hcs : cells ≤ R.cells ∧ slots ≤ R.slots) (is : List Nat) (hC : is.map (fun i => ws[i]?) = wc.map some) (hn : va_nd is = true) (ha : wc'.map (fun q => q.1) = wc.map (fun q => q.1)) (pc2 : Nat) (hpc : pc + 3 = pc2) (k : WW p l e R s m args below meth c cells slots Q Γ A nL (pB ws is wc') pc2 lv rest) : WW p l e R s m args below meth c cells slots Q Γ A nL ws pc lv (v3 :: v2 :: v1 :: rest) := fun H locs ls hP hD hS hl => by
  have hroom : d + 1 ≤ R.frames ∧ 8 + (mL + 11) + 35 * d ≤ R.locals := ⟨Nat.le_trans hdd C.2.2.2.2.2.2.2.2.1, by have := C.2.2.2.2.2.2.2.2.2; show 8 + (mL + 11) + 35 * d ≤ R.locals; omega⟩
  have hcb : CallB R s args own index y cy mL ret (.code y cy mL ret :: Tg) (rmD d) 0 0 3 := ⟨rfl, rfl, ((hroom)).1, ((hroom)).2, pay_in C.2.2.2.2.1 (code_good hm.1), List.mem_cons_self, C.2.2.2.2.1 _ hm.1, C.2.2.2.2.1 _ hm.2.1, ⟨hm.2.2.1, hm.2.2.2.1⟩, fun sig h => by have h2 := hm.2.2.2.2.1; rw [h] at h2; exact (Option.some.inj h2).symm, C.2.2.2.2.1 _ hlk⟩
  have hrun := va_runS (e := e) (below := below) (meth := meth) (As := [v1, v2, v3]) (rest := rest) (g := F0 m pc ls (v3 :: v2 :: v1 :: rest)) (locs := locs) (cells := cells) (slots := slots) ⟨C.1, C.2.1, C.2.2.1, C.2.2.2.1, C.2.2.2.2.1⟩ (hct H.size) ⟨hcb, C.2.2.2.2.1 _ hst⟩ ⟨PCt.blind, pct_pre C hP hD rfl hC hn⟩ rfl rfl hl.1 rfl (lv_room (catsum_le hrest)) hd ⟨hcs.1, hcs.2⟩
  exact ww_run hrun C.2.2.2.2.2.2.1 hP hD hS hl hC hn ha hpc k
theorem ww_callS3vp (C : Cx p R s m args meth c cc own nL Γ A dd) {y : MethodName} {cy : ByteArray} {mL : Nat} {ret : Option FieldType} {d index : Nat}  {v1 v2 v3 : Value} {rest : List Value} (hct : Ct l Γ y cy mL ret d [v1, v2, v3] wc none wc) (hm : MI y cy mL ret 3) (hst : Cond.static y ∈ Tg) (hlk : Cond.methodLink own index y ∈ Tg) (hd : decode cc pc = .ok (.invokestatic index, 3)) (hdd : d + 1 ≤ dd) (hmL : mL ≤ 16) (hrest : rest.length ≤ 4) (hcs : cells ≤ R.cells ∧ slots ≤ R.slots) (is : List Nat) (hC : is.map (fun i => ws[i]?) = wc.map some) (hn : va_nd is = true) (pc2 : Nat) (hpc : pc + 3 = pc2) (k : WW p l e R s m args below meth c cells slots Q Γ A nL ws pc2 lv rest) : WW p l e R s m args below meth c cells slots Q Γ A nL ws pc lv (v3 :: v2 :: v1 :: rest) := fun H locs ls hP hD hS hl => by
  have hroom : d + 1 ≤ R.frames ∧ 8 + (mL + 11) + 35 * d ≤ R.locals := ⟨Nat.le_trans hdd C.2.2.2.2.2.2.2.2.1, by have := C.2.2.2.2.2.2.2.2.2; show 8 + (mL + 11) + 35 * d ≤ R.locals; omega⟩
  have hcb : CallB R s args own index y cy mL ret (.code y cy mL ret :: Tg) (rmD d) 0 0 3 := ⟨rfl, rfl, ((hroom)).1, ((hroom)).2, pay_in C.2.2.2.2.1 (code_good hm.1), List.mem_cons_self, C.2.2.2.2.1 _ hm.1, C.2.2.2.2.1 _ hm.2.1, ⟨hm.2.2.1, hm.2.2.2.1⟩, fun sig h => by have h2 := hm.2.2.2.2.1; rw [h] at h2; exact (Option.some.inj h2).symm, C.2.2.2.2.1 _ hlk⟩
  have hrun := va_runS (e := e) (below := below) (meth := meth) (As := [v1, v2, v3]) (rest := rest) (g := F0 m pc ls (v3 :: v2 :: v1 :: rest)) (locs := locs) (cells := cells) (slots := slots) ⟨C.1, C.2.1, C.2.2.1, C.2.2.2.1, C.2.2.2.2.1⟩ (hct H.size) ⟨hcb, C.2.2.2.2.1 _ hst⟩ ⟨PCt.blind, pct_pre C hP hD rfl hC hn⟩ rfl rfl hl.1 rfl (lv_room (catsum_le hrest)) hd ⟨hcs.1, hcs.2⟩
  exact ww_run hrun C.2.2.2.2.2.2.1 hP hD hS hl hC hn rfl hpc (by rw [pB_same is hC]; exact k)
theorem ww_callS4 (C : Cx p R s m args meth c cc own nL Γ A dd) {y : MethodName} {cy : ByteArray} {mL : Nat} {ret : Option FieldType} {d index : Nat}  {v1 v2 v3 v4 : Value} {r : Value} {rest : List Value} (hct : Ct l Γ y cy mL ret d [v1, v2, v3, v4] wc (some r) wc') (hm : MI y cy mL ret 4) (hst : Cond.static y ∈ Tg) (hlk : Cond.methodLink own index y ∈ Tg) (hd : decode cc pc = .ok (.invokestatic index, 3)) (hdd : d + 1 ≤ dd) (hmL : mL ≤ 16) (hrest : rest.length ≤ 4) (hcs : cells ≤ R.cells ∧ slots ≤ R.slots) (is : List Nat) (hC : is.map (fun i => ws[i]?) = wc.map some) (hn : va_nd is = true) (ha : wc'.map (fun q => q.1) = wc.map (fun q => q.1)) (pc2 : Nat) (hpc : pc + 3 = pc2) (k : WW p l e R s m args below meth c cells slots Q Γ A nL (pB ws is wc') pc2 lv (r :: rest)) : WW p l e R s m args below meth c cells slots Q Γ A nL ws pc lv (v4 :: v3 :: v2 :: v1 :: rest) := fun H locs ls hP hD hS hl => by
  have hroom : d + 1 ≤ R.frames ∧ 8 + (mL + 11) + 35 * d ≤ R.locals := ⟨Nat.le_trans hdd C.2.2.2.2.2.2.2.2.1, by have := C.2.2.2.2.2.2.2.2.2; show 8 + (mL + 11) + 35 * d ≤ R.locals; omega⟩
  have hcb : CallB R s args own index y cy mL ret (.code y cy mL ret :: Tg) (rmD d) 0 0 4 := ⟨rfl, rfl, ((hroom)).1, ((hroom)).2, pay_in C.2.2.2.2.1 (code_good hm.1), List.mem_cons_self, C.2.2.2.2.1 _ hm.1, C.2.2.2.2.1 _ hm.2.1, ⟨hm.2.2.1, hm.2.2.2.1⟩, fun sig h => by have h2 := hm.2.2.2.2.1; rw [h] at h2; exact (Option.some.inj h2).symm, C.2.2.2.2.1 _ hlk⟩
  have hrun := va_runS (e := e) (below := below) (meth := meth) (As := [v1, v2, v3, v4]) (rest := rest) (g := F0 m pc ls (v4 :: v3 :: v2 :: v1 :: rest)) (locs := locs) (cells := cells) (slots := slots) ⟨C.1, C.2.1, C.2.2.1, C.2.2.2.1, C.2.2.2.2.1⟩ (hct H.size) ⟨hcb, C.2.2.2.2.1 _ hst⟩ ⟨PCt.blind, pct_pre C hP hD rfl hC hn⟩ rfl rfl hl.1 rfl (lv_room (catsum_le hrest)) hd ⟨hcs.1, hcs.2⟩
  exact ww_run hrun C.2.2.2.2.2.2.1 hP hD hS hl hC hn ha hpc k
theorem ww_callS4p (C : Cx p R s m args meth c cc own nL Γ A dd) {y : MethodName} {cy : ByteArray} {mL : Nat} {ret : Option FieldType} {d index : Nat}  {v1 v2 v3 v4 : Value} {r : Value} {rest : List Value} (hct : Ct l Γ y cy mL ret d [v1, v2, v3, v4] wc (some r) wc) (hm : MI y cy mL ret 4) (hst : Cond.static y ∈ Tg) (hlk : Cond.methodLink own index y ∈ Tg) (hd : decode cc pc = .ok (.invokestatic index, 3)) (hdd : d + 1 ≤ dd) (hmL : mL ≤ 16) (hrest : rest.length ≤ 4) (hcs : cells ≤ R.cells ∧ slots ≤ R.slots) (is : List Nat) (hC : is.map (fun i => ws[i]?) = wc.map some) (hn : va_nd is = true) (pc2 : Nat) (hpc : pc + 3 = pc2) (k : WW p l e R s m args below meth c cells slots Q Γ A nL ws pc2 lv (r :: rest)) : WW p l e R s m args below meth c cells slots Q Γ A nL ws pc lv (v4 :: v3 :: v2 :: v1 :: rest) := fun H locs ls hP hD hS hl => by
  have hroom : d + 1 ≤ R.frames ∧ 8 + (mL + 11) + 35 * d ≤ R.locals := ⟨Nat.le_trans hdd C.2.2.2.2.2.2.2.2.1, by have := C.2.2.2.2.2.2.2.2.2; show 8 + (mL + 11) + 35 * d ≤ R.locals; omega⟩
  have hcb : CallB R s args own index y cy mL ret (.code y cy mL ret :: Tg) (rmD d) 0 0 4 := ⟨rfl, rfl, ((hroom)).1, ((hroom)).2, pay_in C.2.2.2.2.1 (code_good hm.1), List.mem_cons_self, C.2.2.2.2.1 _ hm.1, C.2.2.2.2.1 _ hm.2.1, ⟨hm.2.2.1, hm.2.2.2.1⟩, fun sig h => by have h2 := hm.2.2.2.2.1; rw [h] at h2; exact (Option.some.inj h2).symm, C.2.2.2.2.1 _ hlk⟩
  have hrun := va_runS (e := e) (below := below) (meth := meth) (As := [v1, v2, v3, v4]) (rest := rest) (g := F0 m pc ls (v4 :: v3 :: v2 :: v1 :: rest)) (locs := locs) (cells := cells) (slots := slots) ⟨C.1, C.2.1, C.2.2.1, C.2.2.2.1, C.2.2.2.2.1⟩ (hct H.size) ⟨hcb, C.2.2.2.2.1 _ hst⟩ ⟨PCt.blind, pct_pre C hP hD rfl hC hn⟩ rfl rfl hl.1 rfl (lv_room (catsum_le hrest)) hd ⟨hcs.1, hcs.2⟩
  exact ww_run hrun C.2.2.2.2.2.2.1 hP hD hS hl hC hn rfl hpc (by rw [pB_same is hC]; exact k)
theorem ww_callS4v (C : Cx p R s m args meth c cc own nL Γ A dd) {y : MethodName} {cy : ByteArray} {mL : Nat} {ret : Option FieldType} {d index : Nat}  {v1 v2 v3 v4 : Value} {rest : List Value} (hct : Ct l Γ y cy mL ret d [v1, v2, v3, v4] wc none wc') (hm : MI y cy mL ret 4) (hst : Cond.static y ∈ Tg) (hlk : Cond.methodLink own index y ∈ Tg) (hd : decode cc pc = .ok (.invokestatic index, 3)) (hdd : d + 1 ≤ dd) (hmL : mL ≤ 16) (hrest : rest.length ≤ 4) (hcs : cells ≤ R.cells ∧ slots ≤ R.slots) (is : List Nat) (hC : is.map (fun i => ws[i]?) = wc.map some) (hn : va_nd is = true) (ha : wc'.map (fun q => q.1) = wc.map (fun q => q.1)) (pc2 : Nat) (hpc : pc + 3 = pc2) (k : WW p l e R s m args below meth c cells slots Q Γ A nL (pB ws is wc') pc2 lv rest) : WW p l e R s m args below meth c cells slots Q Γ A nL ws pc lv (v4 :: v3 :: v2 :: v1 :: rest) := fun H locs ls hP hD hS hl => by
  have hroom : d + 1 ≤ R.frames ∧ 8 + (mL + 11) + 35 * d ≤ R.locals := ⟨Nat.le_trans hdd C.2.2.2.2.2.2.2.2.1, by have := C.2.2.2.2.2.2.2.2.2; show 8 + (mL + 11) + 35 * d ≤ R.locals; omega⟩
  have hcb : CallB R s args own index y cy mL ret (.code y cy mL ret :: Tg) (rmD d) 0 0 4 := ⟨rfl, rfl, ((hroom)).1, ((hroom)).2, pay_in C.2.2.2.2.1 (code_good hm.1), List.mem_cons_self, C.2.2.2.2.1 _ hm.1, C.2.2.2.2.1 _ hm.2.1, ⟨hm.2.2.1, hm.2.2.2.1⟩, fun sig h => by have h2 := hm.2.2.2.2.1; rw [h] at h2; exact (Option.some.inj h2).symm, C.2.2.2.2.1 _ hlk⟩
  have hrun := va_runS (e := e) (below := below) (meth := meth) (As := [v1, v2, v3, v4]) (rest := rest) (g := F0 m pc ls (v4 :: v3 :: v2 :: v1 :: rest)) (locs := locs) (cells := cells) (slots := slots) ⟨C.1, C.2.1, C.2.2.1, C.2.2.2.1, C.2.2.2.2.1⟩ (hct H.size) ⟨hcb, C.2.2.2.2.1 _ hst⟩ ⟨PCt.blind, pct_pre C hP hD rfl hC hn⟩ rfl rfl hl.1 rfl (lv_room (catsum_le hrest)) hd ⟨hcs.1, hcs.2⟩
  exact ww_run hrun C.2.2.2.2.2.2.1 hP hD hS hl hC hn ha hpc k
theorem ww_callS4vp (C : Cx p R s m args meth c cc own nL Γ A dd) {y : MethodName} {cy : ByteArray} {mL : Nat} {ret : Option FieldType} {d index : Nat}  {v1 v2 v3 v4 : Value} {rest : List Value} (hct : Ct l Γ y cy mL ret d [v1, v2, v3, v4] wc none wc) (hm : MI y cy mL ret 4) (hst : Cond.static y ∈ Tg) (hlk : Cond.methodLink own index y ∈ Tg) (hd : decode cc pc = .ok (.invokestatic index, 3)) (hdd : d + 1 ≤ dd) (hmL : mL ≤ 16) (hrest : rest.length ≤ 4) (hcs : cells ≤ R.cells ∧ slots ≤ R.slots) (is : List Nat) (hC : is.map (fun i => ws[i]?) = wc.map some) (hn : va_nd is = true) (pc2 : Nat) (hpc : pc + 3 = pc2) (k : WW p l e R s m args below meth c cells slots Q Γ A nL ws pc2 lv rest) : WW p l e R s m args below meth c cells slots Q Γ A nL ws pc lv (v4 :: v3 :: v2 :: v1 :: rest) := fun H locs ls hP hD hS hl => by
  have hroom : d + 1 ≤ R.frames ∧ 8 + (mL + 11) + 35 * d ≤ R.locals := ⟨Nat.le_trans hdd C.2.2.2.2.2.2.2.2.1, by have := C.2.2.2.2.2.2.2.2.2; show 8 + (mL + 11) + 35 * d ≤ R.locals; omega⟩
  have hcb : CallB R s args own index y cy mL ret (.code y cy mL ret :: Tg) (rmD d) 0 0 4 := ⟨rfl, rfl, ((hroom)).1, ((hroom)).2, pay_in C.2.2.2.2.1 (code_good hm.1), List.mem_cons_self, C.2.2.2.2.1 _ hm.1, C.2.2.2.2.1 _ hm.2.1, ⟨hm.2.2.1, hm.2.2.2.1⟩, fun sig h => by have h2 := hm.2.2.2.2.1; rw [h] at h2; exact (Option.some.inj h2).symm, C.2.2.2.2.1 _ hlk⟩
  have hrun := va_runS (e := e) (below := below) (meth := meth) (As := [v1, v2, v3, v4]) (rest := rest) (g := F0 m pc ls (v4 :: v3 :: v2 :: v1 :: rest)) (locs := locs) (cells := cells) (slots := slots) ⟨C.1, C.2.1, C.2.2.1, C.2.2.2.1, C.2.2.2.2.1⟩ (hct H.size) ⟨hcb, C.2.2.2.2.1 _ hst⟩ ⟨PCt.blind, pct_pre C hP hD rfl hC hn⟩ rfl rfl hl.1 rfl (lv_room (catsum_le hrest)) hd ⟨hcs.1, hcs.2⟩
  exact ww_run hrun C.2.2.2.2.2.2.1 hP hD hS hl hC hn rfl hpc (by rw [pB_same is hC]; exact k)
theorem ww_callS5 (C : Cx p R s m args meth c cc own nL Γ A dd) {y : MethodName} {cy : ByteArray} {mL : Nat} {ret : Option FieldType} {d index : Nat}  {v1 v2 v3 v4 v5 : Value} {r : Value} {rest : List Value} (hct : Ct l Γ y cy mL ret d [v1, v2, v3, v4, v5] wc (some r) wc') (hm : MI y cy mL ret 5) (hst : Cond.static y ∈ Tg) (hlk : Cond.methodLink own index y ∈ Tg) (hd : decode cc pc = .ok (.invokestatic index, 3)) (hdd : d + 1 ≤ dd) (hmL : mL ≤ 16) (hrest : rest.length ≤ 4) (hcs : cells ≤ R.cells ∧ slots ≤ R.slots) (is : List Nat) (hC : is.map (fun i => ws[i]?) = wc.map some) (hn : va_nd is = true) (ha : wc'.map (fun q => q.1) = wc.map (fun q => q.1)) (pc2 : Nat) (hpc : pc + 3 = pc2) (k : WW p l e R s m args below meth c cells slots Q Γ A nL (pB ws is wc') pc2 lv (r :: rest)) : WW p l e R s m args below meth c cells slots Q Γ A nL ws pc lv (v5 :: v4 :: v3 :: v2 :: v1 :: rest) := fun H locs ls hP hD hS hl => by
  have hroom : d + 1 ≤ R.frames ∧ 8 + (mL + 11) + 35 * d ≤ R.locals := ⟨Nat.le_trans hdd C.2.2.2.2.2.2.2.2.1, by have := C.2.2.2.2.2.2.2.2.2; show 8 + (mL + 11) + 35 * d ≤ R.locals; omega⟩
  have hcb : CallB R s args own index y cy mL ret (.code y cy mL ret :: Tg) (rmD d) 0 0 5 := ⟨rfl, rfl, ((hroom)).1, ((hroom)).2, pay_in C.2.2.2.2.1 (code_good hm.1), List.mem_cons_self, C.2.2.2.2.1 _ hm.1, C.2.2.2.2.1 _ hm.2.1, ⟨hm.2.2.1, hm.2.2.2.1⟩, fun sig h => by have h2 := hm.2.2.2.2.1; rw [h] at h2; exact (Option.some.inj h2).symm, C.2.2.2.2.1 _ hlk⟩
  have hrun := va_runS (e := e) (below := below) (meth := meth) (As := [v1, v2, v3, v4, v5]) (rest := rest) (g := F0 m pc ls (v5 :: v4 :: v3 :: v2 :: v1 :: rest)) (locs := locs) (cells := cells) (slots := slots) ⟨C.1, C.2.1, C.2.2.1, C.2.2.2.1, C.2.2.2.2.1⟩ (hct H.size) ⟨hcb, C.2.2.2.2.1 _ hst⟩ ⟨PCt.blind, pct_pre C hP hD rfl hC hn⟩ rfl rfl hl.1 rfl (lv_room (catsum_le hrest)) hd ⟨hcs.1, hcs.2⟩
  exact ww_run hrun C.2.2.2.2.2.2.1 hP hD hS hl hC hn ha hpc k
theorem ww_callS5p (C : Cx p R s m args meth c cc own nL Γ A dd) {y : MethodName} {cy : ByteArray} {mL : Nat} {ret : Option FieldType} {d index : Nat}  {v1 v2 v3 v4 v5 : Value} {r : Value} {rest : List Value} (hct : Ct l Γ y cy mL ret d [v1, v2, v3, v4, v5] wc (some r) wc) (hm : MI y cy mL ret 5) (hst : Cond.static y ∈ Tg) (hlk : Cond.methodLink own index y ∈ Tg) (hd : decode cc pc = .ok (.invokestatic index, 3)) (hdd : d + 1 ≤ dd) (hmL : mL ≤ 16) (hrest : rest.length ≤ 4) (hcs : cells ≤ R.cells ∧ slots ≤ R.slots) (is : List Nat) (hC : is.map (fun i => ws[i]?) = wc.map some) (hn : va_nd is = true) (pc2 : Nat) (hpc : pc + 3 = pc2) (k : WW p l e R s m args below meth c cells slots Q Γ A nL ws pc2 lv (r :: rest)) : WW p l e R s m args below meth c cells slots Q Γ A nL ws pc lv (v5 :: v4 :: v3 :: v2 :: v1 :: rest) := fun H locs ls hP hD hS hl => by
  have hroom : d + 1 ≤ R.frames ∧ 8 + (mL + 11) + 35 * d ≤ R.locals := ⟨Nat.le_trans hdd C.2.2.2.2.2.2.2.2.1, by have := C.2.2.2.2.2.2.2.2.2; show 8 + (mL + 11) + 35 * d ≤ R.locals; omega⟩
  have hcb : CallB R s args own index y cy mL ret (.code y cy mL ret :: Tg) (rmD d) 0 0 5 := ⟨rfl, rfl, ((hroom)).1, ((hroom)).2, pay_in C.2.2.2.2.1 (code_good hm.1), List.mem_cons_self, C.2.2.2.2.1 _ hm.1, C.2.2.2.2.1 _ hm.2.1, ⟨hm.2.2.1, hm.2.2.2.1⟩, fun sig h => by have h2 := hm.2.2.2.2.1; rw [h] at h2; exact (Option.some.inj h2).symm, C.2.2.2.2.1 _ hlk⟩
  have hrun := va_runS (e := e) (below := below) (meth := meth) (As := [v1, v2, v3, v4, v5]) (rest := rest) (g := F0 m pc ls (v5 :: v4 :: v3 :: v2 :: v1 :: rest)) (locs := locs) (cells := cells) (slots := slots) ⟨C.1, C.2.1, C.2.2.1, C.2.2.2.1, C.2.2.2.2.1⟩ (hct H.size) ⟨hcb, C.2.2.2.2.1 _ hst⟩ ⟨PCt.blind, pct_pre C hP hD rfl hC hn⟩ rfl rfl hl.1 rfl (lv_room (catsum_le hrest)) hd ⟨hcs.1, hcs.2⟩
  exact ww_run hrun C.2.2.2.2.2.2.1 hP hD hS hl hC hn rfl hpc (by rw [pB_same is hC]; exact k)
theorem ww_callS5v (C : Cx p R s m args meth c cc own nL Γ A dd) {y : MethodName} {cy : ByteArray} {mL : Nat} {ret : Option FieldType} {d index : Nat}  {v1 v2 v3 v4 v5 : Value} {rest : List Value} (hct : Ct l Γ y cy mL ret d [v1, v2, v3, v4, v5] wc none wc') (hm : MI y cy mL ret 5) (hst : Cond.static y ∈ Tg) (hlk : Cond.methodLink own index y ∈ Tg) (hd : decode cc pc = .ok (.invokestatic index, 3)) (hdd : d + 1 ≤ dd) (hmL : mL ≤ 16) (hrest : rest.length ≤ 4) (hcs : cells ≤ R.cells ∧ slots ≤ R.slots) (is : List Nat) (hC : is.map (fun i => ws[i]?) = wc.map some) (hn : va_nd is = true) (ha : wc'.map (fun q => q.1) = wc.map (fun q => q.1)) (pc2 : Nat) (hpc : pc + 3 = pc2) (k : WW p l e R s m args below meth c cells slots Q Γ A nL (pB ws is wc') pc2 lv rest) : WW p l e R s m args below meth c cells slots Q Γ A nL ws pc lv (v5 :: v4 :: v3 :: v2 :: v1 :: rest) := fun H locs ls hP hD hS hl => by
  have hroom : d + 1 ≤ R.frames ∧ 8 + (mL + 11) + 35 * d ≤ R.locals := ⟨Nat.le_trans hdd C.2.2.2.2.2.2.2.2.1, by have := C.2.2.2.2.2.2.2.2.2; show 8 + (mL + 11) + 35 * d ≤ R.locals; omega⟩
  have hcb : CallB R s args own index y cy mL ret (.code y cy mL ret :: Tg) (rmD d) 0 0 5 := ⟨rfl, rfl, ((hroom)).1, ((hroom)).2, pay_in C.2.2.2.2.1 (code_good hm.1), List.mem_cons_self, C.2.2.2.2.1 _ hm.1, C.2.2.2.2.1 _ hm.2.1, ⟨hm.2.2.1, hm.2.2.2.1⟩, fun sig h => by have h2 := hm.2.2.2.2.1; rw [h] at h2; exact (Option.some.inj h2).symm, C.2.2.2.2.1 _ hlk⟩
  have hrun := va_runS (e := e) (below := below) (meth := meth) (As := [v1, v2, v3, v4, v5]) (rest := rest) (g := F0 m pc ls (v5 :: v4 :: v3 :: v2 :: v1 :: rest)) (locs := locs) (cells := cells) (slots := slots) ⟨C.1, C.2.1, C.2.2.1, C.2.2.2.1, C.2.2.2.2.1⟩ (hct H.size) ⟨hcb, C.2.2.2.2.1 _ hst⟩ ⟨PCt.blind, pct_pre C hP hD rfl hC hn⟩ rfl rfl hl.1 rfl (lv_room (catsum_le hrest)) hd ⟨hcs.1, hcs.2⟩
  exact ww_run hrun C.2.2.2.2.2.2.1 hP hD hS hl hC hn ha hpc k
theorem ww_callS5vp (C : Cx p R s m args meth c cc own nL Γ A dd) {y : MethodName} {cy : ByteArray} {mL : Nat} {ret : Option FieldType} {d index : Nat}  {v1 v2 v3 v4 v5 : Value} {rest : List Value} (hct : Ct l Γ y cy mL ret d [v1, v2, v3, v4, v5] wc none wc) (hm : MI y cy mL ret 5) (hst : Cond.static y ∈ Tg) (hlk : Cond.methodLink own index y ∈ Tg) (hd : decode cc pc = .ok (.invokestatic index, 3)) (hdd : d + 1 ≤ dd) (hmL : mL ≤ 16) (hrest : rest.length ≤ 4) (hcs : cells ≤ R.cells ∧ slots ≤ R.slots) (is : List Nat) (hC : is.map (fun i => ws[i]?) = wc.map some) (hn : va_nd is = true) (pc2 : Nat) (hpc : pc + 3 = pc2) (k : WW p l e R s m args below meth c cells slots Q Γ A nL ws pc2 lv rest) : WW p l e R s m args below meth c cells slots Q Γ A nL ws pc lv (v5 :: v4 :: v3 :: v2 :: v1 :: rest) := fun H locs ls hP hD hS hl => by
  have hroom : d + 1 ≤ R.frames ∧ 8 + (mL + 11) + 35 * d ≤ R.locals := ⟨Nat.le_trans hdd C.2.2.2.2.2.2.2.2.1, by have := C.2.2.2.2.2.2.2.2.2; show 8 + (mL + 11) + 35 * d ≤ R.locals; omega⟩
  have hcb : CallB R s args own index y cy mL ret (.code y cy mL ret :: Tg) (rmD d) 0 0 5 := ⟨rfl, rfl, ((hroom)).1, ((hroom)).2, pay_in C.2.2.2.2.1 (code_good hm.1), List.mem_cons_self, C.2.2.2.2.1 _ hm.1, C.2.2.2.2.1 _ hm.2.1, ⟨hm.2.2.1, hm.2.2.2.1⟩, fun sig h => by have h2 := hm.2.2.2.2.1; rw [h] at h2; exact (Option.some.inj h2).symm, C.2.2.2.2.1 _ hlk⟩
  have hrun := va_runS (e := e) (below := below) (meth := meth) (As := [v1, v2, v3, v4, v5]) (rest := rest) (g := F0 m pc ls (v5 :: v4 :: v3 :: v2 :: v1 :: rest)) (locs := locs) (cells := cells) (slots := slots) ⟨C.1, C.2.1, C.2.2.1, C.2.2.2.1, C.2.2.2.2.1⟩ (hct H.size) ⟨hcb, C.2.2.2.2.1 _ hst⟩ ⟨PCt.blind, pct_pre C hP hD rfl hC hn⟩ rfl rfl hl.1 rfl (lv_room (catsum_le hrest)) hd ⟨hcs.1, hcs.2⟩
  exact ww_run hrun C.2.2.2.2.2.2.1 hP hD hS hl hC hn rfl hpc (by rw [pB_same is hC]; exact k)
end WWr
