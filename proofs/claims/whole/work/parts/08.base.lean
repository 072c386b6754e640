/-! ===== a calculus of its own over the kit's rows: a heap of cells as a function, locals and stack as lists, one judgement V for a frame, one Cn for a call ===== -/
abbrev hpT : Type := Nat → Option va_E
def hpS (h : hpT) (a : Nat) (e : va_E) : hpT := fun j => if j = a then some e else h j
theorem hpS_self (h : hpT) (a : Nat) (e : va_E) : hpS h a e a = some e := by simp [hpS]
theorem hpS_ne (h : hpT) {a j : Nat} (e : va_E) (hj : j ≠ a) : hpS h a e j = h j := by simp [hpS, hj]
abbrev zGT : Type := va_G × ClassId × ClassId × ClassId
abbrev ztys (G : zGT) : List (ClassId × FieldType) := [(G.2.1, .int), (G.2.2.1, .long), (G.2.2.2, .object RX0)]
def aI (G : zGT) (n : Nat) (f : Nat → Int32) : va_E := .inl (G.2.1, n, .inl f)
def aJ (G : zGT) (n : Nat) (f : Nat → Int64) : va_E := .inl (G.2.2.1, n, .inr (.inl f))
def aR (G : zGT) (n : Nat) (f : Nat → Option Nat) : va_E := .inl (G.2.2.2, n, .inr (.inr (.inr (.inr f))))
def ob (ci : Nat) (fs : List Value) : va_E := .inr (ci, fs)
def zP (G : zGT) (h : hpT) (H : Heap) : Prop := ∀ a e, h a = some e → va_at G.1 vwCl (a, e) H
def zNestB : Cond → Bool
  | .fieldLinkNest _ _ _ _ _ _ => true
  | .methodLinkNest _ _ _ _ => true
  | _ => false
def zW (w : Cond) : Prop := w ∈ lw_tbl ∧ (goodWord w || zNestB w) = true
def zws : List Cond := lw_tbl.filter goodWord
/-- what the tables say beside the good words -/
def zNF (U : State) : Prop := (∀ w ∈ lw_tbl, zNestB w = true → va_Nw w U) ∧ va_AO RX0 U
theorem zNest_on {w : Cond} (h : zNestB w = true) : w.onTables = true := by
  cases w <;> first | rfl | (simp [zNestB] at h; done)
theorem zNF.warm {s U : State} (hW : s.WarmedH U.vm) (h : zNF s) : zNF U := by
  refine ⟨fun w hw hn => ?_, h.2.moved hW.alike⟩
  have h1 := h.1 w hw hn
  cases w <;> first | exact va_Nw.warmF hW h1 | exact va_Nw.warmM hW h1 | (simp [zNestB] at hn; done)
theorem zNF.same {u U : State} (hv : u.vm = U.vm) (h : zNF u) : zNF U := by
  refine ⟨fun w hw hn => va_Nw.same (zNest_on hn) hv (h.1 w hw hn), h.2.moved ?_⟩
  rw [hv]
  exact Vm.Alike.refl _
/-- the constants of a frame -/
def zB (G : zGT) (own : String) (cc : ByteArray) (nL : Nat) (rt : Option FieldType) (ini : Bool) (d : Nat) (p : Program) (R : Room) (s : State) (m : MethodId) (args : Array Value) (meth : Method) (c : Code) (A : Nat → Prop) : Prop :=
  p.tables.exec = Jvm.exec ∧ c.code = cc ∧ c.maxLocals = nL ∧ s.vm.findClass own = some m.cls ∧ (∀ w, zW w → w.before args s = true) ∧ va_K G.1 vwCl (ztys G) s ∧ zNF s ∧ meth.sig.returnType = rt ∧ meth.locks = false ∧ (ini = true → meth.name = "<init>") ∧ (∀ q, s.heap.size ≤ q → A q) ∧ d ≤ R.frames ∧ 40 * d ≤ R.locals
/-- the heap of a frame -/
def zH (G : zGT) (h : hpT) (sz : Nat) (A : Nat → Prop) (s : State) (H : Heap) (locs : List Loc) : Prop :=
  zP G h H ∧ (∀ a e, h a = some e → A a) ∧ H.size = sz ∧ va_S A s.heap H locs
def zget : List (Option Value) → Nat → Option Value
  | [], _ => none
  | a :: _, 0 => a
  | _ :: t, n + 1 => zget t n
def zset : List (Option Value) → Nat → Option Value → List (Option Value)
  | [], 0, v => [v]
  | [], n + 1, v => none :: zset [] n v
  | _ :: t, 0, v => v :: t
  | a :: t, n + 1, v => a :: zset t n v
theorem zget_set : ∀ (lv : List (Option Value)) (i j : Nat) (v : Option Value), zget (zset lv i v) j = if j = i then v else zget lv j
  | [], 0, 0, v => rfl
  | [], 0, j + 1, v => by simp [zset, zget]
  | [], i + 1, 0, v => by simp [zset, zget]
  | [], i + 1, j + 1, v => by simp [zset, zget, zget_set [] i j v]
  | a :: t, 0, 0, v => rfl
  | a :: t, 0, j + 1, v => by simp [zset, zget]
  | a :: t, i + 1, 0, v => by simp [zset, zget]
  | a :: t, i + 1, j + 1, v => by simp [zset, zget, zget_set t i j v]
/-- no long stands just ahead of the slot -/
def zok : List (Option Value) → Nat → Bool
  | [], _ => true
  | _, 0 => true
  | a :: _, 1 => match a with
    | some (.long _) => false
    | some (.double _) => false
    | _ => true
  | _ :: t, n + 2 => zok t (n + 1)
theorem zok_get : ∀ (lv : List (Option Value)) (i : Nat) (v : Value), zok lv (i + 1) = true → zget lv i = some v → ¬ v.category = 2
  | [], i, v, _, h => by simp [zget] at h
  | a :: t, 0, v, h, hg => by
    simp only [zget] at hg
    subst hg
    cases v <;> simp [zok, Value.category] at h ⊢
  | a :: t, i + 1, v, h, hg => zok_get t i v (by simpa [zok] using h) (by simpa [zget] using hg)
def zLv (ls : Array Slot) (nL : Nat) (lv : List (Option Value)) : Prop := ls.size = nL ∧ lv_wf ls ∧ ∀ i v, zget lv i = some v → ls[i]? = some (.val v)
/-- the kit's list of the locals that are known -/
def zprs : Nat → List (Option Value) → List (Nat × Value)
  | _, [] => []
  | k, some v :: t => (k, v) :: zprs (k + 1) t
  | k, none :: t => zprs (k + 1) t
theorem zprs_mem : ∀ (lv : List (Option Value)) (k : Nat) (q : Nat × Value), q ∈ zprs k lv ↔ ∃ i, q.1 = k + i ∧ zget lv i = some q.2
  | [], k, q => by simp [zprs, zget]
  | some v :: t, k, q => by
    rw [zprs, List.mem_cons, zprs_mem t (k + 1) q]
    constructor
    · rintro (rfl | ⟨i, h1, h2⟩)
      · exact ⟨0, rfl, rfl⟩
      · exact ⟨i + 1, by omega, h2⟩
    · rintro ⟨i, h1, h2⟩
      cases i with
      | zero =>
        left
        obtain ⟨a, b⟩ := q
        simp only [zget, Option.some.injEq] at h2
        simp only at h1
        rw [h2, h1]
        rfl
      | succ i => exact Or.inr ⟨i, by omega, h2⟩
  | none :: t, k, q => by
    rw [zprs, zprs_mem t (k + 1) q]
    constructor
    · rintro ⟨i, h1, h2⟩
      exact ⟨i + 1, by omega, h2⟩
    · rintro ⟨i, h1, h2⟩
      cases i with
      | zero => simp [zget] at h2
      | succ i => exact ⟨i, by omega, h2⟩
theorem zLv.has {ls : Array Slot} {nL : Nat} {lv : List (Option Value)} (h : zLv ls nL lv) : lv_has ls nL (zprs 0 lv) := by
  refine ⟨h.1, h.2.1, fun q hq => ?_⟩
  obtain ⟨i, h1, h2⟩ := (zprs_mem lv 0 q).mp hq
  rw [show q.1 = i by omega]
  exact h.2.2 i q.2 h2
theorem zLv.st1 {ls : Array Slot} {nL : Nat} {lv : List (Option Value)} {i : Nat} {v : Value} (hok : zok lv i = true) (h : lv_has ls nL ((i, v) :: (zprs 0 lv).filter (fun q => !(q.1 == i) && !(q.1 + 1 == i && q.2.category == 2)))) : zLv ls nL (zset lv i (some v)) := by
  refine ⟨h.1, h.2.1, fun j w hj => ?_⟩
  rw [zget_set] at hj
  by_cases e : j = i
  · subst e
    rw [if_pos rfl] at hj
    cases hj
    exact h.2.2 (j, v) List.mem_cons_self
  · rw [if_neg e] at hj
    refine h.2.2 (j, w) (List.mem_cons_of_mem _ (List.mem_filter.mpr ⟨(zprs_mem lv 0 (j, w)).mpr ⟨j, by simp, hj⟩, ?_⟩))
    have h2 : ¬ (j + 1 = i ∧ w.category = 2) := by
      rintro ⟨rfl, hc⟩
      exact zok_get lv j w hok hj hc
    simp only [Bool.and_eq_true, Bool.not_eq_true', beq_eq_false_iff_ne, ne_eq, Bool.and_eq_false_iff]
    refine ⟨e, ?_⟩
    by_cases e2 : j + 1 = i
    · exact Or.inr (fun q => h2 ⟨e2, q⟩)
    · exact Or.inl e2
theorem zLv.st2 {ls : Array Slot} {nL : Nat} {lv : List (Option Value)} {i : Nat} {v : Value} (hok : zok lv i = true) (h : lv_has ls nL ((i, v) :: (zprs 0 lv).filter (fun q => !(q.1 == i) && (!(q.1 == i + 1) && !(q.1 + 1 == i && q.2.category == 2))))) : zLv ls nL (zset (zset lv (i + 1) none) i (some v)) := by
  refine ⟨h.1, h.2.1, fun j w hj => ?_⟩
  rw [zget_set, zget_set] at hj
  by_cases e : j = i
  · subst e
    rw [if_pos rfl] at hj
    cases hj
    exact h.2.2 (j, v) List.mem_cons_self
  · rw [if_neg e] at hj
    by_cases e1 : j = i + 1
    · rw [if_pos e1] at hj
      cases hj
    · rw [if_neg e1] at hj
      refine h.2.2 (j, w) (List.mem_cons_of_mem _ (List.mem_filter.mpr ⟨(zprs_mem lv 0 (j, w)).mpr ⟨j, by simp, hj⟩, ?_⟩))
      have h2 : ¬ (j + 1 = i ∧ w.category = 2) := by
        rintro ⟨rfl, hc⟩
        exact zok_get lv j w hok hj hc
      simp only [Bool.and_eq_true, Bool.not_eq_true', beq_eq_false_iff_ne, ne_eq, Bool.and_eq_false_iff]
      refine ⟨e, e1, ?_⟩
      by_cases e2 : j + 1 = i
      · exact Or.inr (fun q => h2 ⟨e2, q⟩)
      · exact Or.inl e2
def zent : List Value → List (Option Value)
  | [] => []
  | .long x :: t => some (.long x) :: none :: zent t
  | .double x :: t => some (.double x) :: none :: zent t
  | .int x :: t => some (.int x) :: zent t
  | .ref x :: t => some (.ref x) :: zent t
  | v :: t => some v :: zent t
/-- the end of a method -/
def zQ (G : zGT) (Post : Option Value → hpT → Nat → Prop) (A : Nat → Prop) : Array Value → State → Outcome → State → Prop := fun _ st oc t =>
  ∃ (r : Option Value) (h : hpT) (sz : Nat), oc = .returned r ∧ Post r h sz ∧ zP G h t.heap ∧ (∀ a e, h a = some e → A a) ∧ t.heap.size = sz ∧ va_F A st t
def zA (h : hpT) (sz : Nat) : Nat → Prop := fun q => (∃ e, h q = some e) ∨ sz ≤ q
/-- a frame at pc goes on to the method's end -/
def V (l : Launch) (G : zGT) (own : String) (cc : ByteArray) (nL : Nat) (rt : Option FieldType) (ini : Bool) (d kc ks : Nat) (Post : Option Value → hpT → Nat → Prop) (pc : Nat) (lv : List (Option Value)) (st : List Value) (h : hpT) (sz : Nat) : Prop :=
  ∀ (p : Program) (e : Env) (R : Room) (s : State) (m : MethodId) (args : Array Value) (below : List Frame) (meth : Method) (c : Code) (A : Nat → Prop), zB G own cc nL rt ini d p R s m args meth c A →
  ∀ (H : Heap) (locs : List Loc) (cells slots : Nat) (ls : Array Slot), zH G h sz A s H locs → zLv ls nL lv → cells + kc ≤ R.cells → slots + ks ≤ R.slots →
  W p l e R s m args below meth c H locs cells slots (MQ below (zQ G Post A) args s R.cells R.slots A) (F0 m pc ls st)
/-- a call, from its arguments and the heap -/
def Cn (l : Launch) (G : zGT) (y : MethodName) (cc : ByteArray) (nL : Nat) (rt : Option FieldType) (d kc ks : Nat) (args : List Value) (h : hpT) (sz : Nat) (Post : Option Value → hpT → Nat → Prop) : Prop :=
  Met l y (.code y cc nL rt :: zws) { frames := d, cells := kc, slots := ks, locals := 40 * d } (va_Pc args (fun U => zP G h U.heap ∧ U.heap.size = sz ∧ va_K G.1 vwCl (ztys G) U ∧ zNF U)) (zQ G Post (zA h sz)) kc ks (zA h sz)
theorem zargs_mem : ∀ (vs : List Value) (k i : Nat) (v : Value), zget (zent vs) i = some v → (k + i, v) ∈ lv_args k vs
  | [], k, i, v, h => by simp [zent, zget] at h
  | a :: t, k, i, v, h => by
    have c2 : ∀ (i : Nat), a.category = 2 → zget (some a :: none :: zent t) i = some v → (k + i, v) ∈ lv_args k (a :: t) := by
      intro i hc h
      rw [lv_args, if_pos hc]
      match i, h with
      | 0, h => simp only [zget, Option.some.injEq] at h; rw [h]; exact List.mem_cons_self
      | 1, h => simp [zget] at h
      | j + 2, h => exact List.mem_cons_of_mem _ (by have := zargs_mem t (k + 2) j v h; rwa [show k + 2 + j = k + (j + 2) by omega] at this)
    have c1 : ∀ (i : Nat), ¬ a.category = 2 → zget (some a :: zent t) i = some v → (k + i, v) ∈ lv_args k (a :: t) := by
      intro i hc h
      rw [lv_args, if_neg hc]
      match i, h with
      | 0, h => simp only [zget, Option.some.injEq] at h; rw [h]; exact List.mem_cons_self
      | j + 1, h => exact List.mem_cons_of_mem _ (by have := zargs_mem t (k + 1) j v h; rwa [show k + 1 + j = k + (j + 1) by omega] at this)
    cases a <;> first | exact c2 i rfl h | exact c1 i (by simp [Value.category]) h
set_option maxHeartbeats 1000000 in
theorem Cn.of {l : Launch} {G : zGT} {y : MethodName} {cc : ByteArray} {nL : Nat} {rt : Option FieldType} {d kc ks : Nat} {args : List Value} {h : hpT} {sz : Nat} {Post : Option Value → hpT → Nat → Prop} (own : String) (ini : Bool) (hy : plainName y.cls = true) (hown : y.cls = own) (hini : ini = true → y.name = "<init>") (hlen : (lg_sl args).length ≤ nL)
    (hV : V l G own cc nL rt ini d kc ks Post 0 (zent args) [] h sz) : Cn l G y cc nL rt d kc ks args h sz Post := by
  subst hown
  refine Met.ofW (cc := cc) (maxL := nL) (ret := rt) hy rfl ?_
  intro p e s m args' below meth c s₁ B hml hv
  obtain ⟨rfl, hP, hsz, hK, hN⟩ := hv
  have hts := atoms_spec (ws := .code y cc nL rt :: zws) B.pre
  have hl := lv_entry args (n := nL) hlen
  rw [lg_entry_eq]
  refine hV p e _ s m args.toArray below meth c (zA h sz) ⟨B.exec, B.bytes, hml, findClass_of_methodNamed B.named, fun w hw => ?_, hK, hN, B.returns, B.notSynchronized, fun hi => (name_of_methodNamed B.named B.method).1.trans (hini hi), fun q hq => Or.inr (by rw [← hsz]; exact hq), Nat.le_refl d, Nat.le_refl (40 * d)⟩ s.heap [] 0 0 _ ⟨hP, fun a e ha => Or.inl ⟨e, ha⟩, hsz, va_S.rf⟩ ⟨hl.1, hl.2.1, fun i v hi => ?_⟩ (by simp [headSpec]) (by simp [headSpec])
  · obtain ⟨h1, h2⟩ := hw
    rcases Bool.or_eq_true_iff.mp h2 with h3 | h3
    · exact hts w (List.mem_cons_of_mem _ (List.mem_filter.mpr ⟨h1, h3⟩))
    · exact va_Nw.use (zNest_on h3) (hN.1 w h1 h3)
  · have := hl.2.2 (i, v) (by have := zargs_mem args 0 i v hi; rwa [Nat.zero_add] at this)
    exact this
