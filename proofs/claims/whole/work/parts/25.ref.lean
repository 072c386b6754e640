/-- the reference: its ints by their fields, y, its rows of ints (1 names 2 senses 3 row 4 text 5 told 6 toldSense 7 nextOne 8 seat), its rows of longs -/
abbrev MT : Type := (Nat → Int32) × Int64 × (Nat → Nat → Int32) × (Nat → Nat → Int64)
def fM (m : Nat) (M : MT) : List Value := [.int (M.1 0), .ref (m + 1), .ref (m + 2), .ref (m + 3), .int (M.1 4), .int (M.1 5), .int (M.1 6), .int (M.1 7), .int (M.1 8), .int (M.1 9), .int (M.1 10), .int (M.1 11), .long M.2.1, .ref (m + 4), .int (M.1 14), .int (M.1 15), .int (M.1 16), .int (M.1 17), .int (M.1 18), .int (M.1 19), .int (M.1 20), .ref (m + 5), .ref (m + 6), .int (M.1 23), .int (M.1 24), .int (M.1 25), .int (M.1 26), .ref (m + 7), .ref (m + 8), .ref (m + 9), .ref (m + 10)]
def MA (G : zGT) (h : hpT) (m : Nat) (M : MT) : Prop := h m = some (ob 6 (fM m M)) ∧ h (m + 1) = some (aI G 6 (M.2.2.1 1)) ∧ h (m + 2) = some (aI G 6 (M.2.2.1 2)) ∧ h (m + 3) = some (aI G 4200 (M.2.2.1 3)) ∧ h (m + 4) = some (aI G 40 (M.2.2.1 4)) ∧ h (m + 5) = some (aI G 6 (M.2.2.1 5)) ∧ h (m + 6) = some (aI G 6 (M.2.2.1 6)) ∧ h (m + 7) = some (aI G 4 (M.2.2.1 7)) ∧ h (m + 8) = some (aI G 6 (M.2.2.1 8)) ∧ h (m + 9) = some (aJ G 6 (M.2.2.2 0)) ∧ h (m + 10) = some (aJ G 6 (M.2.2.2 1))
def mI (M : MT) (k : Nat) (x : Int32) : MT := (va_up M.1 k x, M.2)
def mY (M : MT) (y : Int64) : MT := (M.1, y, M.2.2)
def mJ (M : MT) (k : Nat) (f : Nat → Int32) : MT := (M.1, M.2.1, va_up M.2.2.1 k f, M.2.2.2)
def mL (M : MT) (k : Nat) (f : Nat → Int64) : MT := (M.1, M.2.1, M.2.2.1, va_up M.2.2.2 k f)
def WM (G : zGT) (h0 h : hpT) (m : Nat) (M : MT) : Prop := MA G h m M ∧ Fr m 11 h0 h
section M25a
variable {G : zGT} {h0 h : hpT} {m : Nat} {M : MT}
theorem WM.ob {M1 : MT} {fs : List Value} (hM : WM G h0 h m M) (hfs : fs = fM m M1) (hJ : M1.2.2 = M.2.2) : WM G h0 (hpS h m (ob 6 fs)) m M1 := by
  obtain ⟨⟨e0, e1, e2, e3, e4, e5, e6, e7, e8, e9, e10⟩, hF⟩ := hM
  subst hfs
  exact ⟨⟨hpS_self _ _ _, by rw [hpS_ne _ _ (by omega), hJ]; exact e1, by rw [hpS_ne _ _ (by omega), hJ]; exact e2, by rw [hpS_ne _ _ (by omega), hJ]; exact e3, by rw [hpS_ne _ _ (by omega), hJ]; exact e4, by rw [hpS_ne _ _ (by omega), hJ]; exact e5, by rw [hpS_ne _ _ (by omega), hJ]; exact e6, by rw [hpS_ne _ _ (by omega), hJ]; exact e7, by rw [hpS_ne _ _ (by omega), hJ]; exact e8, by rw [hpS_ne _ _ (by omega), hJ]; exact e9, by rw [hpS_ne _ _ (by omega), hJ]; exact e10⟩, hF.set _ (by omega) (by omega)⟩
theorem WM.a1 (hM : WM G h0 h m M) (f : Nat → Int32) : WM G h0 (hpS h (m + 1) (aI G 6 f)) m (mJ M 1 f) := by
  obtain ⟨⟨e0, e1, e2, e3, e4, e5, e6, e7, e8, e9, e10⟩, hF⟩ := hM
  exact ⟨⟨by rw [hpS_ne _ _ (by omega)]; exact e0, hpS_self _ _ _, by rw [hpS_ne _ _ (by omega)]; exact e2, by rw [hpS_ne _ _ (by omega)]; exact e3, by rw [hpS_ne _ _ (by omega)]; exact e4, by rw [hpS_ne _ _ (by omega)]; exact e5, by rw [hpS_ne _ _ (by omega)]; exact e6, by rw [hpS_ne _ _ (by omega)]; exact e7, by rw [hpS_ne _ _ (by omega)]; exact e8, by rw [hpS_ne _ _ (by omega)]; exact e9, by rw [hpS_ne _ _ (by omega)]; exact e10⟩, hF.set _ (by omega) (by omega)⟩
theorem WM.a2 (hM : WM G h0 h m M) (f : Nat → Int32) : WM G h0 (hpS h (m + 2) (aI G 6 f)) m (mJ M 2 f) := by
  obtain ⟨⟨e0, e1, e2, e3, e4, e5, e6, e7, e8, e9, e10⟩, hF⟩ := hM
  exact ⟨⟨by rw [hpS_ne _ _ (by omega)]; exact e0, by rw [hpS_ne _ _ (by omega)]; exact e1, hpS_self _ _ _, by rw [hpS_ne _ _ (by omega)]; exact e3, by rw [hpS_ne _ _ (by omega)]; exact e4, by rw [hpS_ne _ _ (by omega)]; exact e5, by rw [hpS_ne _ _ (by omega)]; exact e6, by rw [hpS_ne _ _ (by omega)]; exact e7, by rw [hpS_ne _ _ (by omega)]; exact e8, by rw [hpS_ne _ _ (by omega)]; exact e9, by rw [hpS_ne _ _ (by omega)]; exact e10⟩, hF.set _ (by omega) (by omega)⟩
theorem WM.a3 (hM : WM G h0 h m M) (f : Nat → Int32) : WM G h0 (hpS h (m + 3) (aI G 4200 f)) m (mJ M 3 f) := by
  obtain ⟨⟨e0, e1, e2, e3, e4, e5, e6, e7, e8, e9, e10⟩, hF⟩ := hM
  exact ⟨⟨by rw [hpS_ne _ _ (by omega)]; exact e0, by rw [hpS_ne _ _ (by omega)]; exact e1, by rw [hpS_ne _ _ (by omega)]; exact e2, hpS_self _ _ _, by rw [hpS_ne _ _ (by omega)]; exact e4, by rw [hpS_ne _ _ (by omega)]; exact e5, by rw [hpS_ne _ _ (by omega)]; exact e6, by rw [hpS_ne _ _ (by omega)]; exact e7, by rw [hpS_ne _ _ (by omega)]; exact e8, by rw [hpS_ne _ _ (by omega)]; exact e9, by rw [hpS_ne _ _ (by omega)]; exact e10⟩, hF.set _ (by omega) (by omega)⟩
theorem WM.a4 (hM : WM G h0 h m M) (f : Nat → Int32) : WM G h0 (hpS h (m + 4) (aI G 40 f)) m (mJ M 4 f) := by
  obtain ⟨⟨e0, e1, e2, e3, e4, e5, e6, e7, e8, e9, e10⟩, hF⟩ := hM
  exact ⟨⟨by rw [hpS_ne _ _ (by omega)]; exact e0, by rw [hpS_ne _ _ (by omega)]; exact e1, by rw [hpS_ne _ _ (by omega)]; exact e2, by rw [hpS_ne _ _ (by omega)]; exact e3, hpS_self _ _ _, by rw [hpS_ne _ _ (by omega)]; exact e5, by rw [hpS_ne _ _ (by omega)]; exact e6, by rw [hpS_ne _ _ (by omega)]; exact e7, by rw [hpS_ne _ _ (by omega)]; exact e8, by rw [hpS_ne _ _ (by omega)]; exact e9, by rw [hpS_ne _ _ (by omega)]; exact e10⟩, hF.set _ (by omega) (by omega)⟩
theorem WM.a5 (hM : WM G h0 h m M) (f : Nat → Int32) : WM G h0 (hpS h (m + 5) (aI G 6 f)) m (mJ M 5 f) := by
  obtain ⟨⟨e0, e1, e2, e3, e4, e5, e6, e7, e8, e9, e10⟩, hF⟩ := hM
  exact ⟨⟨by rw [hpS_ne _ _ (by omega)]; exact e0, by rw [hpS_ne _ _ (by omega)]; exact e1, by rw [hpS_ne _ _ (by omega)]; exact e2, by rw [hpS_ne _ _ (by omega)]; exact e3, by rw [hpS_ne _ _ (by omega)]; exact e4, hpS_self _ _ _, by rw [hpS_ne _ _ (by omega)]; exact e6, by rw [hpS_ne _ _ (by omega)]; exact e7, by rw [hpS_ne _ _ (by omega)]; exact e8, by rw [hpS_ne _ _ (by omega)]; exact e9, by rw [hpS_ne _ _ (by omega)]; exact e10⟩, hF.set _ (by omega) (by omega)⟩
theorem WM.a6 (hM : WM G h0 h m M) (f : Nat → Int32) : WM G h0 (hpS h (m + 6) (aI G 6 f)) m (mJ M 6 f) := by
  obtain ⟨⟨e0, e1, e2, e3, e4, e5, e6, e7, e8, e9, e10⟩, hF⟩ := hM
  exact ⟨⟨by rw [hpS_ne _ _ (by omega)]; exact e0, by rw [hpS_ne _ _ (by omega)]; exact e1, by rw [hpS_ne _ _ (by omega)]; exact e2, by rw [hpS_ne _ _ (by omega)]; exact e3, by rw [hpS_ne _ _ (by omega)]; exact e4, by rw [hpS_ne _ _ (by omega)]; exact e5, hpS_self _ _ _, by rw [hpS_ne _ _ (by omega)]; exact e7, by rw [hpS_ne _ _ (by omega)]; exact e8, by rw [hpS_ne _ _ (by omega)]; exact e9, by rw [hpS_ne _ _ (by omega)]; exact e10⟩, hF.set _ (by omega) (by omega)⟩
theorem WM.a7 (hM : WM G h0 h m M) (f : Nat → Int32) : WM G h0 (hpS h (m + 7) (aI G 4 f)) m (mJ M 7 f) := by
  obtain ⟨⟨e0, e1, e2, e3, e4, e5, e6, e7, e8, e9, e10⟩, hF⟩ := hM
  exact ⟨⟨by rw [hpS_ne _ _ (by omega)]; exact e0, by rw [hpS_ne _ _ (by omega)]; exact e1, by rw [hpS_ne _ _ (by omega)]; exact e2, by rw [hpS_ne _ _ (by omega)]; exact e3, by rw [hpS_ne _ _ (by omega)]; exact e4, by rw [hpS_ne _ _ (by omega)]; exact e5, by rw [hpS_ne _ _ (by omega)]; exact e6, hpS_self _ _ _, by rw [hpS_ne _ _ (by omega)]; exact e8, by rw [hpS_ne _ _ (by omega)]; exact e9, by rw [hpS_ne _ _ (by omega)]; exact e10⟩, hF.set _ (by omega) (by omega)⟩
theorem WM.a8 (hM : WM G h0 h m M) (f : Nat → Int32) : WM G h0 (hpS h (m + 8) (aI G 6 f)) m (mJ M 8 f) := by
  obtain ⟨⟨e0, e1, e2, e3, e4, e5, e6, e7, e8, e9, e10⟩, hF⟩ := hM
  exact ⟨⟨by rw [hpS_ne _ _ (by omega)]; exact e0, by rw [hpS_ne _ _ (by omega)]; exact e1, by rw [hpS_ne _ _ (by omega)]; exact e2, by rw [hpS_ne _ _ (by omega)]; exact e3, by rw [hpS_ne _ _ (by omega)]; exact e4, by rw [hpS_ne _ _ (by omega)]; exact e5, by rw [hpS_ne _ _ (by omega)]; exact e6, by rw [hpS_ne _ _ (by omega)]; exact e7, hpS_self _ _ _, by rw [hpS_ne _ _ (by omega)]; exact e9, by rw [hpS_ne _ _ (by omega)]; exact e10⟩, hF.set _ (by omega) (by omega)⟩
theorem WM.b0 (hM : WM G h0 h m M) (f : Nat → Int64) : WM G h0 (hpS h (m + 9) (aJ G 6 f)) m (mL M 0 f) := by
  obtain ⟨⟨e0, e1, e2, e3, e4, e5, e6, e7, e8, e9, e10⟩, hF⟩ := hM
  exact ⟨⟨by rw [hpS_ne _ _ (by omega)]; exact e0, by rw [hpS_ne _ _ (by omega)]; exact e1, by rw [hpS_ne _ _ (by omega)]; exact e2, by rw [hpS_ne _ _ (by omega)]; exact e3, by rw [hpS_ne _ _ (by omega)]; exact e4, by rw [hpS_ne _ _ (by omega)]; exact e5, by rw [hpS_ne _ _ (by omega)]; exact e6, by rw [hpS_ne _ _ (by omega)]; exact e7, by rw [hpS_ne _ _ (by omega)]; exact e8, hpS_self _ _ _, by rw [hpS_ne _ _ (by omega)]; exact e10⟩, hF.set _ (by omega) (by omega)⟩
theorem WM.b1 (hM : WM G h0 h m M) (f : Nat → Int64) : WM G h0 (hpS h (m + 10) (aJ G 6 f)) m (mL M 1 f) := by
  obtain ⟨⟨e0, e1, e2, e3, e4, e5, e6, e7, e8, e9, e10⟩, hF⟩ := hM
  exact ⟨⟨by rw [hpS_ne _ _ (by omega)]; exact e0, by rw [hpS_ne _ _ (by omega)]; exact e1, by rw [hpS_ne _ _ (by omega)]; exact e2, by rw [hpS_ne _ _ (by omega)]; exact e3, by rw [hpS_ne _ _ (by omega)]; exact e4, by rw [hpS_ne _ _ (by omega)]; exact e5, by rw [hpS_ne _ _ (by omega)]; exact e6, by rw [hpS_ne _ _ (by omega)]; exact e7, by rw [hpS_ne _ _ (by omega)]; exact e8, by rw [hpS_ne _ _ (by omega)]; exact e9, hpS_self _ _ _⟩, hF.set _ (by omega) (by omega)⟩
variable {l : Launch} {own : String} {cc : ByteArray} {nL : Nat} {rt : Option FieldType} {ini : Bool} {d kc ks : Nat} {Post : Option Value → hpT → Nat → Prop} {lv : List (Option Value)} {st : List Value} {sz : Nat}
theorem V_putM (pc : Nat) {idx k : Nat} {x : Int32} (hd : decode cc pc = .ok (.putfield idx, 3)) (hf : zFp own idx 6 k .int false) (hM : WM G h0 h m M) (hk : (fM m M).set k (.int x) = fM m (mI M k x)) (hb : Nat.blt k 31 = true) (kk : ∀ h, WM G h0 h m (mI M k x) → V l G own cc nL rt ini d kc ks Post (pc + 3) lv st h sz) : V l G own cc nL rt ini d kc ks Post pc lv (.int x :: .ref m :: st) h sz := V_put pc hd hf (fun q => by cases q) hM.1.1 rfl rfl (Nat.le_of_ble_eq_true hb) (kk _ (hM.ob hk rfl))
theorem V_putY (pc : Nat) {idx : Nat} {x : Int64} (hd : decode cc pc = .ok (.putfield idx, 3)) (hf : zFp own idx 6 12 .long false) (hM : WM G h0 h m M) (kk : ∀ h, WM G h0 h m (mY M x) → V l G own cc nL rt ini d kc ks Post (pc + 3) lv st h sz) : V l G own cc nL rt ini d kc ks Post pc lv (.long x :: .ref m :: st) h sz := V_put pc hd hf (fun q => by cases q) hM.1.1 rfl rfl (Nat.le_of_ble_eq_true rfl) (kk _ (hM.ob (M1 := mY M x) rfl rfl))
theorem V_ia1 (pc j : Nat) {i x : Int32} (hj : i.toNatClampNeg = j) (hd : decode cc pc = .ok (.iastore, 1)) (hM : WM G h0 h m M) (hin : vp_in i 6) (kk : ∀ h, WM G h0 h m (mJ M 1 (upd (M.2.2.1 1) j x)) → V l G own cc nL rt ini d kc ks Post (pc + 1) lv st h sz) : V l G own cc nL rt ini d kc ks Post pc lv (.int x :: .int i :: .ref (m + 1) :: st) h sz := by
  subst hj
  exact V_iast pc hd hM.1.2.1 hin (kk _ (hM.a1 _))
theorem V_ia2 (pc j : Nat) {i x : Int32} (hj : i.toNatClampNeg = j) (hd : decode cc pc = .ok (.iastore, 1)) (hM : WM G h0 h m M) (hin : vp_in i 6) (kk : ∀ h, WM G h0 h m (mJ M 2 (upd (M.2.2.1 2) j x)) → V l G own cc nL rt ini d kc ks Post (pc + 1) lv st h sz) : V l G own cc nL rt ini d kc ks Post pc lv (.int x :: .int i :: .ref (m + 2) :: st) h sz := by
  subst hj
  exact V_iast pc hd hM.1.2.2.1 hin (kk _ (hM.a2 _))
theorem V_ia3 (pc j : Nat) {i x : Int32} (hj : i.toNatClampNeg = j) (hd : decode cc pc = .ok (.iastore, 1)) (hM : WM G h0 h m M) (hin : vp_in i 4200) (kk : ∀ h, WM G h0 h m (mJ M 3 (upd (M.2.2.1 3) j x)) → V l G own cc nL rt ini d kc ks Post (pc + 1) lv st h sz) : V l G own cc nL rt ini d kc ks Post pc lv (.int x :: .int i :: .ref (m + 3) :: st) h sz := by
  subst hj
  exact V_iast pc hd hM.1.2.2.2.1 hin (kk _ (hM.a3 _))
theorem V_ia4 (pc j : Nat) {i x : Int32} (hj : i.toNatClampNeg = j) (hd : decode cc pc = .ok (.iastore, 1)) (hM : WM G h0 h m M) (hin : vp_in i 40) (kk : ∀ h, WM G h0 h m (mJ M 4 (upd (M.2.2.1 4) j x)) → V l G own cc nL rt ini d kc ks Post (pc + 1) lv st h sz) : V l G own cc nL rt ini d kc ks Post pc lv (.int x :: .int i :: .ref (m + 4) :: st) h sz := by
  subst hj
  exact V_iast pc hd hM.1.2.2.2.2.1 hin (kk _ (hM.a4 _))
theorem V_ia5 (pc j : Nat) {i x : Int32} (hj : i.toNatClampNeg = j) (hd : decode cc pc = .ok (.iastore, 1)) (hM : WM G h0 h m M) (hin : vp_in i 6) (kk : ∀ h, WM G h0 h m (mJ M 5 (upd (M.2.2.1 5) j x)) → V l G own cc nL rt ini d kc ks Post (pc + 1) lv st h sz) : V l G own cc nL rt ini d kc ks Post pc lv (.int x :: .int i :: .ref (m + 5) :: st) h sz := by
  subst hj
  exact V_iast pc hd hM.1.2.2.2.2.2.1 hin (kk _ (hM.a5 _))
theorem V_ia6 (pc j : Nat) {i x : Int32} (hj : i.toNatClampNeg = j) (hd : decode cc pc = .ok (.iastore, 1)) (hM : WM G h0 h m M) (hin : vp_in i 6) (kk : ∀ h, WM G h0 h m (mJ M 6 (upd (M.2.2.1 6) j x)) → V l G own cc nL rt ini d kc ks Post (pc + 1) lv st h sz) : V l G own cc nL rt ini d kc ks Post pc lv (.int x :: .int i :: .ref (m + 6) :: st) h sz := by
  subst hj
  exact V_iast pc hd hM.1.2.2.2.2.2.2.1 hin (kk _ (hM.a6 _))
theorem V_ia7 (pc j : Nat) {i x : Int32} (hj : i.toNatClampNeg = j) (hd : decode cc pc = .ok (.iastore, 1)) (hM : WM G h0 h m M) (hin : vp_in i 4) (kk : ∀ h, WM G h0 h m (mJ M 7 (upd (M.2.2.1 7) j x)) → V l G own cc nL rt ini d kc ks Post (pc + 1) lv st h sz) : V l G own cc nL rt ini d kc ks Post pc lv (.int x :: .int i :: .ref (m + 7) :: st) h sz := by
  subst hj
  exact V_iast pc hd hM.1.2.2.2.2.2.2.2.1 hin (kk _ (hM.a7 _))
theorem V_ia8 (pc j : Nat) {i x : Int32} (hj : i.toNatClampNeg = j) (hd : decode cc pc = .ok (.iastore, 1)) (hM : WM G h0 h m M) (hin : vp_in i 6) (kk : ∀ h, WM G h0 h m (mJ M 8 (upd (M.2.2.1 8) j x)) → V l G own cc nL rt ini d kc ks Post (pc + 1) lv st h sz) : V l G own cc nL rt ini d kc ks Post pc lv (.int x :: .int i :: .ref (m + 8) :: st) h sz := by
  subst hj
  exact V_iast pc hd hM.1.2.2.2.2.2.2.2.2.1 hin (kk _ (hM.a8 _))
theorem V_la0 (pc j : Nat) {i : Int32} {x : Int64} (hj : i.toNatClampNeg = j) (hd : decode cc pc = .ok (.lastore, 1)) (hM : WM G h0 h m M) (hin : vp_in i 6) (kk : ∀ h, WM G h0 h m (mL M 0 (vp_updL (M.2.2.2 0) j x)) → V l G own cc nL rt ini d kc ks Post (pc + 1) lv st h sz) : V l G own cc nL rt ini d kc ks Post pc lv (.long x :: .int i :: .ref (m + 9) :: st) h sz := by
  subst hj
  exact V_last pc hd hM.1.2.2.2.2.2.2.2.2.2.1 hin (kk _ (hM.b0 _))
theorem V_la1 (pc j : Nat) {i : Int32} {x : Int64} (hj : i.toNatClampNeg = j) (hd : decode cc pc = .ok (.lastore, 1)) (hM : WM G h0 h m M) (hin : vp_in i 6) (kk : ∀ h, WM G h0 h m (mL M 1 (vp_updL (M.2.2.2 1) j x)) → V l G own cc nL rt ini d kc ks Post (pc + 1) lv st h sz) : V l G own cc nL rt ini d kc ks Post pc lv (.long x :: .int i :: .ref (m + 10) :: st) h sz := by
  subst hj
  exact V_last pc hd hM.1.2.2.2.2.2.2.2.2.2.2 hin (kk _ (hM.b1 _))
end M25a
/-- where things lie in a row -/
def ctA (r i w : Nat) : Nat := 168 * r + 12 + 10 * i + w
def leA (r k j : Nat) : Nat := 168 * r + 72 + 6 * k + j
/-- segment r of the row holds the election -/
def RowE (row : Nat → Int32) (r n : Nat) (E : ET) : Prop :=
  row (168 * r) = eW E ∧ (¬ eW E = 0 → row (168 * r + 1) = eG E) ∧ row (168 * r + 2) = nI (eN E) ∧ (∀ k, k < 8 → row (168 * r + 3 + k) = eS E k) ∧
  (∀ i, i < n → row (ctA r i 0) = eC E (8 * i + 1) ∧ row (ctA r i 1) = eC E (8 * i) ∧ row (ctA r i 2) = eC E (8 * i + 2) ∧ row (ctA r i 3) = eC E (8 * i + 3) ∧ row (ctA r i 4) = eC E (8 * i + 4) ∧ (eW E = 2 → row (ctA r i 5) = eC E (8 * i + 5)) ∧ (eW E = 3 → row (ctA r i 7) = eC E (8 * i + 5)) ∧ (eW E = 3 → eC E (8 * i + 5) = 1 → row (ctA r i 6) = eC E (8 * i + 6)) ∧ (¬ eW E = 0 → row (ctA r i 8) = eC E (8 * i + 7))) ∧
  (∀ k j, k < eN E → j < 6 → row (leA r k j) = eL E (6 * k + j)) ∧ eN E ≤ 12
/-- what the work on a segment leaves -/
def MF (r : Nat) (M0 M : MT) : Prop := (∀ j, (j < 5 ∨ 12 ≤ j) → M.1 j = M0.1 j) ∧ M.2.1 = M0.2.1 ∧ (∀ k, ¬ k = 3 → M.2.2.1 k = M0.2.2.1 k) ∧ M.2.2.2 = M0.2.2.2 ∧ (∀ q, ¬ (168 * r ≤ q ∧ q < 168 * r + 168) → M.2.2.1 3 q = M0.2.2.1 3 q)
theorem MF.rf {r : Nat} {M : MT} : MF r M M := ⟨fun _ _ => rfl, rfl, fun _ _ => rfl, rfl, fun _ _ => rfl⟩
theorem MF.row {r : Nat} {M0 M : MT} (hF : MF r M0 M) {q : Nat} {x : Int32} (h1 : 168 * r ≤ q) (h2 : q < 168 * r + 168) : MF r M0 (mJ M 3 (upd (M.2.2.1 3) q x)) := by
  obtain ⟨a, b, c, d, e⟩ := hF
  refine ⟨a, b, fun k hk => ?_, d, fun z hz => ?_⟩
  · show va_up M.2.2.1 3 _ k = _
    rw [va_up_ne _ _ hk]
    exact c k hk
  · show upd (M.2.2.1 3) q x z = _
    rw [pk_un (fun w => hz (by omega))]
    exact e z hz
theorem MF.int {r : Nat} {M0 M : MT} (hF : MF r M0 M) {k : Nat} {x : Int32} (h1 : 5 ≤ k) (h2 : k < 12) : MF r M0 (mI M k x) := by
  obtain ⟨a, b, c, d, e⟩ := hF
  refine ⟨fun j hj => ?_, b, c, d, e⟩
  show va_up M.1 k x j = _
  rw [va_up_ne _ _ (by omega)]
  exact a j hj
/-- the reference at work on segment r, that holds E, over the ring Q -/
def WX (G : zGT) (h0 h : hpT) (m : Nat) (M0 M : MT) (r : Nat) (E : ET) (Q : RG) : Prop := WM G h0 h m M ∧ MF r M0 M ∧ M.1 0 = nI Q.1 ∧ (∀ i, i < Q.1 → M.2.2.1 1 i = Q.2.1 i) ∧ RowE (M.2.2.1 3) r Q.1 E ∧ r ≤ 24 ∧ Q.1 ≤ 6
theorem WX.row {G : zGT} {h0 h h1 : hpT} {m : Nat} {M0 M : MT} {r : Nat} {E E1 : ET} {Q : RG} (hX : WX G h0 h m M0 M r E Q) {q : Nat} {x : Int32} (a : 168 * r ≤ q) (b : q < 168 * r + 168) (hM : WM G h0 h1 m (mJ M 3 (upd (M.2.2.1 3) q x))) (hR : RowE (upd (M.2.2.1 3) q x) r Q.1 E1) : WX G h0 h1 m M0 (mJ M 3 (upd (M.2.2.1 3) q x)) r E1 Q := by
  obtain ⟨-, h2, h3, h4, -, h6⟩ := hX
  exact ⟨hM, h2.row a b, h3, h4, hR, h6⟩
theorem lg_in {a b c : Int32} : (b.toInt64 ≤ a.toInt64 ∧ a.toInt64 ≤ c.toInt64) ↔ (b ≤ a ∧ a ≤ c) := by
  simp only [Int64.le_iff_toInt_le, Int32.le_iff_toInt_le, Int32.toInt_toInt64]
section M25
variable {l : Launch} {G : zGT} {h h0 : hpT} {sz : Nat} {Post : Option Value → hpT → Nat → Prop} {m r : Nat} {M M0 : MT} {Q : RG} {E : ET}
set_option maxHeartbeats 1000000 in
set_option maxRecDepth 100000 in
theorem c_X6_in {a b c : Int64} (k1 : (b ≤ a ∧ a ≤ c) → Post (some (.int 1)) h sz) (k0 : ¬ (b ≤ a ∧ a ≤ c) → Post (some (.int 0)) h sz) : Cn l G yX6_in cX6_in 6 (some .boolean) 0 0 0 [.long a, .long b, .long c] h sz Post := by
  refine Cn.of RX6 false (by decide) rfl (fun q => by cases q) (Nat.le_of_ble_eq_true rfl) ?_
  refine V_lload_n 0 dX6_in_0 rfl ?_
  refine V_lload_n 1 dX6_in_1 rfl ?_
  refine V_lcmp 2 dX6_in_2 ?_
  refine V_if_lt 3 17 dX6_in_3 rfl (fun c_3 => ?_) (fun c_3 => ?_)
  · refine V_iconstv 17 (0) dX6_in_17 (by decide) ?_
    refine V_zret 18 dX6_in_18 (Or.inl rfl) ?_
    first | exact k0 (fun q => Int64.not_le.mpr ((lg_cmp_lt _ _).mp c_3) q.1) | exact k0 (fun q => Int64.not_le.mpr ((lg_cmp_gt _ _).mp c_10) q.2)
  · refine V_lload_n 6 dX6_in_6 rfl ?_
    refine V_lload 7 dX6_in_7 rfl ?_
    refine V_lcmp 9 dX6_in_9 ?_
    refine V_if_gt 10 17 dX6_in_10 rfl (fun c_10 => ?_) (fun c_10 => ?_)
    · refine V_iconstv 17 (0) dX6_in_17 (by decide) ?_
      refine V_zret 18 dX6_in_18 (Or.inl rfl) ?_
      first | exact k0 (fun q => Int64.not_le.mpr ((lg_cmp_lt _ _).mp c_3) q.1) | exact k0 (fun q => Int64.not_le.mpr ((lg_cmp_gt _ _).mp c_10) q.2)
    · refine V_iconstv 13 (1) dX6_in_13 (by decide) ?_
      refine V_goto 14 18 dX6_in_14 rfl ?_
      refine V_zret 18 dX6_in_18 (Or.inr rfl) ?_
      exact k1 ⟨Int64.not_lt.mp (fun q => c_3 ((lg_cmp_lt _ _).mpr q)), Int64.not_lt.mp (fun q => c_10 ((lg_cmp_gt _ _).mpr q))⟩
set_option maxHeartbeats 1000000 in
set_option maxRecDepth 100000 in
theorem c_X6_ofContender (r i w : Nat) (k : Post (some (.int (nI (ctA r i w)))) h sz) : Cn l G yX6_ofContender cX6_ofContender 3 (some .int) 0 0 0 [.int (nI r), .int (nI i), .int (nI w)] h sz Post := by
  refine Cn.of RX6 false (by decide) rfl (fun q => by cases q) (Nat.le_of_ble_eq_true rfl) ?_
  refine V_sipushv 0 (168) dX6_ofContender_0 (by decide) ?_
  refine V_iload_n 3 dX6_ofContender_3 rfl ?_
  refine V_imul 4 dX6_ofContender_4 ?_
  refine V_topi (nI (168 * r)) (pk_mul 168 r) ?_
  refine V_bipushv 5 (12) dX6_ofContender_5 (by decide) ?_
  refine V_iadd 7 dX6_ofContender_7 ?_
  refine V_topi (nI (168 * r + 12)) (nI_add _ 12) ?_
  refine V_bipushv 8 (10) dX6_ofContender_8 (by decide) ?_
  refine V_iload_n 10 dX6_ofContender_10 rfl ?_
  refine V_imul 11 dX6_ofContender_11 ?_
  refine V_topi (nI (10 * i)) (pk_mul 10 i) ?_
  refine V_iadd 12 dX6_ofContender_12 ?_
  refine V_topi (nI (168 * r + 12 + 10 * i)) (nI_add _ _) ?_
  refine V_iload_n 13 dX6_ofContender_13 rfl ?_
  refine V_iadd 14 dX6_ofContender_14 ?_
  refine V_topi (nI (168 * r + 12 + 10 * i + w)) (nI_add _ _) ?_
  refine V_iret 15 dX6_ofContender_15 ?_
  exact k
set_option maxHeartbeats 1000000 in
set_option maxRecDepth 100000 in
theorem c_X6_ofLetter (r i w : Nat) (k : Post (some (.int (nI (leA r i w)))) h sz) : Cn l G yX6_ofLetter cX6_ofLetter 3 (some .int) 0 0 0 [.int (nI r), .int (nI i), .int (nI w)] h sz Post := by
  refine Cn.of RX6 false (by decide) rfl (fun q => by cases q) (Nat.le_of_ble_eq_true rfl) ?_
  refine V_sipushv 0 (168) dX6_ofLetter_0 (by decide) ?_
  refine V_iload_n 3 dX6_ofLetter_3 rfl ?_
  refine V_imul 4 dX6_ofLetter_4 ?_
  refine V_topi (nI (168 * r)) (pk_mul 168 r) ?_
  refine V_bipushv 5 (72) dX6_ofLetter_5 (by decide) ?_
  refine V_iadd 7 dX6_ofLetter_7 ?_
  refine V_topi (nI (168 * r + 72)) (nI_add _ 72) ?_
  refine V_bipushv 8 (6) dX6_ofLetter_8 (by decide) ?_
  refine V_iload_n 10 dX6_ofLetter_10 rfl ?_
  refine V_imul 11 dX6_ofLetter_11 ?_
  refine V_topi (nI (6 * i)) (pk_mul 6 i) ?_
  refine V_iadd 12 dX6_ofLetter_12 ?_
  refine V_topi (nI (168 * r + 72 + 6 * i)) (nI_add _ _) ?_
  refine V_iload_n 13 dX6_ofLetter_13 rfl ?_
  refine V_iadd 14 dX6_ofLetter_14 ?_
  refine V_topi (nI (168 * r + 72 + 6 * i + w)) (nI_add _ _) ?_
  refine V_iret 15 dX6_ofLetter_15 ?_
  exact k
set_option maxHeartbeats 1000000 in
set_option maxRecDepth 100000 in
theorem c_X6_has (hM : WM G h0 h m M) (r i w : Nat) (hb : ctA r i w < 4200) (k : Post (some (.int (M.2.2.1 3 (ctA r i w)))) h sz) : Cn l G yX6_has cX6_has 4 (some .int) 1 0 0 [.ref m, .int (nI r), .int (nI i), .int (nI w)] h sz Post := by
  refine Cn.of RX6 false (by decide) rfl (fun q => by cases q) (Nat.le_of_ble_eq_true rfl) ?_
  refine V_aload_n 0 dX6_has_0 rfl ?_
  refine V_get 1 dX6_has_1 fdX6_16 (by first | exact hM.1.1 | exact hM.1.2.1 | exact hM.1.2.2.1 | exact hM.1.2.2.2.1 | exact hM.1.2.2.2.2.1 | exact hM.1.2.2.2.2.2.1 | exact hM.1.2.2.2.2.2.2.1 | exact hM.1.2.2.2.2.2.2.2.1 | exact hM.1.2.2.2.2.2.2.2.2.1 | exact hM.1.2.2.2.2.2.2.2.2.2.1 | exact hM.1.2.2.2.2.2.2.2.2.2.2) rfl ?_
  refine V_iload_n 4 dX6_has_4 rfl ?_
  refine V_iload_n 5 dX6_has_5 rfl ?_
  refine V_iload_n 6 dX6_has_6 rfl ?_
  refine V_is3 7 dX6_has_7 ksX6_49 rfl rfl (c_X6_ofContender r i w ?_)
  refine V_ialdk 10 (ctA r i w) (nI_clamp (by omega)) dX6_has_10 (by first | exact hM.1.1 | exact hM.1.2.1 | exact hM.1.2.2.1 | exact hM.1.2.2.2.1 | exact hM.1.2.2.2.2.1 | exact hM.1.2.2.2.2.2.1 | exact hM.1.2.2.2.2.2.2.1 | exact hM.1.2.2.2.2.2.2.2.1 | exact hM.1.2.2.2.2.2.2.2.2.1 | exact hM.1.2.2.2.2.2.2.2.2.2.1 | exact hM.1.2.2.2.2.2.2.2.2.2.2) (vp_in_nI hb (by decide)) ?_
  refine V_iret 11 dX6_has_11 ?_
  exact k
set_option maxHeartbeats 1000000 in
set_option maxRecDepth 100000 in
theorem c_X6_set (hM : WM G h0 h m M) (r i w : Nat) (hb : ctA r i w < 4200) {v : Int32} (k : ∀ h, WM G h0 h m (mJ M 3 (upd (M.2.2.1 3) (ctA r i w) v)) → Post none h sz) : Cn l G yX6_set cX6_set 5 none 1 0 0 [.ref m, .int (nI r), .int (nI i), .int (nI w), .int v] h sz Post := by
  refine Cn.of RX6 false (by decide) rfl (fun q => by cases q) (Nat.le_of_ble_eq_true rfl) ?_
  refine V_aload_n 0 dX6_set_0 rfl ?_
  refine V_get 1 dX6_set_1 fdX6_16 (by first | exact hM.1.1 | exact hM.1.2.1 | exact hM.1.2.2.1 | exact hM.1.2.2.2.1 | exact hM.1.2.2.2.2.1 | exact hM.1.2.2.2.2.2.1 | exact hM.1.2.2.2.2.2.2.1 | exact hM.1.2.2.2.2.2.2.2.1 | exact hM.1.2.2.2.2.2.2.2.2.1 | exact hM.1.2.2.2.2.2.2.2.2.2.1 | exact hM.1.2.2.2.2.2.2.2.2.2.2) rfl ?_
  refine V_iload_n 4 dX6_set_4 rfl ?_
  refine V_iload_n 5 dX6_set_5 rfl ?_
  refine V_iload_n 6 dX6_set_6 rfl ?_
  refine V_is3 7 dX6_set_7 ksX6_49 rfl rfl (c_X6_ofContender r i w ?_)
  refine V_iload 10 dX6_set_10 rfl ?_
  refine V_ia3 12 (ctA r i w) (nI_clamp (by omega)) dX6_set_12 hM (vp_in_nI hb (by decide)) (fun h hM => ?_)
  refine V_vret 13 dX6_set_13 ?_
  exact k _ hM
set_option maxHeartbeats 1000000 in
set_option maxRecDepth 100000 in
def cpF (f : Nat → Int32) (a b : Nat) (i : Nat) : Nat → Int32 := fun q => if 168 * b ≤ q ∧ q < 168 * b + i then f (168 * a + (q - 168 * b)) else f q
theorem cpF_step (f : Nat → Int32) {a b i : Nat} (hab : ¬ a = b) (hi : i < 168) : upd (cpF f a b i) (168 * b + i) (cpF f a b i (168 * a + i)) = cpF f a b (i + 1) := by
  funext q
  rw [upd_if]
  have e : cpF f a b i (168 * a + i) = f (168 * a + i) := by
    unfold cpF
    rw [if_neg (by omega)]
  rw [e]
  unfold cpF
  by_cases h1 : q = 168 * b + i
  · rw [if_pos h1, if_pos (by omega)]
    congr 1
    omega
  · rw [if_neg h1]
    by_cases h2 : 168 * b ≤ q ∧ q < 168 * b + i
    · rw [if_pos h2, if_pos (by omega)]
    · rw [if_neg h2, if_neg (by omega)]
theorem cpF_0 (f : Nat → Int32) (a b : Nat) : cpF f a b 0 = f := by
  funext q
  unfold cpF
  rw [if_neg (by omega)]
set_option maxHeartbeats 1000000 in
set_option maxRecDepth 100000 in
theorem lp_X6_copies {f : Nat → Int32} (a b : Nat) (ha : a ≤ 24) (hb : b ≤ 24) (hab : ¬ a = b) (k : ∀ h, WM G h0 h m (mJ M 3 (cpF f a b 168)) → Post none h sz) : ∀ i, i ≤ 168 → ∀ (h : hpT), WM G h0 h m (mJ M 3 (cpF f a b i)) → V l G RX6 cX6_copies 4 none false 0 0 0 Post 2 [some (.ref m), some (.int (nI a)), some (.int (nI b)), some (.int (nI i))] [] h sz := by
  refine up_ind 168 (fun i hi ih h hM => ?_)
  refine V_iload_n 2 dX6_copies_2 rfl ?_
  refine V_sipushv 3 (168) dX6_copies_3 (by decide) ?_
  refine V_icmp_ge 6 39 dX6_copies_6 rfl (fun c_6 => ?_) (fun c_6 => ?_)
  · have e_6 : i = 168 := Nat.le_antisymm hi ((nI_leI (a := 168) (by decide) (by omega)).mp c_6)
    subst e_6
    refine V_vret 39 dX6_copies_39 ?_
    exact k _ hM
  · have e_6 : i < 168 := Nat.lt_of_not_le (fun q => c_6 (nI_le (a := 168) q (by omega)))
    refine V_aload_n 9 dX6_copies_9 rfl ?_
    refine V_get 10 dX6_copies_10 fdX6_16 (by first | exact hM.1.1 | exact hM.1.2.1 | exact hM.1.2.2.1 | exact hM.1.2.2.2.1 | exact hM.1.2.2.2.2.1 | exact hM.1.2.2.2.2.2.1 | exact hM.1.2.2.2.2.2.2.1 | exact hM.1.2.2.2.2.2.2.2.1 | exact hM.1.2.2.2.2.2.2.2.2.1 | exact hM.1.2.2.2.2.2.2.2.2.2.1 | exact hM.1.2.2.2.2.2.2.2.2.2.2) rfl ?_
    refine V_sipushv 13 (168) dX6_copies_13 (by decide) ?_
    refine V_iload_n 16 dX6_copies_16 rfl ?_
    refine V_imul 17 dX6_copies_17 ?_
    refine V_topi (nI (168 * b)) (pk_mul 168 b) ?_
    refine V_iload_n 18 dX6_copies_18 rfl ?_
    refine V_iadd 19 dX6_copies_19 ?_
    refine V_topi (nI (168 * b + i)) (nI_add _ _) ?_
    refine V_aload_n 20 dX6_copies_20 rfl ?_
    refine V_get 21 dX6_copies_21 fdX6_16 (by first | exact hM.1.1 | exact hM.1.2.1 | exact hM.1.2.2.1 | exact hM.1.2.2.2.1 | exact hM.1.2.2.2.2.1 | exact hM.1.2.2.2.2.2.1 | exact hM.1.2.2.2.2.2.2.1 | exact hM.1.2.2.2.2.2.2.2.1 | exact hM.1.2.2.2.2.2.2.2.2.1 | exact hM.1.2.2.2.2.2.2.2.2.2.1 | exact hM.1.2.2.2.2.2.2.2.2.2.2) rfl ?_
    refine V_sipushv 24 (168) dX6_copies_24 (by decide) ?_
    refine V_iload_n 27 dX6_copies_27 rfl ?_
    refine V_imul 28 dX6_copies_28 ?_
    refine V_topi (nI (168 * a)) (pk_mul 168 a) ?_
    refine V_iload_n 29 dX6_copies_29 rfl ?_
    refine V_iadd 30 dX6_copies_30 ?_
    refine V_topi (nI (168 * a + i)) (nI_add _ _) ?_
    refine V_ialdk 31 (168 * a + i) (nI_clamp (by omega)) dX6_copies_31 (by first | exact hM.1.1 | exact hM.1.2.1 | exact hM.1.2.2.1 | exact hM.1.2.2.2.1 | exact hM.1.2.2.2.2.1 | exact hM.1.2.2.2.2.2.1 | exact hM.1.2.2.2.2.2.2.1 | exact hM.1.2.2.2.2.2.2.2.1 | exact hM.1.2.2.2.2.2.2.2.2.1 | exact hM.1.2.2.2.2.2.2.2.2.2.1 | exact hM.1.2.2.2.2.2.2.2.2.2.2) (vp_in_nI (by omega) (by decide)) ?_
    refine V_ia3 32 (168 * b + i) (nI_clamp (by omega)) dX6_copies_32 hM (vp_in_nI (by omega) (by decide)) (fun h hM => ?_)
    refine V_iinc 33 (nI (i + 1)) dX6_copies_33 rfl (nI_inc i) rfl rfl ?_
    refine V_goto 36 2 dX6_copies_36 rfl ?_
    refine ih (i + 1) rfl (by omega) h ?_
    rw [← cpF_step f hab e_6]
    exact hM
set_option maxHeartbeats 1000000 in
set_option maxRecDepth 100000 in
theorem c_X6_copies (hM : WM G h0 h m M) (a b : Nat) (ha : a ≤ 24) (hb : b ≤ 24) (hab : ¬ a = b) (k : ∀ h, WM G h0 h m (mJ M 3 (cpF (M.2.2.1 3) a b 168)) → Post none h sz) : Cn l G yX6_copies cX6_copies 4 none 0 0 0 [.ref m, .int (nI a), .int (nI b)] h sz Post := by
  refine Cn.of RX6 false (by decide) rfl (fun q => by cases q) (Nat.le_of_ble_eq_true rfl) ?_
  refine V_iconstv 0 (0) dX6_copies_0 (by decide) ?_
  refine V_istore_n 1 dX6_copies_1 rfl rfl ?_
  refine lp_X6_copies (M := M) (f := M.2.2.1 3) a b ha hb hab k 0 (by omega) h ?_
  rw [cpF_0]
  have e : mJ M 3 (M.2.2.1 3) = M := by
    unfold mJ
    have e2 : va_up M.2.2.1 3 (M.2.2.1 3) = M.2.2.1 := by
      funext q
      by_cases hq : q = 3
      · rw [hq, va_up_self]
      · rw [va_up_ne _ _ hq]
    rw [e2]
  rw [e]
  exact hM
set_option maxHeartbeats 1000000 in
set_option maxRecDepth 100000 in
theorem c_X6_isBegun (hM : WM G h0 h m M) (k1 : 0 < M.2.2.1 3 0 → Post (some (.int 1)) h sz) (k0 : ¬ 0 < M.2.2.1 3 0 → Post (some (.int 0)) h sz) : Cn l G yX6_isBegun cX6_isBegun 1 (some .boolean) 0 0 0 [.ref m] h sz Post := by
  refine Cn.of RX6 false (by decide) rfl (fun q => by cases q) (Nat.le_of_ble_eq_true rfl) ?_
  refine V_aload_n 0 dX6_isBegun_0 rfl ?_
  refine V_get 1 dX6_isBegun_1 fdX6_16 (by first | exact hM.1.1 | exact hM.1.2.1 | exact hM.1.2.2.1 | exact hM.1.2.2.2.1 | exact hM.1.2.2.2.2.1 | exact hM.1.2.2.2.2.2.1 | exact hM.1.2.2.2.2.2.2.1 | exact hM.1.2.2.2.2.2.2.2.1 | exact hM.1.2.2.2.2.2.2.2.2.1 | exact hM.1.2.2.2.2.2.2.2.2.2.1 | exact hM.1.2.2.2.2.2.2.2.2.2.2) rfl ?_
  refine V_iconstv 4 (0) dX6_isBegun_4 (by decide) ?_
  refine V_ialdk 5 0 rfl dX6_isBegun_5 (by first | exact hM.1.1 | exact hM.1.2.1 | exact hM.1.2.2.1 | exact hM.1.2.2.2.1 | exact hM.1.2.2.2.2.1 | exact hM.1.2.2.2.2.2.1 | exact hM.1.2.2.2.2.2.2.1 | exact hM.1.2.2.2.2.2.2.2.1 | exact hM.1.2.2.2.2.2.2.2.2.1 | exact hM.1.2.2.2.2.2.2.2.2.2.1 | exact hM.1.2.2.2.2.2.2.2.2.2.2) (inb_in (by decide)) ?_
  refine V_if_le 6 13 dX6_isBegun_6 rfl (fun c_6 => ?_) (fun c_6 => ?_)
  · refine V_iconstv 13 (0) dX6_isBegun_13 (by decide) ?_
    refine V_zret 14 dX6_isBegun_14 (Or.inl rfl) ?_
    exact k0 (fun q => Int32.not_le.mpr q c_6)
  · refine V_iconstv 9 (1) dX6_isBegun_9 (by decide) ?_
    refine V_goto 10 14 dX6_isBegun_10 rfl ?_
    refine V_zret 14 dX6_isBegun_14 (Or.inr rfl) ?_
    exact k1 (Int32.not_le.mp c_6)
set_option maxHeartbeats 1000000 in
set_option maxRecDepth 100000 in
theorem c_X6_isContender (hM : WM G h0 h m M) (n : Nat) (hn : M.1 0 = nI n) (hn6 : n ≤ 6) {w : Int32} (k1 : inb w n = true → Post (some (.int 1)) h sz) (k0 : inb w n = false → Post (some (.int 0)) h sz) : Cn l G yX6_isContender cX6_isContender 2 (some .boolean) 1 0 0 [.ref m, .int w] h sz Post := by
  refine Cn.of RX6 false (by decide) rfl (fun q => by cases q) (Nat.le_of_ble_eq_true rfl) ?_
  refine V_iload_n 0 dX6_isContender_0 rfl ?_
  refine V_i2l 1 dX6_isContender_1 ?_
  refine V_lconstv 2 0 dX6_isContender_2 (by decide) ?_
  refine V_aload_n 3 dX6_isContender_3 rfl ?_
  refine V_get 4 dX6_isContender_4 fdX6_41 (by first | exact hM.1.1 | exact hM.1.2.1 | exact hM.1.2.2.1 | exact hM.1.2.2.2.1 | exact hM.1.2.2.2.2.1 | exact hM.1.2.2.2.2.2.1 | exact hM.1.2.2.2.2.2.2.1 | exact hM.1.2.2.2.2.2.2.2.1 | exact hM.1.2.2.2.2.2.2.2.2.1 | exact hM.1.2.2.2.2.2.2.2.2.2.1 | exact hM.1.2.2.2.2.2.2.2.2.2.2) rfl ?_
  refine V_iconstv 7 (1) dX6_isContender_7 (by decide) ?_
  refine V_isub 8 dX6_isContender_8 ?_
  refine V_i2l 9 dX6_isContender_9 ?_
  refine V_is3 10 dX6_isContender_10 ksX6_45 rfl rfl (c_X6_in (fun c_10 => ?_) (fun c_10 => ?_))
  · refine V_zret 13 dX6_isContender_13 (Or.inr rfl) ?_
    rw [hn, show (0 : Int64) = (0 : Int32).toInt64 from rfl, lg_in] at c_10
    exact k1 ((inb_sub1 (by omega)).mpr c_10)
  · refine V_zret 13 dX6_isContender_13 (Or.inl rfl) ?_
    rw [hn, show (0 : Int64) = (0 : Int32).toInt64 from rfl, lg_in] at c_10
    exact k0 (Bool.eq_false_iff.mpr (fun q => c_10 ((inb_sub1 (by omega)).mp q)))
set_option maxHeartbeats 1000000 in
set_option maxRecDepth 100000 in
theorem c_X6_isLink (hM : WM G h0 h m M) (n : Nat) (hn : M.1 0 = nI n) (hn6 : n ≤ 6) {w : Int32} (k1 : inb w (2 * n) = true → Post (some (.int 1)) h sz) (k0 : inb w (2 * n) = false → Post (some (.int 0)) h sz) : Cn l G yX6_isLink cX6_isLink 2 (some .boolean) 1 0 0 [.ref m, .int w] h sz Post := by
  refine Cn.of RX6 false (by decide) rfl (fun q => by cases q) (Nat.le_of_ble_eq_true rfl) ?_
  refine V_iload_n 0 dX6_isLink_0 rfl ?_
  refine V_i2l 1 dX6_isLink_1 ?_
  refine V_lconstv 2 0 dX6_isLink_2 (by decide) ?_
  refine V_iconstv 3 (2) dX6_isLink_3 (by decide) ?_
  refine V_aload_n 4 dX6_isLink_4 rfl ?_
  refine V_get 5 dX6_isLink_5 fdX6_41 (by first | exact hM.1.1 | exact hM.1.2.1 | exact hM.1.2.2.1 | exact hM.1.2.2.2.1 | exact hM.1.2.2.2.2.1 | exact hM.1.2.2.2.2.2.1 | exact hM.1.2.2.2.2.2.2.1 | exact hM.1.2.2.2.2.2.2.2.1 | exact hM.1.2.2.2.2.2.2.2.2.1 | exact hM.1.2.2.2.2.2.2.2.2.2.1 | exact hM.1.2.2.2.2.2.2.2.2.2.2) rfl ?_
  refine V_imul 8 dX6_isLink_8 ?_
  refine V_topi (nI (2 * n)) (by rw [hn]; exact pk_mul 2 n) ?_
  refine V_iconstv 9 (1) dX6_isLink_9 (by decide) ?_
  refine V_isub 10 dX6_isLink_10 ?_
  refine V_i2l 11 dX6_isLink_11 ?_
  refine V_is3 12 dX6_isLink_12 ksX6_45 rfl rfl (c_X6_in (fun c_12 => ?_) (fun c_12 => ?_))
  · refine V_zret 15 dX6_isLink_15 (Or.inr rfl) ?_
    rw [show (0 : Int64) = (0 : Int32).toInt64 from rfl, lg_in] at c_12
    exact k1 ((inb_sub1 (by omega)).mpr c_12)
  · refine V_zret 15 dX6_isLink_15 (Or.inl rfl) ?_
    rw [show (0 : Int64) = (0 : Int32).toInt64 from rfl, lg_in] at c_12
    exact k0 (Bool.eq_false_iff.mpr (fun q => c_12 ((inb_sub1 (by omega)).mp q)))
set_option maxHeartbeats 1000000 in
set_option maxRecDepth 100000 in
theorem c_X6_rightOf (hM : WM G h0 h m M) (r i : Nat) (hb : ctA r i 0 < 4200) (k : Post (some (.int (2 * nI i + M.2.2.1 3 (ctA r i 0)))) h sz) : Cn l G yX6_rightOf cX6_rightOf 3 (some .int) 2 0 0 [.ref m, .int (nI r), .int (nI i)] h sz Post := by
  refine Cn.of RX6 false (by decide) rfl (fun q => by cases q) (Nat.le_of_ble_eq_true rfl) ?_
  refine V_iconstv 0 (2) dX6_rightOf_0 (by decide) ?_
  refine V_iload_n 1 dX6_rightOf_1 rfl ?_
  refine V_imul 2 dX6_rightOf_2 ?_
  refine V_aload_n 3 dX6_rightOf_3 rfl ?_
  refine V_iload_n 4 dX6_rightOf_4 rfl ?_
  refine V_iload_n 5 dX6_rightOf_5 rfl ?_
  refine V_iconstv 6 (0) dX6_rightOf_6 (by decide) ?_
  refine V_iv3 7 dX6_rightOf_7 kvX6_56 rfl (by first | exact hM.1.1 | exact hM.1.2.1 | exact hM.1.2.2.1 | exact hM.1.2.2.2.1 | exact hM.1.2.2.2.2.1 | exact hM.1.2.2.2.2.2.1 | exact hM.1.2.2.2.2.2.2.1 | exact hM.1.2.2.2.2.2.2.2.1 | exact hM.1.2.2.2.2.2.2.2.2.1 | exact hM.1.2.2.2.2.2.2.2.2.2.1 | exact hM.1.2.2.2.2.2.2.2.2.2.2) rfl rfl (c_X6_has hM r i 0 hb ?_)
  refine V_iadd 10 dX6_rightOf_10 ?_
  refine V_iret 11 dX6_rightOf_11 ?_
  exact k
set_option maxHeartbeats 1000000 in
set_option maxRecDepth 100000 in
theorem lp_X6_manyOn (hX : WX G h0 h m M0 M r E Q) {x : Int32} (k : Post (some (.int (nI (loE E x)))) h sz) : ∀ i, i ≤ eN E → V l G RX6 cX6_manyOn 5 (some .int) false 1 0 0 Post 5 [some (.ref m), some (.int (nI r)), some (.int x), some (.int (nI (ctN (onB E x) i))), some (.int (nI i))] [] h sz := by
  have hR := hX.2.2.2.2.1
  have hr := hX.2.2.2.2.2.1
  have hn := hR.2.2.2.2.2.2
  refine up_ind (eN E) (fun i hi ih => ?_)
  refine V_iload 5 dX6_manyOn_5 rfl ?_
  refine V_aload_n 7 dX6_manyOn_7 rfl ?_
  refine V_get 8 dX6_manyOn_8 fdX6_16 (by first | exact hX.1.1.1 | exact hX.1.1.2.1 | exact hX.1.1.2.2.1 | exact hX.1.1.2.2.2.1 | exact hX.1.1.2.2.2.2.1 | exact hX.1.1.2.2.2.2.2.1 | exact hX.1.1.2.2.2.2.2.2.1 | exact hX.1.1.2.2.2.2.2.2.2.1 | exact hX.1.1.2.2.2.2.2.2.2.2.1 | exact hX.1.1.2.2.2.2.2.2.2.2.2.1 | exact hX.1.1.2.2.2.2.2.2.2.2.2.2) rfl ?_
  refine V_sipushv 11 (168) dX6_manyOn_11 (by decide) ?_
  refine V_iload_n 14 dX6_manyOn_14 rfl ?_
  refine V_imul 15 dX6_manyOn_15 ?_
  refine V_topi (nI (168 * r)) (pk_mul 168 r) ?_
  refine V_iconstv 16 (2) dX6_manyOn_16 (by decide) ?_
  refine V_iadd 17 dX6_manyOn_17 ?_
  refine V_topi (nI (168 * r + 2)) (nI_add _ 2) ?_
  refine V_ialdk 18 (168 * r + 2) (nI_clamp (by omega)) dX6_manyOn_18 (by first | exact hX.1.1.1 | exact hX.1.1.2.1 | exact hX.1.1.2.2.1 | exact hX.1.1.2.2.2.1 | exact hX.1.1.2.2.2.2.1 | exact hX.1.1.2.2.2.2.2.1 | exact hX.1.1.2.2.2.2.2.2.1 | exact hX.1.1.2.2.2.2.2.2.2.1 | exact hX.1.1.2.2.2.2.2.2.2.2.1 | exact hX.1.1.2.2.2.2.2.2.2.2.2.1 | exact hX.1.1.2.2.2.2.2.2.2.2.2.2) (vp_in_nI (by omega) (by decide)) ?_
  refine V_topi (nI (eN E)) hR.2.2.1 ?_
  refine V_icmp_ge 19 52 dX6_manyOn_19 rfl (fun c_19 => ?_) (fun c_19 => ?_)
  · have e_9 : i = eN E := Nat.le_antisymm hi ((nI_leI (by omega) (by omega)).mp c_19)
    subst e_9
    refine V_iload_n 52 dX6_manyOn_52 rfl ?_
    refine V_iret 53 dX6_manyOn_53 ?_
    exact k
  · have e_9 : i < eN E := Nat.lt_of_not_le (fun q => c_19 (nI_le q (by omega)))
    refine V_iload_n 22 dX6_manyOn_22 rfl ?_
    refine V_aload_n 23 dX6_manyOn_23 rfl ?_
    refine V_get 24 dX6_manyOn_24 fdX6_16 (by first | exact hX.1.1.1 | exact hX.1.1.2.1 | exact hX.1.1.2.2.1 | exact hX.1.1.2.2.2.1 | exact hX.1.1.2.2.2.2.1 | exact hX.1.1.2.2.2.2.2.1 | exact hX.1.1.2.2.2.2.2.2.1 | exact hX.1.1.2.2.2.2.2.2.2.1 | exact hX.1.1.2.2.2.2.2.2.2.2.1 | exact hX.1.1.2.2.2.2.2.2.2.2.2.1 | exact hX.1.1.2.2.2.2.2.2.2.2.2.2) rfl ?_
    refine V_iload_n 27 dX6_manyOn_27 rfl ?_
    refine V_iload 28 dX6_manyOn_28 rfl ?_
    refine V_iconstv 30 (0) dX6_manyOn_30 (by decide) ?_
    refine V_is3 31 dX6_manyOn_31 ksX6_53 rfl rfl (c_X6_ofLetter r i 0 ?_)
    refine V_ialdk 34 (leA r i 0) (nI_clamp (by unfold leA; omega)) dX6_manyOn_34 (by first | exact hX.1.1.1 | exact hX.1.1.2.1 | exact hX.1.1.2.2.1 | exact hX.1.1.2.2.2.1 | exact hX.1.1.2.2.2.2.1 | exact hX.1.1.2.2.2.2.2.1 | exact hX.1.1.2.2.2.2.2.2.1 | exact hX.1.1.2.2.2.2.2.2.2.1 | exact hX.1.1.2.2.2.2.2.2.2.2.1 | exact hX.1.1.2.2.2.2.2.2.2.2.2.1 | exact hX.1.1.2.2.2.2.2.2.2.2.2.2) (vp_in_nI (by unfold leA; omega) (by decide)) ?_
    refine V_topi (eL E (6 * i)) (hR.2.2.2.2.2.1 i 0 (by omega) (by omega)) ?_
    refine V_iload_n 35 dX6_manyOn_35 rfl ?_
    refine V_icmp_ne 36 43 dX6_manyOn_36 rfl (fun c_36 => ?_) (fun c_36 => ?_)
    · have e_20 : nI (ctN (onB E x) i) + 0 = nI (ctN (onB E x) (i + 1)) := by rw [show (0 : Int32) = nI 0 from rfl, nI_add, ctN_f (by simpa [onB] using c_36)]; rfl
      refine V_iconstv 43 (0) dX6_manyOn_43 (by decide) ?_
      refine V_iadd 44 dX6_manyOn_44 ?_
      refine V_topi _ e_20 ?_
      refine V_istore_n 45 dX6_manyOn_45 rfl rfl ?_
      refine V_iinc 46 (nI (i + 1)) dX6_manyOn_46 rfl (nI_inc i) rfl rfl ?_
      refine V_goto 49 5 dX6_manyOn_49 rfl ?_
      exact ih (i + 1) rfl (by omega)
    · have e_20 : nI (ctN (onB E x) i) + 1 = nI (ctN (onB E x) (i + 1)) := by rw [nI_1, ctN_t (by simpa [onB] using c_36)]
      refine V_iconstv 39 (1) dX6_manyOn_39 (by decide) ?_
      refine V_goto 40 44 dX6_manyOn_40 rfl ?_
      refine V_iadd 44 dX6_manyOn_44 ?_
      refine V_topi _ e_20 ?_
      refine V_istore_n 45 dX6_manyOn_45 rfl rfl ?_
      refine V_iinc 46 (nI (i + 1)) dX6_manyOn_46 rfl (nI_inc i) rfl rfl ?_
      refine V_goto 49 5 dX6_manyOn_49 rfl ?_
      exact ih (i + 1) rfl (by omega)
set_option maxHeartbeats 1000000 in
set_option maxRecDepth 100000 in
theorem c_X6_manyOn (hX : WX G h0 h m M0 M r E Q) {x : Int32} (k : Post (some (.int (nI (loE E x)))) h sz) : Cn l G yX6_manyOn cX6_manyOn 5 (some .int) 1 0 0 [.ref m, .int (nI r), .int x] h sz Post := by
  refine Cn.of RX6 false (by decide) rfl (fun q => by cases q) (Nat.le_of_ble_eq_true rfl) ?_
  refine V_iconstv 0 (0) dX6_manyOn_0 (by decide) ?_
  refine V_istore_n 1 dX6_manyOn_1 rfl rfl ?_
  refine V_iconstv 2 (0) dX6_manyOn_2 (by decide) ?_
  refine V_istore 3 dX6_manyOn_3 rfl rfl ?_
  exact lp_X6_manyOn hX k 0 (Nat.zero_le _)
set_option maxHeartbeats 1000000 in
set_option maxRecDepth 100000 in
theorem lp_X6_letterOn (hX : WX G h0 h m M0 M r E Q) {x z : Int32} (k : Post (some (.int (laN (plB E x z) (eN E)))) h sz) : ∀ i, i ≤ eN E → ∀ (v7 : Option Value), (v7 = none ∨ ∃ q : Int32, v7 = some (.int q)) → V l G RX6 cX6_letterOn 8 (some .int) false 1 0 0 Post 9 [some (.ref m), some (.int (nI r)), some (.int x), some (.int z), some (.int (z - nI (ctN (onB E x) i))), some (.int (laN (plB E x z) i)), some (.int (nI i)), v7] [] h sz := by
  have hR := hX.2.2.2.2.1
  have hr := hX.2.2.2.2.2.1
  have hn := hR.2.2.2.2.2.2
  refine up_ind (eN E) (fun i hi ih v7 hv7 => ?_)
  refine V_iload 9 dX6_letterOn_9 rfl ?_
  refine V_aload_n 11 dX6_letterOn_11 rfl ?_
  refine V_get 12 dX6_letterOn_12 fdX6_16 (by first | exact hX.1.1.1 | exact hX.1.1.2.1 | exact hX.1.1.2.2.1 | exact hX.1.1.2.2.2.1 | exact hX.1.1.2.2.2.2.1 | exact hX.1.1.2.2.2.2.2.1 | exact hX.1.1.2.2.2.2.2.2.1 | exact hX.1.1.2.2.2.2.2.2.2.1 | exact hX.1.1.2.2.2.2.2.2.2.2.1 | exact hX.1.1.2.2.2.2.2.2.2.2.2.1 | exact hX.1.1.2.2.2.2.2.2.2.2.2.2) rfl ?_
  refine V_sipushv 15 (168) dX6_letterOn_15 (by decide) ?_
  refine V_iload_n 18 dX6_letterOn_18 rfl ?_
  refine V_imul 19 dX6_letterOn_19 ?_
  refine V_topi (nI (168 * r)) (pk_mul 168 r) ?_
  refine V_iconstv 20 (2) dX6_letterOn_20 (by decide) ?_
  refine V_iadd 21 dX6_letterOn_21 ?_
  refine V_topi (nI (168 * r + 2)) (nI_add _ 2) ?_
  refine V_ialdk 22 (168 * r + 2) (nI_clamp (by omega)) dX6_letterOn_22 (by first | exact hX.1.1.1 | exact hX.1.1.2.1 | exact hX.1.1.2.2.1 | exact hX.1.1.2.2.2.1 | exact hX.1.1.2.2.2.2.1 | exact hX.1.1.2.2.2.2.2.1 | exact hX.1.1.2.2.2.2.2.2.1 | exact hX.1.1.2.2.2.2.2.2.2.1 | exact hX.1.1.2.2.2.2.2.2.2.2.1 | exact hX.1.1.2.2.2.2.2.2.2.2.2.1 | exact hX.1.1.2.2.2.2.2.2.2.2.2.2) (vp_in_nI (by omega) (by decide)) ?_
  refine V_topi (nI (eN E)) hR.2.2.1 ?_
  refine V_icmp_ge 23 89 dX6_letterOn_23 rfl (fun c_23 => ?_) (fun c_23 => ?_)
  · have e_9 : i = eN E := Nat.le_antisymm hi ((nI_leI (by omega) (by omega)).mp c_23)
    subst e_9
    refine V_iload 89 dX6_letterOn_89 rfl ?_
    refine V_iret 91 dX6_letterOn_91 ?_
    exact k
  · have e_9 : i < eN E := Nat.lt_of_not_le (fun q => c_23 (nI_le q (by omega)))
    refine V_aload_n 26 dX6_letterOn_26 rfl ?_
    refine V_get 27 dX6_letterOn_27 fdX6_16 (by first | exact hX.1.1.1 | exact hX.1.1.2.1 | exact hX.1.1.2.2.1 | exact hX.1.1.2.2.2.1 | exact hX.1.1.2.2.2.2.1 | exact hX.1.1.2.2.2.2.2.1 | exact hX.1.1.2.2.2.2.2.2.1 | exact hX.1.1.2.2.2.2.2.2.2.1 | exact hX.1.1.2.2.2.2.2.2.2.2.1 | exact hX.1.1.2.2.2.2.2.2.2.2.2.1 | exact hX.1.1.2.2.2.2.2.2.2.2.2.2) rfl ?_
    refine V_iload_n 30 dX6_letterOn_30 rfl ?_
    refine V_iload 31 dX6_letterOn_31 rfl ?_
    refine V_iconstv 33 (0) dX6_letterOn_33 (by decide) ?_
    refine V_is3 34 dX6_letterOn_34 ksX6_53 rfl rfl (c_X6_ofLetter r i 0 ?_)
    refine V_ialdk 37 (leA r i 0) (nI_clamp (by unfold leA; omega)) dX6_letterOn_37 (by first | exact hX.1.1.1 | exact hX.1.1.2.1 | exact hX.1.1.2.2.1 | exact hX.1.1.2.2.2.1 | exact hX.1.1.2.2.2.2.1 | exact hX.1.1.2.2.2.2.2.1 | exact hX.1.1.2.2.2.2.2.2.1 | exact hX.1.1.2.2.2.2.2.2.2.1 | exact hX.1.1.2.2.2.2.2.2.2.2.1 | exact hX.1.1.2.2.2.2.2.2.2.2.2.1 | exact hX.1.1.2.2.2.2.2.2.2.2.2.2) (vp_in_nI (by unfold leA; omega) (by decide)) ?_
    refine V_topi (eL E (6 * i)) (hR.2.2.2.2.2.1 i 0 (by omega) (by omega)) ?_
    refine V_iload_n 38 dX6_letterOn_38 rfl ?_
    refine V_icmp_ne 39 46 dX6_letterOn_39 rfl (fun c_39 => ?_) (fun c_39 => ?_)
    · have e_39 : ¬ onB E x i = true := by simpa [onB] using c_39
      have e_p : ¬ plB E x z i = true := fun q => e_39 (Bool.and_eq_true_iff.mp q).1
      have e_l : laN (plB E x z) i = laN (plB E x z) (i + 1) := by rw [laN, if_neg e_p]
      have e_c : z - nI (ctN (onB E x) i) - 0 = z - nI (ctN (onB E x) (i + 1)) := by rw [ctN_f e_39]; simp
      refine V_iconstv 46 (0) dX6_letterOn_46 (by decide) ?_
      refine V_istore 47 dX6_letterOn_47 rfl rfl ?_
      refine V_iload 49 dX6_letterOn_49 rfl ?_
      refine V_if_eq 51 64 dX6_letterOn_51 rfl (fun _ => ?_) (fun q => absurd q (by decide))
      refine V_iload 64 dX6_letterOn_64 rfl ?_
      refine V_topi _ e_l ?_
      refine V_istore 66 dX6_letterOn_66 rfl rfl ?_
      refine V_iload 68 dX6_letterOn_68 rfl ?_
      refine V_iload 70 dX6_letterOn_70 rfl ?_
      refine V_if_eq 72 79 dX6_letterOn_72 rfl (fun _ => ?_) (fun q => absurd q (by decide))
      refine V_iconstv 79 (0) dX6_letterOn_79 (by decide) ?_
      refine V_isub 80 dX6_letterOn_80 ?_
      refine V_topi _ e_c ?_
      refine V_istore 81 dX6_letterOn_81 rfl rfl ?_
      refine V_iinc 83 (nI (i + 1)) dX6_letterOn_83 rfl (nI_inc i) rfl rfl ?_
      refine V_goto 86 9 dX6_letterOn_86 rfl ?_
      exact ih (i + 1) rfl (by omega) _ (Or.inr ⟨_, rfl⟩)
    · have e_39 : onB E x i = true := by simpa [onB] using c_39
      have e_c : z - nI (ctN (onB E x) i) - 1 = z - nI (ctN (onB E x) (i + 1)) := by rw [ctN_t e_39, ← i32_dec, i32_sub_inc]
      refine V_iconstv 42 (1) dX6_letterOn_42 (by decide) ?_
      refine V_goto 43 47 dX6_letterOn_43 rfl ?_
      refine V_istore 47 dX6_letterOn_47 rfl rfl ?_
      refine V_iload 49 dX6_letterOn_49 rfl ?_
      refine V_if_eq 51 64 dX6_letterOn_51 rfl (fun q => absurd q (by decide)) (fun _ => ?_)
      refine V_iload 54 dX6_letterOn_54 rfl ?_
      refine V_if_ne 56 64 dX6_letterOn_56 rfl (fun c_56 => ?_) (fun c_56 => ?_)
      · have e_p : ¬ plB E x z i = true := fun q => c_56 (i32_sub0.mpr (by have := (Bool.and_eq_true_iff.mp q).2; simp at this; exact this.symm))
        have e_l : laN (plB E x z) i = laN (plB E x z) (i + 1) := by rw [laN, if_neg e_p]
        refine V_iload 64 dX6_letterOn_64 rfl ?_
        refine V_topi _ e_l ?_
        refine V_istore 66 dX6_letterOn_66 rfl rfl ?_
        refine V_iload 68 dX6_letterOn_68 rfl ?_
        refine V_iload 70 dX6_letterOn_70 rfl ?_
        refine V_if_eq 72 79 dX6_letterOn_72 rfl (fun q => absurd q (by decide)) (fun _ => ?_)
        refine V_iconstv 75 (1) dX6_letterOn_75 (by decide) ?_
        refine V_goto 76 80 dX6_letterOn_76 rfl ?_
        refine V_isub 80 dX6_letterOn_80 ?_
        refine V_topi _ e_c ?_
        refine V_istore 81 dX6_letterOn_81 rfl rfl ?_
        refine V_iinc 83 (nI (i + 1)) dX6_letterOn_83 rfl (nI_inc i) rfl rfl ?_
        refine V_goto 86 9 dX6_letterOn_86 rfl ?_
        exact ih (i + 1) rfl (by omega) _ (Or.inr ⟨_, rfl⟩)
      · have e_p : plB E x z i = true := Bool.and_eq_true_iff.mpr ⟨e_39, by simpa using (i32_sub0.mp c_56).symm⟩
        have e_l : nI i = laN (plB E x z) (i + 1) := by rw [laN, if_pos e_p]
        refine V_iload 59 dX6_letterOn_59 rfl ?_
        refine V_goto 61 66 dX6_letterOn_61 rfl ?_
        refine V_topi _ e_l ?_
        refine V_istore 66 dX6_letterOn_66 rfl rfl ?_
        refine V_iload 68 dX6_letterOn_68 rfl ?_
        refine V_iload 70 dX6_letterOn_70 rfl ?_
        refine V_if_eq 72 79 dX6_letterOn_72 rfl (fun q => absurd q (by decide)) (fun _ => ?_)
        refine V_iconstv 75 (1) dX6_letterOn_75 (by decide) ?_
        refine V_goto 76 80 dX6_letterOn_76 rfl ?_
        refine V_isub 80 dX6_letterOn_80 ?_
        refine V_topi _ e_c ?_
        refine V_istore 81 dX6_letterOn_81 rfl rfl ?_
        refine V_iinc 83 (nI (i + 1)) dX6_letterOn_83 rfl (nI_inc i) rfl rfl ?_
        refine V_goto 86 9 dX6_letterOn_86 rfl ?_
        exact ih (i + 1) rfl (by omega) _ (Or.inr ⟨_, rfl⟩)
set_option maxHeartbeats 1000000 in
set_option maxRecDepth 100000 in
theorem c_X6_letterOn (hX : WX G h0 h m M0 M r E Q) {x z : Int32} (k : Post (some (.int (laN (plB E x z) (eN E)))) h sz) : Cn l G yX6_letterOn cX6_letterOn 8 (some .int) 1 0 0 [.ref m, .int (nI r), .int x, .int z] h sz Post := by
  refine Cn.of RX6 false (by decide) rfl (fun q => by cases q) (Nat.le_of_ble_eq_true rfl) ?_
  refine V_iload_n 0 dX6_letterOn_0 rfl ?_
  refine V_istore 1 dX6_letterOn_1 rfl rfl ?_
  refine V_iconstv 3 (-1) dX6_letterOn_3 (by decide) ?_
  refine V_istore 4 dX6_letterOn_4 rfl rfl ?_
  refine V_iconstv 6 (0) dX6_letterOn_6 (by decide) ?_
  refine V_istore 7 dX6_letterOn_7 rfl rfl ?_
  have K := lp_X6_letterOn (l := l) hX k 0 (Nat.zero_le _) none (Or.inl rfl)
  have e0 : z - nI (ctN (onB E x) 0) = z := by show z - nI 0 = z; rw [nI_0]; simp
  rw [e0] at K
  exact V_lvw (zget_pad _) K
end M25
