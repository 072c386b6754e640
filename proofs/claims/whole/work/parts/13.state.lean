/-! ===== what the cells of the class are ===== -/
def inb (i : Int32) (n : Nat) : Bool := decide (0 ≤ i.toInt) && decide (i.toInt < n)
theorem inb_in {i : Int32} {n : Nat} (h : inb i n = true) : vp_in i n := by
  simp only [inb, Bool.and_eq_true, decide_eq_true_eq] at h
  exact vp_in_iff.mpr h
theorem inb_of {i N : Int32} {n : Nat} (hN : N.toInt = n) (h0 : ¬ i < 0) (h1 : ¬ N ≤ i) : inb i n = true := by
  have a : ¬ i.toInt < 0 := fun q => h0 (Int32.lt_iff_toInt_lt.mpr q)
  have b : ¬ N.toInt ≤ i.toInt := fun q => h1 (Int32.le_iff_toInt_le.mpr q)
  simp only [inb, Bool.and_eq_true, decide_eq_true_eq]
  omega
theorem inb_f1 {i : Int32} {n : Nat} (h0 : i < 0) : inb i n = false := by
  have a : i.toInt < 0 := Int32.lt_iff_toInt_lt.mp h0
  simp only [inb, Bool.and_eq_false_iff, decide_eq_false_iff_not]
  omega
theorem inb_f2 {i N : Int32} {n : Nat} (hN : N.toInt = n) (h1 : N ≤ i) : inb i n = false := by
  have b : N.toInt ≤ i.toInt := Int32.le_iff_toInt_le.mp h1
  simp only [inb, Bool.and_eq_false_iff, decide_eq_false_iff_not]
  omega
theorem inb_le {i M : Int32} {n : Nat} (hM : M.toInt + 1 = n) : inb i n = true ↔ (0 ≤ i ∧ i ≤ M) := by
  simp only [inb, Bool.and_eq_true, decide_eq_true_eq, Int32.le_iff_toInt_le]
  have : (0 : Int32).toInt = 0 := rfl
  omega
theorem inb_nI {k n : Nat} (h : k < n) (hn : n < 2 ^ 31) : inb (nI k) n = true := by
  simp only [inb, Bool.and_eq_true, decide_eq_true_eq]
  rw [nI_toInt (by omega)]
  omega
def Fr (o n : Nat) (h0 h : hpT) : Prop := ∀ a, ¬ (o ≤ a ∧ a < o + n) → h a = h0 a
theorem Fr.rf {o n : Nat} {h : hpT} : Fr o n h h := fun _ _ => rfl
theorem Fr.set {o n : Nat} {h0 h : hpT} (hF : Fr o n h0 h) {a : Nat} (e : va_E) (h1 : o ≤ a) (h2 : a < o + n) : Fr o n h0 (hpS h a e) := by
  intro b hb
  rw [hpS_ne _ _ (fun q => hb (by rw [q]; exact ⟨h1, h2⟩))]
  exact hF b hb
/-- an election: way, greatest mark, cells, letters, how many letters, sent, the hand -/
abbrev ET : Type := Int32 × Int32 × (Nat → Int32) × (Nat → Int32) × Nat × (Nat → Int32) × (Nat → Int32)
abbrev eW (E : ET) : Int32 := E.1
abbrev eG (E : ET) : Int32 := E.2.1
abbrev eC (E : ET) : Nat → Int32 := E.2.2.1
abbrev eL (E : ET) : Nat → Int32 := E.2.2.2.1
abbrev eN (E : ET) : Nat := E.2.2.2.2.1
abbrev eS (E : ET) : Nat → Int32 := E.2.2.2.2.2.1
abbrev eH (E : ET) : Nat → Int32 := E.2.2.2.2.2.2
def eW' (E : ET) (x : Int32) : ET := (x, E.2)
def eG' (E : ET) (x : Int32) : ET := (E.1, x, E.2.2)
def eC' (E : ET) (f : Nat → Int32) : ET := (E.1, E.2.1, f, E.2.2.2)
def eL' (E : ET) (f : Nat → Int32) : ET := (E.1, E.2.1, E.2.2.1, f, E.2.2.2.2)
def eN' (E : ET) (n : Nat) : ET := (E.1, E.2.1, E.2.2.1, E.2.2.2.1, n, E.2.2.2.2.2)
def eS' (E : ET) (f : Nat → Int32) : ET := (E.1, E.2.1, E.2.2.1, E.2.2.2.1, E.2.2.2.2.1, f, E.2.2.2.2.2.2)
def eH' (E : ET) (f : Nat → Int32) : ET := (E.1, E.2.1, E.2.2.1, E.2.2.2.1, E.2.2.2.2.1, E.2.2.2.2.2.1, f)
/-- a ring: how many, names, senses -/
abbrev RG : Type := Nat × (Nat → Int32) × (Nat → Int32)
def fE (o r : Nat) (E : ET) : List Value := [.ref r, .int (eW E), .int (eG E), .ref (o + 1), .ref (o + 2), .int (nI (eN E)), .ref (o + 3), .ref (o + 4)]
def fR (r : Nat) (Q : RG) : List Value := [.int (nI Q.1), .ref (r + 1), .ref (r + 2)]
def zb (n : Nat) (f : Nat → Int32) : Prop := ∀ k, n ≤ k → f k = 0
theorem zb.upd {n j : Nat} {f : Nat → Int32} {x : Int32} (h : zb n f) (hj : j < n) : zb n (upd f j x) := fun k hk => by rw [pk_un (by omega)]; exact h k hk
theorem zb.cpy {n m : Nat} {f g : Nat → Int32} {s d c : Nat} (hg : zb n g) (hd : d + c ≤ n) (_ : zb m f) : zb n (va_cpy f g s d c) := fun k hk => by rw [pk_cpy_out (by omega)]; exact hg k hk
theorem zb.cpyAll {n : Nat} {f g : Nat → Int32} (hf : zb n f) (hg : zb n g) : va_cpy f g 0 0 n = f := by
  funext k
  by_cases h : k < n
  · rw [pk_cpy_in (by omega) (by omega)]; simp
  · rw [pk_cpy_out (by omega), hf k (by omega), hg k (by omega)]
theorem vp_in_lt {i : Int32} {n : Nat} (h : vp_in i n) : i.toNatClampNeg < n := Nat.not_le.mp fun q => h (Or.inr q)
def EA (G : zGT) (h : hpT) (o r : Nat) (E : ET) : Prop := h o = some (ob 0 (fE o r E)) ∧ h (o + 1) = some (aI G 48 (eC E)) ∧ h (o + 2) = some (aI G 72 (eL E)) ∧ h (o + 3) = some (aI G 8 (eS E)) ∧ h (o + 4) = some (aI G 6 (eH E)) ∧ eN E ≤ 12 ∧ zb 48 (eC E) ∧ zb 72 (eL E) ∧ zb 8 (eS E)
def RA (G : zGT) (h : hpT) (r : Nat) (Q : RG) : Prop := h r = some (ob 3 (fR r Q)) ∧ h (r + 1) = some (aI G 6 Q.2.1) ∧ h (r + 2) = some (aI G 6 Q.2.2) ∧ Q.1 ≤ 6 ∧ zb 6 Q.2.1 ∧ zb 6 Q.2.2
theorem EA.fr {G : zGT} {h h1 : hpT} {o r a n : Nat} {E : ET} (hE : EA G h o r E) (hF : Fr a n h h1) (hd : a + n ≤ o ∨ o + 5 ≤ a) : EA G h1 o r E := by
  obtain ⟨e1, e2, e3, e4, e5, e6⟩ := hE
  exact ⟨by rw [hF _ (by omega)]; exact e1, by rw [hF _ (by omega)]; exact e2, by rw [hF _ (by omega)]; exact e3, by rw [hF _ (by omega)]; exact e4, by rw [hF _ (by omega)]; exact e5, e6⟩
theorem RA.fr {G : zGT} {h h1 : hpT} {r a n : Nat} {Q : RG} (hR : RA G h r Q) (hF : Fr a n h h1) (hd : a + n ≤ r ∨ r + 3 ≤ a) : RA G h1 r Q := by
  obtain ⟨e1, e2, e3, e4⟩ := hR
  exact ⟨by rw [hF _ (by omega)]; exact e1, by rw [hF _ (by omega)]; exact e2, by rw [hF _ (by omega)]; exact e3, e4⟩
theorem Fr1 (h : hpT) (a : Nat) (e : va_E) : Fr a 1 h (hpS h a e) := Fr.rf.set e (Nat.le_refl a) (by omega)
/-- an election on its ring, and what has changed since h0 -/
def WE (G : zGT) (h0 h : hpT) (o r : Nat) (E : ET) (Q : RG) : Prop := EA G h o r E ∧ RA G h r Q ∧ Fr o 5 h0 h ∧ (r + 3 ≤ o ∨ o + 5 ≤ r)
section WEs
variable {G : zGT} {h0 h : hpT} {o r : Nat} {E : ET} {Q : RG}
theorem WE.sC (hW : WE G h0 h o r E Q) (f : Nat → Int32) (hf : zb 48 f) : WE G h0 (hpS h (o + 1) (aI G 48 f)) o r (eC' E f) Q := by
  obtain ⟨⟨e1, e2, e3, e4, e5, e6⟩, hR, hF, hd⟩ := hW
  exact ⟨⟨by rw [hpS_ne _ _ (by omega)]; exact e1, hpS_self _ _ _, by rw [hpS_ne _ _ (by omega)]; exact e3, by rw [hpS_ne _ _ (by omega)]; exact e4, by rw [hpS_ne _ _ (by omega)]; exact e5, e6.1, hf, e6.2.2⟩, hR.fr (Fr1 _ _ _) (by omega), hF.set _ (by omega) (by omega), hd⟩
theorem WE.sL (hW : WE G h0 h o r E Q) (f : Nat → Int32) (hf : zb 72 f) : WE G h0 (hpS h (o + 2) (aI G 72 f)) o r (eL' E f) Q := by
  obtain ⟨⟨e1, e2, e3, e4, e5, e6⟩, hR, hF, hd⟩ := hW
  exact ⟨⟨by rw [hpS_ne _ _ (by omega)]; exact e1, by rw [hpS_ne _ _ (by omega)]; exact e2, hpS_self _ _ _, by rw [hpS_ne _ _ (by omega)]; exact e4, by rw [hpS_ne _ _ (by omega)]; exact e5, e6.1, e6.2.1, hf, e6.2.2.2⟩, hR.fr (Fr1 _ _ _) (by omega), hF.set _ (by omega) (by omega), hd⟩
theorem WE.sS (hW : WE G h0 h o r E Q) (f : Nat → Int32) (hf : zb 8 f) : WE G h0 (hpS h (o + 3) (aI G 8 f)) o r (eS' E f) Q := by
  obtain ⟨⟨e1, e2, e3, e4, e5, e6⟩, hR, hF, hd⟩ := hW
  exact ⟨⟨by rw [hpS_ne _ _ (by omega)]; exact e1, by rw [hpS_ne _ _ (by omega)]; exact e2, by rw [hpS_ne _ _ (by omega)]; exact e3, hpS_self _ _ _, by rw [hpS_ne _ _ (by omega)]; exact e5, e6.1, e6.2.1, e6.2.2.1, hf⟩, hR.fr (Fr1 _ _ _) (by omega), hF.set _ (by omega) (by omega), hd⟩
theorem WE.sH (hW : WE G h0 h o r E Q) (f : Nat → Int32) : WE G h0 (hpS h (o + 4) (aI G 6 f)) o r (eH' E f) Q := by
  obtain ⟨⟨e1, e2, e3, e4, e5, e6⟩, hR, hF, hd⟩ := hW
  exact ⟨⟨by rw [hpS_ne _ _ (by omega)]; exact e1, by rw [hpS_ne _ _ (by omega)]; exact e2, by rw [hpS_ne _ _ (by omega)]; exact e3, by rw [hpS_ne _ _ (by omega)]; exact e4, hpS_self _ _ _, e6⟩, hR.fr (Fr1 _ _ _) (by omega), hF.set _ (by omega) (by omega), hd⟩
theorem WE.sO (hW : WE G h0 h o r E Q) {E1 : ET} {fs : List Value} (hfs : fs = fE o r E1) (h1 : eC E1 = eC E) (h2 : eL E1 = eL E) (h3 : eS E1 = eS E) (h4 : eH E1 = eH E) (h5 : eN E1 ≤ 12) : WE G h0 (hpS h o (ob 0 fs)) o r E1 Q := by
  obtain ⟨⟨e1, e2, e3, e4, e5, e6⟩, hR, hF, hd⟩ := hW
  subst hfs
  exact ⟨⟨hpS_self _ _ _, by rw [hpS_ne _ _ (by omega), h1]; exact e2, by rw [hpS_ne _ _ (by omega), h2]; exact e3, by rw [hpS_ne _ _ (by omega), h3]; exact e4, by rw [hpS_ne _ _ (by omega), h4]; exact e5, h5, by rw [h1]; exact e6.2.1, by rw [h2]; exact e6.2.2.1, by rw [h3]; exact e6.2.2.2⟩, hR.fr (Fr1 _ _ _) (by omega), hF.set _ (by omega) (by omega), hd⟩
theorem WE.sW (hW : WE G h0 h o r E Q) (x : Int32) : WE G h0 (hpS h o (ob 0 ((fE o r E).set 1 (.int x)))) o r (eW' E x) Q := hW.sO rfl rfl rfl rfl rfl hW.1.2.2.2.2.2.1
theorem WE.sG (hW : WE G h0 h o r E Q) (x : Int32) : WE G h0 (hpS h o (ob 0 ((fE o r E).set 2 (.int x)))) o r (eG' E x) Q := hW.sO rfl rfl rfl rfl rfl hW.1.2.2.2.2.2.1
theorem WE.sN (hW : WE G h0 h o r E Q) {x : Int32} (n : Nat) (hx : x = nI n) (hn : n ≤ 12) : WE G h0 (hpS h o (ob 0 ((fE o r E).set 5 (.int x)))) o r (eN' E n) Q := by
  subst hx
  exact hW.sO rfl rfl rfl rfl rfl hn
variable {l : Launch} {own : String} {cc : ByteArray} {nL : Nat} {rt : Option FieldType} {ini : Bool} {d kc ks : Nat} {Post : Option Value → hpT → Nat → Prop} {lv : List (Option Value)} {st : List Value} {sz : Nat}
theorem V_iastC (pc j : Nat) {i x : Int32} (hj : i.toNatClampNeg = j) (hd : decode cc pc = .ok (.iastore, 1)) (hW : WE G h0 h o r E Q) (hin : vp_in i 48) (kk : ∀ h, WE G h0 h o r (eC' E (upd (eC E) j x)) Q → V l G own cc nL rt ini d kc ks Post (pc + 1) lv st h sz) : V l G own cc nL rt ini d kc ks Post pc lv (.int x :: .int i :: .ref (o + 1) :: st) h sz := by
  subst hj
  exact V_iast pc hd hW.1.2.1 hin (kk _ (hW.sC _ (hW.1.2.2.2.2.2.2.1.upd (vp_in_lt hin))))
theorem V_iastL (pc j : Nat) {i x : Int32} (hj : i.toNatClampNeg = j) (hd : decode cc pc = .ok (.iastore, 1)) (hW : WE G h0 h o r E Q) (hin : vp_in i 72) (kk : ∀ h, WE G h0 h o r (eL' E (upd (eL E) j x)) Q → V l G own cc nL rt ini d kc ks Post (pc + 1) lv st h sz) : V l G own cc nL rt ini d kc ks Post pc lv (.int x :: .int i :: .ref (o + 2) :: st) h sz := by
  subst hj
  exact V_iast pc hd hW.1.2.2.1 hin (kk _ (hW.sL _ (hW.1.2.2.2.2.2.2.2.1.upd (vp_in_lt hin))))
theorem V_iastS (pc j : Nat) {i x : Int32} (hj : i.toNatClampNeg = j) (hd : decode cc pc = .ok (.iastore, 1)) (hW : WE G h0 h o r E Q) (hin : vp_in i 8) (kk : ∀ h, WE G h0 h o r (eS' E (upd (eS E) j x)) Q → V l G own cc nL rt ini d kc ks Post (pc + 1) lv st h sz) : V l G own cc nL rt ini d kc ks Post pc lv (.int x :: .int i :: .ref (o + 3) :: st) h sz := by
  subst hj
  exact V_iast pc hd hW.1.2.2.2.1 hin (kk _ (hW.sS _ (hW.1.2.2.2.2.2.2.2.2.upd (vp_in_lt hin))))
theorem V_iastH (pc j : Nat) {i x : Int32} (hj : i.toNatClampNeg = j) (hd : decode cc pc = .ok (.iastore, 1)) (hW : WE G h0 h o r E Q) (hin : vp_in i 6) (kk : ∀ h, WE G h0 h o r (eH' E (upd (eH E) j x)) Q → V l G own cc nL rt ini d kc ks Post (pc + 1) lv st h sz) : V l G own cc nL rt ini d kc ks Post pc lv (.int x :: .int i :: .ref (o + 4) :: st) h sz := by
  subst hj
  exact V_iast pc hd hW.1.2.2.2.2.1 hin (kk _ (hW.sH _))
theorem V_putEW (pc : Nat) {idx : Nat} {x : Int32} (hd : decode cc pc = .ok (.putfield idx, 3)) (hf : zFp own idx 0 1 .int false) (hW : WE G h0 h o r E Q) (kk : ∀ h, WE G h0 h o r (eW' E x) Q → V l G own cc nL rt ini d kc ks Post (pc + 3) lv st h sz) : V l G own cc nL rt ini d kc ks Post pc lv (.int x :: .ref o :: st) h sz := V_put pc hd hf (fun q => by cases q) hW.1.1 rfl rfl (Nat.le_of_ble_eq_true rfl) (kk _ (hW.sW _))
theorem V_putEG (pc : Nat) {idx : Nat} {x : Int32} (hd : decode cc pc = .ok (.putfield idx, 3)) (hf : zFp own idx 0 2 .int false) (hW : WE G h0 h o r E Q) (kk : ∀ h, WE G h0 h o r (eG' E x) Q → V l G own cc nL rt ini d kc ks Post (pc + 3) lv st h sz) : V l G own cc nL rt ini d kc ks Post pc lv (.int x :: .ref o :: st) h sz := V_put pc hd hf (fun q => by cases q) hW.1.1 rfl rfl (Nat.le_of_ble_eq_true rfl) (kk _ (hW.sG _))
theorem V_putEN (pc : Nat) {idx : Nat} {x : Int32} (n : Nat) (hx : x = nI n) (hn : n ≤ 12) (hd : decode cc pc = .ok (.putfield idx, 3)) (hf : zFp own idx 0 5 .int false) (hW : WE G h0 h o r E Q) (kk : ∀ h, WE G h0 h o r (eN' E n) Q → V l G own cc nL rt ini d kc ks Post (pc + 3) lv st h sz) : V l G own cc nL rt ini d kc ks Post pc lv (.int x :: .ref o :: st) h sz := V_put pc hd hf (fun q => by cases q) hW.1.1 rfl rfl (Nat.le_of_ble_eq_true rfl) (kk _ (hW.sN n hx hn))
theorem V_ialdk (pc j : Nat) {a n : Nat} {f : Nat → Int32} {i : Int32} (hj : i.toNatClampNeg = j) (hd : decode cc pc = .ok (.iaload, 1)) (ha : h a = some (aI G n f)) (hin : vp_in i n) (kk : V l G own cc nL rt ini d kc ks Post (pc + 1) lv (.int (f j) :: st) h sz) : V l G own cc nL rt ini d kc ks Post pc lv (.int i :: .ref a :: st) h sz := by
  subst hj
  exact V_iald pc hd ha hin kk
end WEs
