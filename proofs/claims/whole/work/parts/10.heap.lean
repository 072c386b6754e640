theorem zP.one {G : zGT} {h : hpT} {H : Heap} {a : Nat} {e : va_E} (hP : zP G h H) (ha : h a = some e) : va_P G.1 vwCl [(a, e)] H := by
  intro k q hk
  match k, hk with
  | 0, hk => cases hk; exact hP a e ha
  | k + 1, hk => simp at hk
theorem zP.lt {G : zGT} {h : hpT} {H : Heap} {a : Nat} {e : va_E} (hP : zP G h H) (ha : h a = some e) : a < H.size := (hP a e ha).lt
/-- a cell of the heap is written -/
theorem zH.upd {G : zGT} {h : hpT} {sz : Nat} {A : Nat → Prop} {s : State} {H H1 : Heap} {locs : List Loc} {a k : Nat} {e0 e : va_E} (hH : zH G h sz A s H locs) (ha : h a = some e0) (he : va_at G.1 vwCl (a, e) H1) (z : H1.size = H.size) (oq : ∀ q : Nat, q ≠ a → H1[q]? = H[q]?) : zH G (hpS h a e) sz A s H1 (locs ++ [⟨a, k⟩]) := by
  obtain ⟨hP, hA, hsz, hS⟩ := hH
  refine ⟨fun b x hb => ?_, fun b x hb => ?_, z.trans hsz, hS.put z oq (hA a _ ha)⟩
  · by_cases hba : b = a
    · subst hba
      rw [hpS_self] at hb
      cases hb
      exact he
    · rw [hpS_ne _ _ hba] at hb
      exact (hP b x hb).kept (oq b hba)
  · by_cases hba : b = a
    · subst hba
      exact hA b _ ha
    · rw [hpS_ne _ _ hba] at hb
      exact hA b x hb
/-- a cell is made -/
theorem zH.new {G : zGT} {h : hpT} {sz : Nat} {A : Nat → Prop} {s : State} {H H1 : Heap} {locs : List Loc} {e : va_E} (hH : zH G h sz A s H locs) (hA : ∀ q, s.heap.size ≤ q → A q) (he : va_at G.1 vwCl (sz, e) H1) (z : H1.size = sz + 1) (oq : ∀ q : Nat, q < sz → H1[q]? = H[q]?) : zH G (hpS h sz e) (sz + 1) A s H1 locs := by
  obtain ⟨hP, hA1, hsz, hS⟩ := hH
  refine ⟨fun b x hb => ?_, fun b x hb => ?_, z, by rw [z, ← hsz]; exact Nat.le_trans hS.1 (Nat.le_succ _), fun q h1 h2 => ?_, hS.2.2⟩
  · by_cases hba : b = sz
    · subst hba
      rw [hpS_self] at hb
      cases hb
      exact he
    · rw [hpS_ne _ _ hba] at hb
      exact (hP b x hb).kept (oq b (by rw [← hsz]; exact hP.lt hb))
  · by_cases hba : b = sz
    · subst hba
      exact hA _ (by rw [← hsz]; exact hS.1)
    · rw [hpS_ne _ _ hba] at hb
      exact hA1 b x hb
  · rw [oq q (by rw [← hsz]; exact Nat.lt_of_lt_of_le h1 hS.1)]
    exact hS.2.1 q h1 h2
/-- what is known of a class by its number -/
def zCls (ci : Nat) (C : String) (T : u_T) (N : Nat) : Prop := vwCl[ci]? = some (C, T, N) ∧ (∀ w ∈ u_ws C T N, zW w) ∧ (∃ ty : Nat → FieldType, ∀ k, k < N → parseFieldDescriptor (T k).2.2.1 = some (ty k)) ∧ (∀ a, a < N → ∀ b, b < N → a ≠ b → (T a).2.1 ≠ (T b).2.1)
/-- field k of class ci, by its index in the pool of own -/
def zFd (own : String) (idx ci k : Nat) : Prop := ∃ (C : String) (T : u_T) (N : Nat), zCls ci C T N ∧ k < N ∧ (T k).1 = C ∧ (zW (.fieldLink own idx C (T k).2.1 (T k).2.2.1) ∨ ∃ host, zW (.fieldLinkNest own idx C (T k).2.1 (T k).2.2.1 host))
/-- the same, written: its type, final or not -/
def zFp (own : String) (idx ci k : Nat) (ty : FieldType) (fin : Bool) : Prop := ∃ (C : String) (T : u_T) (N : Nat), zCls ci C T N ∧ k < N ∧ (T k).1 = C ∧ ((fin = true ∧ own = C ∧ zW (.fieldLink own idx C (T k).2.1 (T k).2.2.1)) ∨ (fin = false ∧ (zW (.fieldLink own idx C (T k).2.1 (T k).2.2.1) ∨ ∃ host, zW (.fieldLinkNest own idx C (T k).2.1 (T k).2.2.1 host)))) ∧ (T k).2.2.2 = fin ∧ parseFieldDescriptor (T k).2.2.1 = some ty
section VH
variable {l : Launch} {G : zGT} {own : String} {cc : ByteArray} {nL : Nat} {rt : Option FieldType} {ini : Bool} {d kc ks : Nat} {Post : Option Value → hpT → Nat → Prop} {lv : List (Option Value)} {st : List Value} {h : hpT} {sz : Nat}
theorem V_get (pc : Nat) {idx ci k a : Nat} {fs : List Value} {v : Value} (hd : decode cc pc = .ok (.getfield idx, 3)) (hf : zFd own idx ci k) (ha : h a = some (ob ci fs)) (hv : fs[k]? = some v) (kk : V l G own cc nL rt ini d kc ks Post (pc + 3) lv (v :: st) h sz) : V l G own cc nL rt ini d kc ks Post pc lv (.ref a :: st) h sz := by
  intro p e R s m args below meth c A B H locs cells slots ls hH hl h1 h2
  obtain ⟨C, T, N, ⟨hc, hws, -, -⟩, hk, hC, hlink⟩ := hf
  have K := kk p e R s m args below meth c A B H locs cells slots ls hH hl h1 h2
  obtain ⟨hx, hb, -, hown, hts, hK, -⟩ := B
  have hts1 : ∀ w ∈ u_ws C T N, w.before args s = true := fun w hw => hts w (hws w hw)
  rcases hlink with hlink | ⟨host, hlink⟩
  · exact va_get (ci := ci) (ref := C) hx hb hts1 (fun _ q => q) hown hK (hH.1.one ha) 0 rfl hc k hk (hts _ hlink) (fun _ q => by rw [hC] at q; exact q) hv hd K
  · exact va_getN (ci := ci) (ref := C) hx hb hts1 (fun _ q => q) hown hK (hH.1.one ha) 0 rfl hc k hk (hts _ hlink) (fun _ q => by rw [hC] at q; exact q) hv hd K
set_option maxHeartbeats 1000000 in
theorem V_put (pc : Nat) {idx ci k a : Nat} {fs : List Value} {v : Value} {ty : FieldType} {fin : Bool} (hd : decode cc pc = .ok (.putfield idx, 3)) (hf : zFp own idx ci k ty fin) (hini : fin = true → ini = true) (ha : h a = some (ob ci fs)) (hn : narrow ty v = v) (hfit : fits ty v = true) (hl0 : k < fs.length) (kk : V l G own cc nL rt ini d kc ks Post (pc + 3) lv st (hpS h a (ob ci (fs.set k v))) sz) : V l G own cc nL rt ini d kc ks Post pc lv (v :: .ref a :: st) h sz := by
  intro p e R s m args below meth c A B H locs cells slots ls hH hl h1 h2
  obtain ⟨C, T, N, ⟨hc, hws, ⟨ty0, hty⟩, hnm⟩, hk, hC, hlink, hfin, hpd⟩ := hf
  have K : ∀ (H1 : Heap) (locs1 : List Loc), zH G (hpS h a (ob ci (fs.set k v))) sz A s H1 locs1 → W p l e R s m args below meth c H1 locs1 cells slots (MQ below (zQ G Post A) args s R.cells R.slots A) (F0 m (pc + 3) ls st) := fun H1 locs1 hH1 => kk p e R s m args below meth c A B H1 locs1 cells slots ls hH1 hl h1 h2
  obtain ⟨hx, hb, -, hown, hts, hK, -, -, -, hin2, -⟩ := B
  have hts1 : ∀ w ∈ u_ws C T N, w.before args s = true := fun w hw => hts w (hws w hw)
  have hap := va_apart (own := own) (Ts := u_ws C T N) hts1 (fun _ q => q) ty0 hty hnm hK hc
  obtain ⟨r, hr1, cell, q1, q2, q3, q4⟩ := hH.1 a _ ha
  have hr : r = (C, T, N) := Option.some.inj (hr1.symm.trans hc)
  subst hr
  obtain ⟨hS, hfc, kC, hkC, hkind⟩ := hK.1 ci _ hc
  obtain ⟨cf, kf, fi, f, hi, hsl⟩ := hS k hk
  have hlay := hts1 _ (u_in_lay hk)
  have hst := (u_facts hfc hkC (u_lays (ws := u_ws C T N) hts1 (fun _ q => q) hk) hi).1
  have hi2 : s.fieldFound? C (T k).2.1 (T k).2.2.1 = some (cf, kf, fi, f) := by rw [← hC]; exact hi
  have done : ∀ H' : Heap, H'[a]? = some (cell.setSlot f.slot v) → H'.size = H.size → (∀ q, q ≠ a → H'[q]? = H[q]?) → W p l e R s m args below meth c H' (locs ++ [⟨a, f.slot⟩]) cells slots (MQ below (zQ G Post A) args s R.cells R.slots A) (F0 m (pc + 3) ls st) := by
    intro H' e1 e2 e3
    refine K H' _ (hH.upd ha ?_ e2 e3)
    rw [hsl] at e1
    exact ⟨_, hc, t_OB.to (V := updV (vp_V fs) k v) ⟨_, e1, q2, q3, t_set q4 hap hk v⟩ (fun j _ => vp_updV_set hl0 v j)⟩
  unfold u_lay at hlay
  rcases hlink with ⟨rfl, hoC, hlink⟩ | ⟨rfl, hlink⟩
  · rw [if_pos hfin] at hlay
    have hcf : m.cls = cf := by
      obtain ⟨_, _, c', _, _, _, -, -, hf', -, -, -, hown2, -⟩ := Cond.laysFinal_spec hlay
      have e1 : c' = cf := by have := hi.symm.trans hf'; simp at this; exact this.1.symm
      rw [hC, ← hoC] at hown2
      rw [← e1]; exact Option.some.inj (hown.symm.trans hown2)
    have h6 := u_fits hfc hkC hkind (Or.inr hlay) hi hpd hn hfit
    exact W.putFinK hx hb hown (hts _ hlink) hi2 hst hcf (hin2 (hini rfl)) (by rw [q2]; exact h6) q1 q3 (by rw [hsl]; exact k2_hasslot (q4 k hk)) rfl rfl hd done
  · rw [if_neg (by rw [hfin]; decide)] at hlay
    have h6 := u_store hfc hkC hkind hlay hi hpd hn hfit
    rcases hlink with hlink | ⟨host, hlink⟩
    · exact W.putK hx hb (f := f) ⟨hown, hts _ hlink, ⟨_, _, _, hi2⟩, hst⟩ (by rw [q2]; exact h6) q1 q3 (by rw [hsl]; exact k2_hasslot (q4 k hk)) rfl rfl hd done
    · exact va_WputK hx hb (f := f) hown (hts _ hlink) hi2 hst (by rw [q2]; exact h6) q1 q3 (by rw [hsl]; exact k2_hasslot (q4 k hk)) rfl rfl hd done
theorem V_iald (pc : Nat) {a n : Nat} {f : Nat → Int32} {i : Int32} (hd : decode cc pc = .ok (.iaload, 1)) (ha : h a = some (aI G n f)) (hin : vp_in i n) (kk : V l G own cc nL rt ini d kc ks Post (pc + 1) lv (.int (f i.toNatClampNeg) :: st) h sz) : V l G own cc nL rt ini d kc ks Post pc lv (.int i :: .ref a :: st) h sz := by
  intro p e R s m args below meth c A B H locs cells slots ls hH hl h1 h2
  exact va_iald B.1 B.2.1 B.2.2.2.2.2.1 (hH.1.one ha) 0 0 rfl rfl hin hd (kk p e R s m args below meth c A B H locs cells slots ls hH hl h1 h2)
theorem V_lald (pc : Nat) {a n : Nat} {f : Nat → Int64} {i : Int32} (hd : decode cc pc = .ok (.laload, 1)) (ha : h a = some (aJ G n f)) (hin : vp_in i n) (kk : V l G own cc nL rt ini d kc ks Post (pc + 1) lv (.long (f i.toNatClampNeg) :: st) h sz) : V l G own cc nL rt ini d kc ks Post pc lv (.int i :: .ref a :: st) h sz := by
  intro p e R s m args below meth c A B H locs cells slots ls hH hl h1 h2
  exact va_lald B.1 B.2.1 B.2.2.2.2.2.1 (hH.1.one ha) 0 1 rfl rfl hin hd (kk p e R s m args below meth c A B H locs cells slots ls hH hl h1 h2)
theorem V_aald (pc : Nat) {a n : Nat} {f : Nat → Option Nat} {i : Int32} (hd : decode cc pc = .ok (.aaload, 1)) (ha : h a = some (aR G n f)) (hin : vp_in i n) (kk : V l G own cc nL rt ini d kc ks Post (pc + 1) lv (va_rf (f i.toNatClampNeg) :: st) h sz) : V l G own cc nL rt ini d kc ks Post pc lv (.int i :: .ref a :: st) h sz := by
  intro p e R s m args below meth c A B H locs cells slots ls hH hl h1 h2
  exact va_aldq (C := RX0) B.1 B.2.1 B.2.2.2.2.2.1 (hH.1.one ha) 0 2 rfl rfl hin hd (kk p e R s m args below meth c A B H locs cells slots ls hH hl h1 h2)
theorem V_alenI (pc : Nat) {a n : Nat} {f : Nat → Int32} (v : Int32) (hd : decode cc pc = .ok (.arraylength, 1)) (ha : h a = some (aI G n f)) (hv : Int32.ofNat n = v) (kk : V l G own cc nL rt ini d kc ks Post (pc + 1) lv (.int v :: st) h sz) : V l G own cc nL rt ini d kc ks Post pc lv (.ref a :: st) h sz := by
  intro p e R s m args below meth c A B H locs cells slots ls hH hl h1 h2
  exact va_alen (ty := .int) B.1 B.2.1 B.2.2.2.2.2.1 (hH.1.one ha) 0 0 rfl rfl hv hd (kk p e R s m args below meth c A B H locs cells slots ls hH hl h1 h2)
theorem V_alenJ (pc : Nat) {a n : Nat} {f : Nat → Int64} (v : Int32) (hd : decode cc pc = .ok (.arraylength, 1)) (ha : h a = some (aJ G n f)) (hv : Int32.ofNat n = v) (kk : V l G own cc nL rt ini d kc ks Post (pc + 1) lv (.int v :: st) h sz) : V l G own cc nL rt ini d kc ks Post pc lv (.ref a :: st) h sz := by
  intro p e R s m args below meth c A B H locs cells slots ls hH hl h1 h2
  exact va_alen (ty := .long) B.1 B.2.1 B.2.2.2.2.2.1 (hH.1.one ha) 0 1 rfl rfl hv hd (kk p e R s m args below meth c A B H locs cells slots ls hH hl h1 h2)
theorem V_iast (pc : Nat) {a n : Nat} {f : Nat → Int32} {i x : Int32} (hd : decode cc pc = .ok (.iastore, 1)) (ha : h a = some (aI G n f)) (hin : vp_in i n) (kk : V l G own cc nL rt ini d kc ks Post (pc + 1) lv st (hpS h a (aI G n (upd f i.toNatClampNeg x))) sz) : V l G own cc nL rt ini d kc ks Post pc lv (.int x :: .int i :: .ref a :: st) h sz := by
  intro p e R s m args below meth c A B H locs cells slots ls hH hl h1 h2
  have hK := B.2.2.2.2.2.1
  refine W.iast B.1 B.2.1 (hH.1 a _ ha) ((hK.2 0 _ rfl).1 n (fun j => .int (f j))) (fun q => by cases q) (by show ¬ (i < 0 ∨ (arrV _ _ _).slots.size ≤ _); rw [arrV_size]; exact hin) rfl rfl hd fun H1 e1 z oq => ?_
  refine kk p e R s m args below meth c A B H1 _ cells slots ls (hH.upd ha ?_ z oq) hl h1 h2
  show H1[a]? = some (vp_cell _ _)
  rw [e1, vp_cell_i, vp_cell_i, arrV_store]
  congr 2
  funext q
  by_cases hq : q = i.toNatClampNeg <;> simp [updV, upd, hq]
theorem V_last (pc : Nat) {a n : Nat} {f : Nat → Int64} {i : Int32} {x : Int64} (hd : decode cc pc = .ok (.lastore, 1)) (ha : h a = some (aJ G n f)) (hin : vp_in i n) (kk : V l G own cc nL rt ini d kc ks Post (pc + 1) lv st (hpS h a (aJ G n (vp_updL f i.toNatClampNeg x))) sz) : V l G own cc nL rt ini d kc ks Post pc lv (.long x :: .int i :: .ref a :: st) h sz := by
  intro p e R s m args below meth c A B H locs cells slots ls hH hl h1 h2
  have hK := B.2.2.2.2.2.1
  refine W.last B.1 B.2.1 (hH.1 a _ ha) ((hK.2 1 _ rfl).1 n (fun j => .long (f j))) (fun q => by cases q) (by show ¬ (i < 0 ∨ (arrV _ _ _).slots.size ≤ _); rw [arrV_size]; exact hin) rfl rfl hd fun H1 e1 z oq => ?_
  refine kk p e R s m args below meth c A B H1 _ cells slots ls (hH.upd ha ?_ z oq) hl h1 h2
  show H1[a]? = some (vp_cell _ _)
  rw [e1, vp_cell_l, vp_cell_l, arrV_store]
  congr 2
  funext q
  by_cases hq : q = i.toNatClampNeg <;> simp [updV, vp_updL, hq]
theorem V_aast (pc : Nat) {a n v : Nat} {f : Nat → Option Nat} {i : Int32} {vs : List Value} (hd : decode cc pc = .ok (.aastore, 1)) (ha : h a = some (aR G n f)) (hv : h v = some (ob 0 vs)) (hin : vp_in i n) (kk : V l G own cc nL rt ini d kc ks Post (pc + 1) lv st (hpS h a (aR G n (va_up f i.toNatClampNeg (some v)))) sz) : V l G own cc nL rt ini d kc ks Post pc lv (.ref v :: .int i :: .ref a :: st) h sz := by
  intro p e R s m args below meth c A B H locs cells slots ls hH hl h1 h2
  have hK := B.2.2.2.2.2.1
  have hlt : i.toNatClampNeg < n := Nat.not_le.mp fun q => hin (Or.inr q)
  have h0 : ¬ i < 0 := fun q => hin (Or.inl q)
  obtain ⟨r', hr', cellV, g1, g2, g3, -⟩ := hH.1 v _ hv
  have hcls := (hK.1 0 (RX0, TX0, 8) rfl).2
  obtain ⟨kA, comp, k1, k2, k3, -⟩ := (hK.2 2 _ rfl).2
  have hcomp : comp = G.1.1 0 := Option.some.inj (k3.symm.trans hcls.1)
  subst hcomp
  have hkC := hcls.2
  obtain ⟨kC, hkC, -⟩ := hkC
  refine W.aast B.1 B.2.1 (hH.1 a _ ha) (fun q h => by cases h) (fun h => by cases h) k1 k2 rfl hkC ⟨h0, by show _ < (arrV _ _ _).slots.size; rw [arrV_size]; exact hlt⟩ g1 (fun q h => by rw [g3] at h; cases h) (by rw [g2]; exact hkC) (by rw [g2]; exact va_assign hcls) rfl rfl hd fun H1 e1 z oq => ?_
  refine kk p e R s m args below meth c A B H1 _ cells slots ls (hH.upd ha ?_ z oq) hl h1 h2
  show H1[a]? = some (vp_cell _ _)
  rw [e1, vp_cell_q, vp_cell_q, arrV_store]
  congr 2
  funext q
  by_cases hq : q = i.toNatClampNeg
  · subst hq
    simp [updV, va_up, va_rf]
  · simp [updV, va_up, hq]
end VH
