def WR (G : zGT) (h0 h : hpT) (r : Nat) (Q : RG) : Prop := RA G h r Q ∧ Fr r 3 h0 h
def anR (Q : RG) (x : Int32) : RG := if Q.1 < 6 then (Q.1 + 1, upd Q.2.1 Q.1 x, Q.2.2) else Q
def slR (Q : RG) (x : Int32) : RG := if 1 ≤ Q.1 then (Q.1, Q.2.1, upd Q.2.2 (Q.1 - 1) x) else Q
/-- the text: length, bytes, fault, start and end of the token -/
abbrev TX : Type := Nat × (Nat → Int32) × Int32 × Nat × Nat
def fT (t : Nat) (X : TX) : List Value := [.ref (t + 1), .int (nI X.1), .int X.2.2.1, .int (nI X.2.2.2.1), .int (nI X.2.2.2.2)]
def TA (G : zGT) (h : hpT) (t : Nat) (X : TX) : Prop := h t = some (ob 4 (fT t X)) ∧ h (t + 1) = some (aI G 40 X.2.1) ∧ X.1 ≤ 40 ∧ X.2.2.2.1 ≤ 40 ∧ X.2.2.2.2 ≤ 40
def Fr2 (t r : Nat) (h0 h : hpT) : Prop := ∀ a, ¬ (t ≤ a ∧ a < t + 2) → ¬ (r ≤ a ∧ a < r + 3) → h a = h0 a
/-- the text, and a ring that is written from it -/
def WT (G : zGT) (h0 h : hpT) (t r : Nat) (X : TX) (Q : RG) : Prop := TA G h t X ∧ RA G h r Q ∧ Fr2 t r h0 h ∧ (t + 2 ≤ r ∨ r + 3 ≤ t)
section M19a
variable {G : zGT} {h0 h : hpT} {t r : Nat} {X : TX} {Q : RG}
theorem WR.sN (hR : WR G h0 h r Q) {x : Int32} (n : Nat) (hx : x = nI n) (hn : n ≤ 6) : WR G h0 (hpS h r (ob 3 ((fR r Q).set 0 (.int x)))) r (n, Q.2) := by
  subst hx
  obtain ⟨⟨e1, e2, e3, e4, e5⟩, hF⟩ := hR
  exact ⟨⟨hpS_self _ _ _, by rw [hpS_ne _ _ (by omega)]; exact e2, by rw [hpS_ne _ _ (by omega)]; exact e3, hn, e5⟩, hF.set _ (by omega) (by omega)⟩
theorem WR.sA (hR : WR G h0 h r Q) {f : Nat → Int32} (hz : zb 6 f) : WR G h0 (hpS h (r + 1) (aI G 6 f)) r (Q.1, f, Q.2.2) := by
  obtain ⟨⟨e1, e2, e3, e4, e5, e6⟩, hF⟩ := hR
  exact ⟨⟨by rw [hpS_ne _ _ (by omega)]; exact e1, hpS_self _ _ _, by rw [hpS_ne _ _ (by omega)]; exact e3, e4, hz, e6⟩, hF.set _ (by omega) (by omega)⟩
theorem WR.sB (hR : WR G h0 h r Q) {f : Nat → Int32} (hz : zb 6 f) : WR G h0 (hpS h (r + 2) (aI G 6 f)) r (Q.1, Q.2.1, f) := by
  obtain ⟨⟨e1, e2, e3, e4, e5, e6⟩, hF⟩ := hR
  exact ⟨⟨by rw [hpS_ne _ _ (by omega)]; exact e1, by rw [hpS_ne _ _ (by omega)]; exact e2, hpS_self _ _ _, e4, e5, hz⟩, hF.set _ (by omega) (by omega)⟩
theorem WT.ring (hT : WT G h0 h t r X Q) {h1 : hpT} {Q1 : RG} (hR : WR G h h1 r Q1) : WT G h0 h1 t r X Q1 := by
  obtain ⟨⟨e1, e2, e3⟩, e4, hF, hd⟩ := hT
  exact ⟨⟨by rw [hR.2 _ (by omega)]; exact e1, by rw [hR.2 _ (by omega)]; exact e2, e3⟩, hR.1, fun a ha hb => by rw [hR.2 a hb]; exact hF a ha hb, hd⟩
theorem WT.sO (hT : WT G h0 h t r X Q) {X1 : TX} {fs : List Value} (hfs : fs = fT t X1) (hb : X1.2.1 = X.2.1) (h1 : X1.1 ≤ 40) (h2 : X1.2.2.2.1 ≤ 40) (h3 : X1.2.2.2.2 ≤ 40) : WT G h0 (hpS h t (ob 4 fs)) t r X1 Q := by
  obtain ⟨⟨e1, e2, e3⟩, e4, hF, hd⟩ := hT
  subst hfs
  refine ⟨⟨hpS_self _ _ _, by rw [hpS_ne _ _ (by omega), hb]; exact e2, h1, h2, h3⟩, e4.fr (Fr1 _ _ _) (by omega), fun a ha hb => ?_, hd⟩
  rw [hpS_ne _ _ (fun q => ha (by omega))]
  exact hF a ha hb
theorem WT.sB (hT : WT G h0 h t r X Q) (f : Nat → Int32) : WT G h0 (hpS h (t + 1) (aI G 40 f)) t r (X.1, f, X.2.2) Q := by
  obtain ⟨⟨e1, e2, e3⟩, e4, hF, hd⟩ := hT
  refine ⟨⟨by rw [hpS_ne _ _ (by omega)]; exact e1, hpS_self _ _ _, e3⟩, e4.fr (Fr1 _ _ _) (by omega), fun a ha hb => ?_, hd⟩
  rw [hpS_ne _ _ (fun q => ha (by omega))]
  exact hF a ha hb
variable {l : Launch} {own : String} {cc : ByteArray} {nL : Nat} {rt : Option FieldType} {ini : Bool} {d kc ks : Nat} {Post : Option Value → hpT → Nat → Prop} {lv : List (Option Value)} {st : List Value} {sz : Nat}
theorem V_putRN (pc : Nat) {idx : Nat} {x : Int32} (n : Nat) (hx : x = nI n) (hn : n ≤ 6) (hd : decode cc pc = .ok (.putfield idx, 3)) (hf : zFp own idx 3 0 .int false) (hR : WR G h0 h r Q) (kk : ∀ h, WR G h0 h r (n, Q.2) → V l G own cc nL rt ini d kc ks Post (pc + 3) lv st h sz) : V l G own cc nL rt ini d kc ks Post pc lv (.int x :: .ref r :: st) h sz := V_put pc hd hf (fun q => by cases q) hR.1.1 rfl rfl (Nat.le_of_ble_eq_true rfl) (kk _ (hR.sN n hx hn))
theorem V_putT1 (pc : Nat) {idx : Nat} {x : Int32} (n : Nat) (hx : x = nI n) (hn : n ≤ 40) (hd : decode cc pc = .ok (.putfield idx, 3)) (hf : zFp own idx 4 1 .int false) (hT : WT G h0 h t r X Q) (kk : ∀ h, WT G h0 h t r (n, X.2) Q → V l G own cc nL rt ini d kc ks Post (pc + 3) lv st h sz) : V l G own cc nL rt ini d kc ks Post pc lv (.int x :: .ref t :: st) h sz := V_put pc hd hf (fun q => by cases q) hT.1.1 rfl rfl (Nat.le_of_ble_eq_true rfl) (kk _ (hT.sO (X1 := (n, X.2)) (by rw [hx]; rfl) rfl hn hT.1.2.2.2.1 hT.1.2.2.2.2))
theorem V_putT2 (pc : Nat) {idx : Nat} {x : Int32} (hd : decode cc pc = .ok (.putfield idx, 3)) (hf : zFp own idx 4 2 .int false) (hT : WT G h0 h t r X Q) (kk : ∀ h, WT G h0 h t r (X.1, X.2.1, x, X.2.2.2) Q → V l G own cc nL rt ini d kc ks Post (pc + 3) lv st h sz) : V l G own cc nL rt ini d kc ks Post pc lv (.int x :: .ref t :: st) h sz := V_put pc hd hf (fun q => by cases q) hT.1.1 rfl rfl (Nat.le_of_ble_eq_true rfl) (kk _ (hT.sO (X1 := (X.1, X.2.1, x, X.2.2.2)) rfl rfl hT.1.2.2.1 hT.1.2.2.2.1 hT.1.2.2.2.2))
theorem V_putT3 (pc : Nat) {idx : Nat} {x : Int32} (n : Nat) (hx : x = nI n) (hn : n ≤ 40) (hd : decode cc pc = .ok (.putfield idx, 3)) (hf : zFp own idx 4 3 .int false) (hT : WT G h0 h t r X Q) (kk : ∀ h, WT G h0 h t r (X.1, X.2.1, X.2.2.1, n, X.2.2.2.2) Q → V l G own cc nL rt ini d kc ks Post (pc + 3) lv st h sz) : V l G own cc nL rt ini d kc ks Post pc lv (.int x :: .ref t :: st) h sz := V_put pc hd hf (fun q => by cases q) hT.1.1 rfl rfl (Nat.le_of_ble_eq_true rfl) (kk _ (hT.sO (X1 := (X.1, X.2.1, X.2.2.1, n, X.2.2.2.2)) (by rw [hx]; rfl) rfl hT.1.2.2.1 hn hT.1.2.2.2.2))
theorem V_putT4 (pc : Nat) {idx : Nat} {x : Int32} (n : Nat) (hx : x = nI n) (hn : n ≤ 40) (hd : decode cc pc = .ok (.putfield idx, 3)) (hf : zFp own idx 4 4 .int false) (hT : WT G h0 h t r X Q) (kk : ∀ h, WT G h0 h t r (X.1, X.2.1, X.2.2.1, X.2.2.2.1, n) Q → V l G own cc nL rt ini d kc ks Post (pc + 3) lv st h sz) : V l G own cc nL rt ini d kc ks Post pc lv (.int x :: .ref t :: st) h sz := V_put pc hd hf (fun q => by cases q) hT.1.1 rfl rfl (Nat.le_of_ble_eq_true rfl) (kk _ (hT.sO (X1 := (X.1, X.2.1, X.2.2.1, X.2.2.2.1, n)) (by rw [hx]; rfl) rfl hT.1.2.2.1 hT.1.2.2.2.1 hn))
theorem V_lvw {pc : Nat} {lv' : List (Option Value)} (hg : ∀ i v, zget lv' i = some v → zget lv i = some v) (k : V l G own cc nL rt ini d kc ks Post pc lv' st h sz) : V l G own cc nL rt ini d kc ks Post pc lv st h sz := fun p e R s m args below meth c A B H locs cells slots ls hH hl h1 h2 => k p e R s m args below meth c A B H locs cells slots ls hH ⟨hl.1, hl.2.1, fun i v hi => hl.2.2 i v (hg i v hi)⟩ h1 h2
theorem zget_pad : ∀ (lv : List (Option Value)) (i : Nat) (v : Value), zget (lv ++ [none]) i = some v → zget lv i = some v
  | [], 0, v, h => by simp [zget] at h
  | [], i + 1, v, h => by simp [zget] at h
  | a :: t, 0, v, h => h
  | a :: t, i + 1, v, h => zget_pad t i v h
end M19a
def btX (X : TX) (x : Int32) : Int32 := if inb x 40 = true then X.2.1 x.toNatClampNeg else -1
theorem btX_nI (X : TX) {i : Nat} (hi : i < 40) : btX X (nI i) = X.2.1 i := by
  unfold btX
  rw [if_pos (inb_nI hi (by decide)), nI_clamp (by omega)]
def dgB (x : Int32) : Bool := decide (48 ≤ x) && decide (x ≤ 57)
def skB (X : TX) (j i : Nat) : Bool := decide (j ≤ i) && !decide (X.2.1 i = 32)
def ndB (X : TX) (j i : Nat) : Bool := decide (j ≤ i) && !dgB (X.2.1 i)
def tkA (X : TX) : Nat := fiN (skB X X.2.2.2.2) X.1
def tkB (X : TX) : Nat := fiN (ndB X (tkA X)) X.1
def ftX (X : TX) : TX := (X.1, X.2.1, X.2.2.1, tkA X, if tkB X = tkA X ∧ tkA X < X.1 then tkA X + 1 else tkB X)
def tvN (X : TX) : Nat → Int32
  | 0 => 0
  | k + 1 => tvN X k * 10 + X.2.1 (X.2.2.2.1 + k) - 48
def tvX (X : TX) : Int32 := tvN X (X.2.2.2.2 - X.2.2.2.1)
def hasN (Q : RG) (x : Int32) : Bool := decide (fiN (fun i => decide (Q.2.1 i = x)) Q.1 < Q.1)
def foF (X : TX) (Q : RG) : Int32 := if 2 < X.2.2.2.2 - X.2.2.2.1 then 2 else if tvX X = 0 then 2 else if hasN Q (tvX X) = true then 2 else if 6 ≤ Q.1 then 3 else 0
def foT (X : TX) (Q : RG) (nx : Nat) : Int32 := if nx = 0 then (if dgB (X.2.1 X.2.2.2.1) = true then foF X Q else 1) else if nx = 1 then (if X.2.1 X.2.2.2.1 = 114 then 0 else if X.2.1 X.2.2.2.1 = 98 then 0 else 1) else (if X.2.1 X.2.2.2.1 = 59 then 0 else 1)
def taT (X : TX) (Q : RG) (nx : Nat) : RG := if nx = 0 then anR Q (tvX X) else if nx = 1 then slR Q (if X.2.1 X.2.2.2.1 = 98 then 1 else 0) else Q
def fX' (X : TX) (f : Int32) : TX := (X.1, X.2.1, f, X.2.2.2)
def rdE : Nat → Nat → TX → RG → Int32 × TX × RG
  | 0, _, X, Q => (-1, X, Q)
  | m + 1, nx, X, Q => if X.1 ≤ tkA X then (if nx = 0 ∧ 2 ≤ Q.1 then (-1, fX' (ftX X) 0, Q) else (nI (tkA X), fX' (ftX X) 1, Q))
      else if foT (ftX X) Q nx = 0 then rdE m (if nx = 2 then 0 else nx + 1) (fX' (ftX X) 0) (taT (fX' (ftX X) 0) Q nx) else (nI (tkA X), fX' (ftX X) (foT (ftX X) Q nx), Q)
theorem fiN_from {p : Nat → Bool} {j n : Nat} (hj : j ≤ n) (hb : ∀ i, i < j → ¬ p i = true) : j ≤ fiN p n := by
  by_cases h : fiN p n < n
  · rcases Nat.lt_or_ge (fiN p n) j with q | q
    · exact absurd (fiN_lt h).1 (hb _ q)
    · exact q
  · have := fiN_le p n
    omega
theorem tkA_ge (X : TX) (h : X.2.2.2.2 ≤ X.1) : X.2.2.2.2 ≤ tkA X := fiN_from h (fun i hi q => by have := (Bool.and_eq_true_iff.mp q).1; simp at this; omega)
theorem tkB_ge (X : TX) : tkA X ≤ tkB X := fiN_from (fiN_le _ _) (fun i hi q => by have := (Bool.and_eq_true_iff.mp q).1; simp at this; omega)
section M19
variable {l : Launch} {G : zGT} {h h0 : hpT} {sz : Nat} {Post : Option Value → hpT → Nat → Prop} {t r : Nat} {Q : RG} {X : TX}
set_option maxHeartbeats 1000000 in
set_option maxRecDepth 100000 in
theorem c_X3_addName (hR : WR G h0 h r Q) {x : Int32} (k : ∀ h, WR G h0 h r (anR Q x) → Post none h sz) : Cn l G yX3_addName cX3_addName 2 none 0 0 0 [.ref r, .int x] h sz Post := by
  refine Cn.of RX3 false (by decide) rfl (fun q => by cases q) (Nat.le_of_ble_eq_true rfl) ?_
  have hn := hR.1.2.2.2.1
  refine V_aload_n 0 dX3_addName_0 rfl ?_
  refine V_get 1 dX3_addName_1 fdX3_9 (by first | exact hR.1.1 | exact hR.1.2.1 | exact hR.1.2.2.1) rfl ?_
  refine V_if_lt 4 36 dX3_addName_4 rfl (fun c_4 => ?_) (fun c_4 => ?_)
  · exact absurd c_4 (nI_pos (by omega)) --end
  · refine V_aload_n 7 dX3_addName_7 rfl ?_
    refine V_get 8 dX3_addName_8 fdX3_9 (by first | exact hR.1.1 | exact hR.1.2.1 | exact hR.1.2.2.1) rfl ?_
    refine V_bipushv 11 (6) dX3_addName_11 (by decide) ?_
    refine V_icmp_ge 13 36 dX3_addName_13 rfl (fun c_13 => ?_) (fun c_13 => ?_)
    · have e_13 : ¬ Q.1 < 6 := fun q => absurd ((nI_leI (a := 6) (by decide) (by omega)).mp c_13) (by omega)
      refine V_vret 36 dX3_addName_36 ?_
      unfold anR at k
      first | (rw [if_pos e_13] at k; exact k _ hR) | (rw [if_neg e_13] at k; exact k _ hR)
    · have e_13 : Q.1 < 6 := Nat.lt_of_not_le (fun q => c_13 (nI_le q (by omega)))
      refine V_aload_n 16 dX3_addName_16 rfl ?_
      refine V_get 17 dX3_addName_17 fdX3_15 (by first | exact hR.1.1 | exact hR.1.2.1 | exact hR.1.2.2.1) rfl ?_
      refine V_aload_n 20 dX3_addName_20 rfl ?_
      refine V_get 21 dX3_addName_21 fdX3_9 (by first | exact hR.1.1 | exact hR.1.2.1 | exact hR.1.2.2.1) rfl ?_
      refine V_iload_n 24 dX3_addName_24 rfl ?_
      refine V_iast 25 dX3_addName_25 hR.1.2.1 (vp_in_nI e_13 (by decide)) ?_
      rw [nI_clamp (by omega)]
      replace hR := hR.sA (hR.1.2.2.2.2.1.upd (x := x) e_13)
      revert hR
      generalize hpS h (r + 1) _ = h
      intro hR
      refine V_aload_n 26 dX3_addName_26 rfl ?_
      refine V_dupr 27 dX3_addName_27 ?_
      refine V_get 28 dX3_addName_28 fdX3_9 (by first | exact hR.1.1 | exact hR.1.2.1 | exact hR.1.2.2.1) rfl ?_
      refine V_iconstv 31 (1) dX3_addName_31 (by decide) ?_
      refine V_iadd 32 dX3_addName_32 ?_
      refine V_putRN 33 (Q.1 + 1) (nI_1 Q.1) (by omega) dX3_addName_33 fpX3_9 hR (fun h hR => ?_)
      refine V_vret 36 dX3_addName_36 ?_
      unfold anR at k
      first | (rw [if_pos e_13] at k; exact k _ hR) | (rw [if_neg e_13] at k; exact k _ hR)
set_option maxHeartbeats 1000000 in
set_option maxRecDepth 100000 in
theorem c_X3_setLastSense (hR : WR G h0 h r Q) {x : Int32} (k : ∀ h, WR G h0 h r (slR Q x) → Post none h sz) : Cn l G yX3_setLastSense cX3_setLastSense 2 none 0 0 0 [.ref r, .int x] h sz Post := by
  refine Cn.of RX3 false (by decide) rfl (fun q => by cases q) (Nat.le_of_ble_eq_true rfl) ?_
  have hn := hR.1.2.2.2.1
  refine V_aload_n 0 dX3_setLastSense_0 rfl ?_
  refine V_get 1 dX3_setLastSense_1 fdX3_9 (by first | exact hR.1.1 | exact hR.1.2.1 | exact hR.1.2.2.1) rfl ?_
  refine V_iconstv 4 (1) dX3_setLastSense_4 (by decide) ?_
  refine V_icmp_lt 5 29 dX3_setLastSense_5 rfl (fun c_5 => ?_) (fun c_5 => ?_)
  · have e_5 : ¬ 1 ≤ Q.1 := fun q => absurd ((nI_ltI (b := 1) (by omega) (by decide)).mp c_5) (by omega)
    refine V_vret 29 dX3_setLastSense_29 ?_
    unfold slR at k
    first | (rw [if_pos e_5] at k; exact k _ hR) | (rw [if_neg e_5] at k; exact k _ hR)
  · have e_5 : 1 ≤ Q.1 := Nat.le_of_not_lt (fun q => c_5 (nI_lt (b := 1) q (by decide)))
    refine V_aload_n 8 dX3_setLastSense_8 rfl ?_
    refine V_get 9 dX3_setLastSense_9 fdX3_9 (by first | exact hR.1.1 | exact hR.1.2.1 | exact hR.1.2.2.1) rfl ?_
    refine V_bipushv 12 (6) dX3_setLastSense_12 (by decide) ?_
    refine V_icmp_gt 14 29 dX3_setLastSense_14 rfl (fun c_14 => ?_) (fun c_14 => ?_)
    · exact absurd ((nI_ltI (a := 6) (by decide) (by omega)).mp c_14) (by omega) --end
    · refine V_aload_n 17 dX3_setLastSense_17 rfl ?_
      refine V_get 18 dX3_setLastSense_18 fdX3_19 (by first | exact hR.1.1 | exact hR.1.2.1 | exact hR.1.2.2.1) rfl ?_
      refine V_aload_n 21 dX3_setLastSense_21 rfl ?_
      refine V_get 22 dX3_setLastSense_22 fdX3_9 (by first | exact hR.1.1 | exact hR.1.2.1 | exact hR.1.2.2.1) rfl ?_
      refine V_iconstv 25 (1) dX3_setLastSense_25 (by decide) ?_
      refine V_isub 26 dX3_setLastSense_26 ?_
      refine V_topi (nI (Q.1 - 1)) (pk_sub (a := Q.1) (b := 1) e_5) ?_
      refine V_iload_n 27 dX3_setLastSense_27 rfl ?_
      refine V_iast 28 dX3_setLastSense_28 hR.1.2.2.1 (vp_in_nI (by omega) (by decide)) ?_
      rw [nI_clamp (by omega)]
      replace hR := hR.sB (hR.1.2.2.2.2.2.upd (x := x) (j := Q.1 - 1) (by omega))
      revert hR
      generalize hpS h (r + 2) _ = h
      intro hR
      refine V_vret 29 dX3_setLastSense_29 ?_
      unfold slR at k
      first | (rw [if_pos e_5] at k; exact k _ hR) | (rw [if_neg e_5] at k; exact k _ hR)
set_option maxHeartbeats 1000000 in
set_option maxRecDepth 100000 in
theorem c_X4_append (hT : WT G h0 h t r X Q) {x : Int32} (k1 : X.1 < 40 → ∀ h, WT G h0 h t r (X.1 + 1, upd X.2.1 X.1 x, X.2.2) Q → Post (some (.int 1)) h sz) (k0 : ¬ X.1 < 40 → Post (some (.int 0)) h sz) : Cn l G yX4_append cX4_append 2 (some .boolean) 0 0 0 [.ref t, .int x] h sz Post := by
  refine Cn.of RX4 false (by decide) rfl (fun q => by cases q) (Nat.le_of_ble_eq_true rfl) ?_
  have hn := hT.1.2.2.1
  refine V_aload_n 0 dX4_append_0 rfl ?_
  refine V_get 1 dX4_append_1 fdX4_15 (by first | exact hT.1.1 | exact hT.1.2.1 | exact hT.2.1.1 | exact hT.2.1.2.1 | exact hT.2.1.2.2.1) rfl ?_
  refine V_if_lt 4 16 dX4_append_4 rfl (fun c_4 => ?_) (fun c_4 => ?_)
  · exact absurd c_4 (nI_pos (by omega)) --end
  · refine V_aload_n 7 dX4_append_7 rfl ?_
    refine V_get 8 dX4_append_8 fdX4_15 (by first | exact hT.1.1 | exact hT.1.2.1 | exact hT.2.1.1 | exact hT.2.1.2.1 | exact hT.2.1.2.2.1) rfl ?_
    refine V_bipushv 11 (40) dX4_append_11 (by decide) ?_
    refine V_icmp_lt 13 18 dX4_append_13 rfl (fun c_13 => ?_) (fun c_13 => ?_)
    · have e_13 : X.1 < 40 := (nI_ltI (b := 40) (by omega) (by decide)).mp c_13
      refine V_aload_n 18 dX4_append_18 rfl ?_
      refine V_get 19 dX4_append_19 fdX4_9 (by first | exact hT.1.1 | exact hT.1.2.1 | exact hT.2.1.1 | exact hT.2.1.2.1 | exact hT.2.1.2.2.1) rfl ?_
      refine V_aload_n 22 dX4_append_22 rfl ?_
      refine V_get 23 dX4_append_23 fdX4_15 (by first | exact hT.1.1 | exact hT.1.2.1 | exact hT.2.1.1 | exact hT.2.1.2.1 | exact hT.2.1.2.2.1) rfl ?_
      refine V_iload_n 26 dX4_append_26 rfl ?_
      refine V_iast 27 dX4_append_27 hT.1.2.1 (vp_in_nI e_13 (by decide)) ?_
      rw [nI_clamp (by omega)]
      replace hT := hT.sB (upd X.2.1 X.1 x)
      revert hT
      generalize hpS h (t + 1) _ = h
      intro hT
      refine V_aload_n 28 dX4_append_28 rfl ?_
      refine V_dupr 29 dX4_append_29 ?_
      refine V_get 30 dX4_append_30 fdX4_15 (by first | exact hT.1.1 | exact hT.1.2.1 | exact hT.2.1.1 | exact hT.2.1.2.1 | exact hT.2.1.2.2.1) rfl ?_
      refine V_iconstv 33 (1) dX4_append_33 (by decide) ?_
      refine V_iadd 34 dX4_append_34 ?_
      refine V_putT1 35 (X.1 + 1) (nI_1 X.1) (by omega) dX4_append_35 fpX4_15 hT (fun h hT => ?_)
      refine V_iconstv 38 (1) dX4_append_38 (by decide) ?_
      refine V_zret 39 dX4_append_39 (Or.inr rfl) ?_
      exact k1 e_13 _ hT
    · have e_13 : ¬ X.1 < 40 := fun q => c_13 (nI_lt (b := 40) q (by decide))
      refine V_iconstv 16 (0) dX4_append_16 (by decide) ?_
      refine V_zret 17 dX4_append_17 (Or.inl rfl) ?_
      exact k0 e_13
set_option maxHeartbeats 1000000 in
set_option maxRecDepth 100000 in
theorem c_X4_byteAt (hT : WT G h0 h t r X Q) {x : Int32} (k : Post (some (.int (btX X x))) h sz) : Cn l G yX4_byteAt cX4_byteAt 2 (some .int) 0 0 0 [.ref t, .int x] h sz Post := by
  refine Cn.of RX4 false (by decide) rfl (fun q => by cases q) (Nat.le_of_ble_eq_true rfl) ?_
  refine V_iload_n 0 dX4_byteAt_0 rfl ?_
  refine V_if_lt 1 19 dX4_byteAt_1 rfl (fun c_1 => ?_) (fun c_1 => ?_)
  · refine V_iconstv 19 (-1) dX4_byteAt_19 (by decide) ?_
    refine V_iret 20 dX4_byteAt_20 ?_
    unfold btX at k
    first | (rw [if_pos (inb_of (N := 40) (by decide) c_1 c_7)] at k; exact k) | (rw [inb_f1 c_1] at k; exact k) | (rw [inb_f2 (N := 40) (by decide) c_7] at k; exact k)
  · refine V_iload_n 4 dX4_byteAt_4 rfl ?_
    refine V_bipushv 5 (40) dX4_byteAt_5 (by decide) ?_
    refine V_icmp_ge 7 19 dX4_byteAt_7 rfl (fun c_7 => ?_) (fun c_7 => ?_)
    · refine V_iconstv 19 (-1) dX4_byteAt_19 (by decide) ?_
      refine V_iret 20 dX4_byteAt_20 ?_
      unfold btX at k
      first | (rw [if_pos (inb_of (N := 40) (by decide) c_1 c_7)] at k; exact k) | (rw [inb_f1 c_1] at k; exact k) | (rw [inb_f2 (N := 40) (by decide) c_7] at k; exact k)
    · refine V_aload_n 10 dX4_byteAt_10 rfl ?_
      refine V_get 11 dX4_byteAt_11 fdX4_9 (by first | exact hT.1.1 | exact hT.1.2.1 | exact hT.2.1.1 | exact hT.2.1.2.1 | exact hT.2.1.2.2.1) rfl ?_
      refine V_iload_n 14 dX4_byteAt_14 rfl ?_
      refine V_iald 15 dX4_byteAt_15 (by first | exact hT.1.1 | exact hT.1.2.1 | exact hT.2.1.1 | exact hT.2.1.2.1 | exact hT.2.1.2.2.1) (inb_in (inb_of (by decide) c_1 c_7)) ?_
      refine V_goto 16 20 dX4_byteAt_16 rfl ?_
      refine V_iret 20 dX4_byteAt_20 ?_
      unfold btX at k
      first | (rw [if_pos (inb_of (N := 40) (by decide) c_1 c_7)] at k; exact k) | (rw [inb_f1 c_1] at k; exact k) | (rw [inb_f2 (N := 40) (by decide) c_7] at k; exact k)
set_option maxHeartbeats 1000000 in
set_option maxRecDepth 100000 in
theorem c_X4_isDigit {x : Int32} (k1 : dgB x = true → Post (some (.int 1)) h sz) (k0 : dgB x = false → Post (some (.int 0)) h sz) : Cn l G yX4_isDigit cX4_isDigit 1 (some .boolean) 0 0 0 [.int x] h sz Post := by
  refine Cn.of RX4 false (by decide) rfl (fun q => by cases q) (Nat.le_of_ble_eq_true rfl) ?_
  refine V_iload_n 0 dX4_isDigit_0 rfl ?_
  refine V_bipushv 1 (48) dX4_isDigit_1 (by decide) ?_
  refine V_icmp_lt 3 16 dX4_isDigit_3 rfl (fun c_3 => ?_) (fun c_3 => ?_)
  · refine V_iconstv 16 (0) dX4_isDigit_16 (by decide) ?_
    refine V_zret 17 dX4_isDigit_17 (Or.inl rfl) ?_
    refine k0 (Bool.eq_false_iff.mpr (fun q => ?_))
    have q1 := (Bool.and_eq_true_iff.mp q)
    first | exact Int32.not_le.mpr c_3 (by simpa using q1.1) | exact Int32.not_le.mpr c_9 (by simpa using q1.2)
  · refine V_iload_n 6 dX4_isDigit_6 rfl ?_
    refine V_bipushv 7 (57) dX4_isDigit_7 (by decide) ?_
    refine V_icmp_gt 9 16 dX4_isDigit_9 rfl (fun c_9 => ?_) (fun c_9 => ?_)
    · refine V_iconstv 16 (0) dX4_isDigit_16 (by decide) ?_
      refine V_zret 17 dX4_isDigit_17 (Or.inl rfl) ?_
      refine k0 (Bool.eq_false_iff.mpr (fun q => ?_))
      have q1 := (Bool.and_eq_true_iff.mp q)
      first | exact Int32.not_le.mpr c_3 (by simpa using q1.1) | exact Int32.not_le.mpr c_9 (by simpa using q1.2)
    · refine V_iconstv 12 (1) dX4_isDigit_12 (by decide) ?_
      refine V_goto 13 17 dX4_isDigit_13 rfl ?_
      refine V_zret 17 dX4_isDigit_17 (Or.inr rfl) ?_
      exact k1 (by simp [dgB, Int32.not_lt.mp c_3, Int32.not_lt.mp c_9])
set_option maxHeartbeats 1000000 in
set_option maxRecDepth 100000 in
theorem lp_X4_findToken_2 (hX : X.2.2.2.1 = tkA X) (k : ∀ h, WT G h0 h t r (X.1, X.2.1, X.2.2.1, tkA X, tkB X) Q → V l G RX4 cX4_findToken 1 none false 1 0 0 Post 91 [some (.ref t)] [] h sz) : ∀ i, i ≤ X.1 → ∀ (h : hpT), tkA X ≤ i → (∀ q, q < i → ¬ ndB X (tkA X) q = true) → WT G h0 h t r (X.1, X.2.1, X.2.2.1, tkA X, i) Q → V l G RX4 cX4_findToken 1 none false 1 0 0 Post 53 [some (.ref t)] [] h sz := by
  refine up_ind X.1 (fun i hi ih h hge hinv hT => ?_)
  have hn : X.1 ≤ 40 := hT.1.2.2.1
  refine V_aload_n 53 dX4_findToken_53 rfl ?_
  refine V_get 54 dX4_findToken_54 fdX4_25 (by first | exact hT.1.1 | exact hT.1.2.1 | exact hT.2.1.1 | exact hT.2.1.2.1 | exact hT.2.1.2.2.1) rfl ?_
  refine V_aload_n 57 dX4_findToken_57 rfl ?_
  refine V_get 58 dX4_findToken_58 fdX4_15 (by first | exact hT.1.1 | exact hT.1.2.1 | exact hT.2.1.1 | exact hT.2.1.2.1 | exact hT.2.1.2.2.1) rfl ?_
  refine V_icmp_ge 61 91 dX4_findToken_61 rfl (fun c_61 => ?_) (fun c_61 => ?_)
  · have e_61 : i = X.1 := Nat.le_antisymm hi ((nI_leI (by omega) (by omega)).mp c_61)
    have e_k : i = tkB X := by unfold tkB; rw [fiN_none (fun j hj => hinv j (by omega))]; exact e_61
    first | exact k h (e_k ▸ hT)
  · have e_61 : i < X.1 := Nat.lt_of_not_le (fun q => c_61 (nI_le (a := X.1) (b := i) q (by omega)))
    refine V_aload_n 64 dX4_findToken_64 rfl ?_
    refine V_aload_n 65 dX4_findToken_65 rfl ?_
    refine V_get 66 dX4_findToken_66 fdX4_25 (by first | exact hT.1.1 | exact hT.1.2.1 | exact hT.2.1.1 | exact hT.2.1.2.1 | exact hT.2.1.2.2.1) rfl ?_
    refine V_iv1 69 dX4_findToken_69 kvX4_44 rfl (by first | exact hT.1.1 | exact hT.1.2.1 | exact hT.2.1.1 | exact hT.2.1.2.1 | exact hT.2.1.2.2.1) rfl rfl (c_X4_byteAt hT ?_)
    refine V_topi (X.2.1 i) (btX_nI (i := i) _ (by omega)) ?_
    refine V_is1 72 dX4_findToken_72 ksX4_48 rfl rfl (c_X4_isDigit (fun c_72 => ?_) (fun c_72 => ?_))
    · have e_p : ¬ ndB X (tkA X) i = true := fun q => by have := (Bool.and_eq_true_iff.mp q).2; rw [c_72] at this; cases this
      refine V_if_eq 75 91 dX4_findToken_75 rfl (fun q => absurd q (by decide)) (fun _ => ?_)
      refine V_aload_n 78 dX4_findToken_78 rfl ?_
      refine V_dupr 79 dX4_findToken_79 ?_
      refine V_get 80 dX4_findToken_80 fdX4_25 (by first | exact hT.1.1 | exact hT.1.2.1 | exact hT.2.1.1 | exact hT.2.1.2.1 | exact hT.2.1.2.2.1) rfl ?_
      refine V_iconstv 83 (1) dX4_findToken_83 (by decide) ?_
      refine V_iadd 84 dX4_findToken_84 ?_
      refine V_putT4 85 (i + 1) (nI_1 i) (by omega) dX4_findToken_85 fpX4_25 hT (fun h hT => ?_)
      refine V_goto 88 53 dX4_findToken_88 rfl ?_
      exact ih (i + 1) rfl (by omega) h (by omega) (fun j hj => by rcases Nat.lt_or_ge j i with q | q; exact hinv j q; exact (show j = i by omega) ▸ e_p) hT
    · have e_p : ndB X (tkA X) i = true := Bool.and_eq_true_iff.mpr ⟨by simpa using hge, by rw [c_72]; rfl⟩
      have e_k : i = tkB X := (fiN_some e_p hinv e_61).symm
      refine V_if_eq 75 91 dX4_findToken_75 rfl (fun _ => ?_) (fun q => absurd q (by decide))
      first | exact k h (e_k ▸ hT)
set_option maxHeartbeats 1000000 in
set_option maxRecDepth 100000 in
theorem lp_X4_findToken_1 (k : ∀ h, WT G h0 h t r (X.1, X.2.1, X.2.2.1, tkA X, X.2.2.2.2) Q → V l G RX4 cX4_findToken 1 none false 1 0 0 Post 45 [some (.ref t)] [] h sz) : ∀ i, i ≤ X.1 → ∀ (h : hpT), X.2.2.2.2 ≤ i → (∀ q, q < i → ¬ skB X X.2.2.2.2 q = true) → WT G h0 h t r (X.1, X.2.1, X.2.2.1, i, X.2.2.2.2) Q → V l G RX4 cX4_findToken 1 none false 1 0 0 Post 8 [some (.ref t)] [] h sz := by
  refine up_ind X.1 (fun i hi ih h hge hinv hT => ?_)
  have hn : X.1 ≤ 40 := hT.1.2.2.1
  refine V_aload_n 8 dX4_findToken_8 rfl ?_
  refine V_get 9 dX4_findToken_9 fdX4_22 (by first | exact hT.1.1 | exact hT.1.2.1 | exact hT.2.1.1 | exact hT.2.1.2.1 | exact hT.2.1.2.2.1) rfl ?_
  refine V_aload_n 12 dX4_findToken_12 rfl ?_
  refine V_get 13 dX4_findToken_13 fdX4_15 (by first | exact hT.1.1 | exact hT.1.2.1 | exact hT.2.1.1 | exact hT.2.1.2.1 | exact hT.2.1.2.2.1) rfl ?_
  refine V_icmp_ge 16 45 dX4_findToken_16 rfl (fun c_16 => ?_) (fun c_16 => ?_)
  · have e_16 : i = X.1 := Nat.le_antisymm hi ((nI_leI (by omega) (by omega)).mp c_16)
    have e_k : i = tkA X := by unfold tkA; rw [fiN_none (fun j hj => hinv j (by omega))]; exact e_16
    exact k h (e_k ▸ hT)
  · have e_16 : i < X.1 := Nat.lt_of_not_le (fun q => c_16 (nI_le (a := X.1) (b := i) q (by omega)))
    refine V_aload_n 19 dX4_findToken_19 rfl ?_
    refine V_aload_n 20 dX4_findToken_20 rfl ?_
    refine V_get 21 dX4_findToken_21 fdX4_22 (by first | exact hT.1.1 | exact hT.1.2.1 | exact hT.2.1.1 | exact hT.2.1.2.1 | exact hT.2.1.2.2.1) rfl ?_
    refine V_iv1 24 dX4_findToken_24 kvX4_44 rfl (by first | exact hT.1.1 | exact hT.1.2.1 | exact hT.2.1.1 | exact hT.2.1.2.1 | exact hT.2.1.2.2.1) rfl rfl (c_X4_byteAt hT ?_)
    refine V_topi (X.2.1 i) (btX_nI (i := i) _ (by omega)) ?_
    refine V_bipushv 27 (32) dX4_findToken_27 (by decide) ?_
    refine V_icmp_ne 29 45 dX4_findToken_29 rfl (fun c_29 => ?_) (fun c_29 => ?_)
    · have e_p : skB X X.2.2.2.2 i = true := Bool.and_eq_true_iff.mpr ⟨by simpa using hge, by simpa using c_29⟩
      have e_k : i = tkA X := (fiN_some e_p hinv e_16).symm
      exact k h (e_k ▸ hT)
    · have e_p : ¬ skB X X.2.2.2.2 i = true := fun q => by have := (Bool.and_eq_true_iff.mp q).2; simp [c_29] at this
      refine V_aload_n 32 dX4_findToken_32 rfl ?_
      refine V_dupr 33 dX4_findToken_33 ?_
      refine V_get 34 dX4_findToken_34 fdX4_22 (by first | exact hT.1.1 | exact hT.1.2.1 | exact hT.2.1.1 | exact hT.2.1.2.1 | exact hT.2.1.2.2.1) rfl ?_
      refine V_iconstv 37 (1) dX4_findToken_37 (by decide) ?_
      refine V_iadd 38 dX4_findToken_38 ?_
      refine V_putT3 39 (i + 1) (nI_1 i) (by omega) dX4_findToken_39 fpX4_22 hT (fun h hT => ?_)
      refine V_goto 42 8 dX4_findToken_42 rfl ?_
      exact ih (i + 1) rfl (by omega) h (by omega) (fun j hj => by rcases Nat.lt_or_ge j i with q | q; exact hinv j q; exact (show j = i by omega) ▸ e_p) hT
set_option maxHeartbeats 1000000 in
set_option maxRecDepth 100000 in
theorem c_X4_findToken (hT : WT G h0 h t r X Q) (hte : X.2.2.2.2 ≤ X.1) (k : ∀ h, WT G h0 h t r (ftX X) Q → Post none h sz) : Cn l G yX4_findToken cX4_findToken 1 none 1 0 0 [.ref t] h sz Post := by
  refine Cn.of RX4 false (by decide) rfl (fun q => by cases q) (Nat.le_of_ble_eq_true rfl) ?_
  have hn := hT.1.2.2.1
  refine V_aload_n 0 dX4_findToken_0 rfl ?_
  refine V_aload_n 1 dX4_findToken_1 rfl ?_
  refine V_get 2 dX4_findToken_2 fdX4_25 (by first | exact hT.1.1 | exact hT.1.2.1 | exact hT.2.1.1 | exact hT.2.1.2.1 | exact hT.2.1.2.2.1) rfl ?_
  refine V_putT3 5 X.2.2.2.2 rfl hT.1.2.2.2.2 dX4_findToken_5 fpX4_22 hT (fun h hT => ?_)
  refine lp_X4_findToken_1 (X := X) (fun h hT => ?_) X.2.2.2.2 hte h (Nat.le_refl _) (fun q hq w => by have := (Bool.and_eq_true_iff.mp w).1; simp at this; omega) hT
  refine V_aload_n 45 dX4_findToken_45 rfl ?_
  refine V_aload_n 46 dX4_findToken_46 rfl ?_
  refine V_get 47 dX4_findToken_47 fdX4_22 (by first | exact hT.1.1 | exact hT.1.2.1 | exact hT.2.1.1 | exact hT.2.1.2.1 | exact hT.2.1.2.2.1) rfl ?_
  refine V_putT4 50 (tkA X) rfl (by have := fiN_le (skB X X.2.2.2.2) X.1; unfold tkA; omega) dX4_findToken_50 fpX4_25 hT (fun h hT => ?_)
  refine lp_X4_findToken_2 (X := (X.1, X.2.1, X.2.2.1, tkA X, X.2.2.2.2)) rfl (fun h hT => ?_) (tkA X) (fiN_le _ _) h (Nat.le_refl _) (fun q hq w => by have := (Bool.and_eq_true_iff.mp w).1; simp at this; exact absurd this (by show ¬ tkA X ≤ q; omega)) hT
  have hb1 : tkA X ≤ X.1 := fiN_le (skB X X.2.2.2.2) X.1
  have hb2 : tkB X ≤ X.1 := fiN_le (ndB X (tkA X)) X.1
  refine V_aload_n 91 dX4_findToken_91 rfl ?_
  refine V_get 92 dX4_findToken_92 fdX4_25 (by first | exact hT.1.1 | exact hT.1.2.1 | exact hT.2.1.1 | exact hT.2.1.2.1 | exact hT.2.1.2.2.1) rfl ?_
  refine V_aload_n 95 dX4_findToken_95 rfl ?_
  refine V_get 96 dX4_findToken_96 fdX4_22 (by first | exact hT.1.1 | exact hT.1.2.1 | exact hT.2.1.1 | exact hT.2.1.2.1 | exact hT.2.1.2.2.1) rfl ?_
  refine V_icmp_ne 99 123 dX4_findToken_99 rfl (fun c_99 => ?_) (fun c_99 => ?_)
  · have e_99 : ¬ tkB X = tkA X := fun q => c_99 (congrArg nI q)
    refine V_vret 123 dX4_findToken_123 ?_
    unfold ftX at k
    first
      | (rw [if_neg (fun q => e_99 q.1)] at k; exact k _ hT)
      | (rw [if_neg (fun q => absurd ((nI_leI (a := X.1) (b := tkA X) (by omega) (by omega)).mp c_110) (by omega))] at k; exact k _ hT)
      | (have hT2 : WT G h0 h t r (X.1, X.2.1, X.2.2.1, tkA X, tkB X + 1) Q := hT
         rw [if_pos ⟨e_99, Nat.lt_of_not_le (fun q => c_110 (nI_le (a := X.1) (b := tkA X) q (by omega)))⟩] at k
         rw [e_99] at hT2
         exact k _ hT2)
  · have e_99 : tkB X = tkA X := (nI_eq (a := tkB X) (b := tkA X) (by omega) (by omega)).mp c_99
    refine V_aload_n 102 dX4_findToken_102 rfl ?_
    refine V_get 103 dX4_findToken_103 fdX4_22 (by first | exact hT.1.1 | exact hT.1.2.1 | exact hT.2.1.1 | exact hT.2.1.2.1 | exact hT.2.1.2.2.1) rfl ?_
    refine V_aload_n 106 dX4_findToken_106 rfl ?_
    refine V_get 107 dX4_findToken_107 fdX4_15 (by first | exact hT.1.1 | exact hT.1.2.1 | exact hT.2.1.1 | exact hT.2.1.2.1 | exact hT.2.1.2.2.1) rfl ?_
    refine V_icmp_ge 110 123 dX4_findToken_110 rfl (fun c_110 => ?_) (fun c_110 => ?_)
    · refine V_vret 123 dX4_findToken_123 ?_
      unfold ftX at k
      first
        | (rw [if_neg (fun q => e_99 q.1)] at k; exact k _ hT)
        | (rw [if_neg (fun q => absurd ((nI_leI (a := X.1) (b := tkA X) (by omega) (by omega)).mp c_110) (by omega))] at k; exact k _ hT)
        | (have hT2 : WT G h0 h t r (X.1, X.2.1, X.2.2.1, tkA X, tkB X + 1) Q := hT
           rw [if_pos ⟨e_99, Nat.lt_of_not_le (fun q => c_110 (nI_le (a := X.1) (b := tkA X) q (by omega)))⟩] at k
           rw [e_99] at hT2
           exact k _ hT2)
    · refine V_aload_n 113 dX4_findToken_113 rfl ?_
      refine V_dupr 114 dX4_findToken_114 ?_
      refine V_get 115 dX4_findToken_115 fdX4_25 (by first | exact hT.1.1 | exact hT.1.2.1 | exact hT.2.1.1 | exact hT.2.1.2.1 | exact hT.2.1.2.2.1) rfl ?_
      refine V_iconstv 118 (1) dX4_findToken_118 (by decide) ?_
      refine V_iadd 119 dX4_findToken_119 ?_
      refine V_putT4 120 (tkB X + 1) (nI_1 (tkB X)) (by have q : ¬ X.1 ≤ tkA X := fun q => c_110 (nI_le (a := X.1) (b := tkA X) q (by omega)); omega) dX4_findToken_120 fpX4_25 hT (fun h hT => ?_)
      refine V_vret 123 dX4_findToken_123 ?_
      unfold ftX at k
      first
        | (rw [if_neg (fun q => e_99 q.1)] at k; exact k _ hT)
        | (rw [if_neg (fun q => absurd ((nI_leI (a := X.1) (b := tkA X) (by omega) (by omega)).mp c_110) (by omega))] at k; exact k _ hT)
        | (have hT2 : WT G h0 h t r (X.1, X.2.1, X.2.2.1, tkA X, tkB X + 1) Q := hT
           rw [if_pos ⟨e_99, Nat.lt_of_not_le (fun q => c_110 (nI_le (a := X.1) (b := tkA X) q (by omega)))⟩] at k
           rw [e_99] at hT2
           exact k _ hT2)
set_option maxHeartbeats 1000000 in
set_option maxRecDepth 100000 in
theorem lp_X4_tokenValue (hT : WT G h0 h t r X Q) (hts : X.2.2.2.1 ≤ X.2.2.2.2) (k : Post (some (.int (tvX X))) h sz) : ∀ i, i ≤ X.2.2.2.2 - X.2.2.2.1 → V l G RX4 cX4_tokenValue 3 (some .int) false 1 0 0 Post 7 [some (.ref t), some (.int (tvN X i)), some (.int (nI (X.2.2.2.1 + i)))] [] h sz := by
  have hn := hT.1.2.2.2.2
  refine up_ind (X.2.2.2.2 - X.2.2.2.1) (fun i hi ih => ?_)
  refine V_iload_n 7 dX4_tokenValue_7 rfl ?_
  refine V_aload_n 8 dX4_tokenValue_8 rfl ?_
  refine V_get 9 dX4_tokenValue_9 fdX4_25 (by first | exact hT.1.1 | exact hT.1.2.1 | exact hT.2.1.1 | exact hT.2.1.2.1 | exact hT.2.1.2.2.1) rfl ?_
  refine V_icmp_ge 12 35 dX4_tokenValue_12 rfl (fun c_12 => ?_) (fun c_12 => ?_)
  · have e_12 : i = X.2.2.2.2 - X.2.2.2.1 := by
      have := (nI_leI (by omega) (by omega)).mp c_12
      omega
    subst e_12
    refine V_iload_n 35 dX4_tokenValue_35 rfl ?_
    refine V_iret 36 dX4_tokenValue_36 ?_
    exact k
  · have e_12 : X.2.2.2.1 + i < X.2.2.2.2 := Nat.lt_of_not_le (fun q => c_12 (nI_le q (by omega)))
    refine V_iload_n 15 dX4_tokenValue_15 rfl ?_
    refine V_bipushv 16 (10) dX4_tokenValue_16 (by decide) ?_
    refine V_imul 18 dX4_tokenValue_18 ?_
    refine V_aload_n 19 dX4_tokenValue_19 rfl ?_
    refine V_iload_n 20 dX4_tokenValue_20 rfl ?_
    refine V_iv1 21 dX4_tokenValue_21 kvX4_44 rfl (by first | exact hT.1.1 | exact hT.1.2.1 | exact hT.2.1.1 | exact hT.2.1.2.1 | exact hT.2.1.2.2.1) rfl rfl (c_X4_byteAt hT ?_)
    refine V_topi (X.2.1 (X.2.2.2.1 + i)) (btX_nI _ (by omega)) ?_
    refine V_iadd 24 dX4_tokenValue_24 ?_
    refine V_bipushv 25 (48) dX4_tokenValue_25 (by decide) ?_
    refine V_isub 27 dX4_tokenValue_27 ?_
    refine V_istore_n 28 dX4_tokenValue_28 rfl rfl ?_
    refine V_iinc 29 (nI (X.2.2.2.1 + (i + 1))) dX4_tokenValue_29 rfl (nI_inc _) rfl rfl ?_
    refine V_goto 32 7 dX4_tokenValue_32 rfl ?_
    exact ih (i + 1) rfl (by omega)
set_option maxHeartbeats 1000000 in
set_option maxRecDepth 100000 in
theorem c_X4_tokenValue (hT : WT G h0 h t r X Q) (hts : X.2.2.2.1 ≤ X.2.2.2.2) (k : Post (some (.int (tvX X))) h sz) : Cn l G yX4_tokenValue cX4_tokenValue 3 (some .int) 1 0 0 [.ref t] h sz Post := by
  refine Cn.of RX4 false (by decide) rfl (fun q => by cases q) (Nat.le_of_ble_eq_true rfl) ?_
  refine V_iconstv 0 (0) dX4_tokenValue_0 (by decide) ?_
  refine V_istore_n 1 dX4_tokenValue_1 rfl rfl ?_
  refine V_aload_n 2 dX4_tokenValue_2 rfl ?_
  refine V_get 3 dX4_tokenValue_3 fdX4_22 (by first | exact hT.1.1 | exact hT.1.2.1 | exact hT.2.1.1 | exact hT.2.1.2.1 | exact hT.2.1.2.2.1) rfl ?_
  refine V_istore_n 6 dX4_tokenValue_6 rfl rfl ?_
  exact lp_X4_tokenValue hT hts k 0 (Nat.zero_le _)
theorem hasN_iff (Q : RG) (x : Int32) : hasN Q x = true ↔ ∃ i, i < Q.1 ∧ Q.2.1 i = x := by
  unfold hasN
  constructor
  · intro q
    have h := of_decide_eq_true q
    exact ⟨_, h, by simpa using (fiN_lt h).1⟩
  · rintro ⟨i, hi, he⟩
    by_cases q : fiN (fun i => decide (Q.2.1 i = x)) Q.1 < Q.1
    · simpa using q
    · exact absurd (by simpa using he) (fiN_ge q i hi)
set_option maxHeartbeats 1000000 in
set_option maxRecDepth 100000 in
theorem c_X4_faultOfFigures (hT : WT G h0 h t r X Q) (hts : X.2.2.2.1 ≤ X.2.2.2.2) (k : Post (some (.int (foF X Q))) h sz) : Cn l G yX4_faultOfFigures cX4_faultOfFigures 2 (some .int) 2 0 0 [.ref t, .ref r] h sz Post := by
  refine Cn.of RX4 false (by decide) rfl (fun q => by cases q) (Nat.le_of_ble_eq_true rfl) ?_
  have hn := hT.1.2.2.2.2
  refine V_aload_n 0 dX4_faultOfFigures_0 rfl ?_
  refine V_get 1 dX4_faultOfFigures_1 fdX4_25 (by first | exact hT.1.1 | exact hT.1.2.1 | exact hT.2.1.1 | exact hT.2.1.2.1 | exact hT.2.1.2.2.1) rfl ?_
  refine V_aload_n 4 dX4_faultOfFigures_4 rfl ?_
  refine V_get 5 dX4_faultOfFigures_5 fdX4_22 (by first | exact hT.1.1 | exact hT.1.2.1 | exact hT.2.1.1 | exact hT.2.1.2.1 | exact hT.2.1.2.2.1) rfl ?_
  refine V_isub 8 dX4_faultOfFigures_8 ?_
  refine V_topi (nI (X.2.2.2.2 - X.2.2.2.1)) (pk_sub hts) ?_
  refine V_iconstv 9 (2) dX4_faultOfFigures_9 (by decide) ?_
  refine V_icmp_gt 10 31 dX4_faultOfFigures_10 rfl (fun c_10 => ?_) (fun c_10 => ?_)
  · have e_10 : 2 < X.2.2.2.2 - X.2.2.2.1 := (nI_ltI (a := 2) (by decide) (by omega)).mp c_10
    refine V_iconstv 31 (2) dX4_faultOfFigures_31 (by decide) ?_
    refine V_iret 32 dX4_faultOfFigures_32 ?_
    unfold foF at k
    first | (rw [if_pos e_10] at k; exact k) | (rw [if_neg e_10, if_pos c_17] at k; exact k) | (rw [if_neg e_10, if_neg c_17, if_pos e_25] at k; exact k) | (rw [if_neg e_10, if_neg c_17, if_neg e_25, if_pos c_34] at k; exact k) | (rw [if_neg e_10, if_neg c_17, if_neg e_25, if_neg c_34] at k; exact k)
  · have e_10 : ¬ 2 < X.2.2.2.2 - X.2.2.2.1 := fun q => c_10 (nI_lt (a := 2) q (by omega))
    refine V_aload_n 13 dX4_faultOfFigures_13 rfl ?_
    refine V_iv0 14 dX4_faultOfFigures_14 kvX4_56 rfl (by first | exact hT.1.1 | exact hT.1.2.1 | exact hT.2.1.1 | exact hT.2.1.2.1 | exact hT.2.1.2.2.1) rfl rfl (c_X4_tokenValue hT hts ?_)
    refine V_if_eq 17 31 dX4_faultOfFigures_17 rfl (fun c_17 => ?_) (fun c_17 => ?_)
    · refine V_iconstv 31 (2) dX4_faultOfFigures_31 (by decide) ?_
      refine V_iret 32 dX4_faultOfFigures_32 ?_
      unfold foF at k
      first | (rw [if_pos e_10] at k; exact k) | (rw [if_neg e_10, if_pos c_17] at k; exact k) | (rw [if_neg e_10, if_neg c_17, if_pos e_25] at k; exact k) | (rw [if_neg e_10, if_neg c_17, if_neg e_25, if_pos c_34] at k; exact k) | (rw [if_neg e_10, if_neg c_17, if_neg e_25, if_neg c_34] at k; exact k)
    · refine V_aload_n 20 dX4_faultOfFigures_20 rfl ?_
      refine V_aload_n 21 dX4_faultOfFigures_21 rfl ?_
      refine V_iv0 22 dX4_faultOfFigures_22 kvX4_56 rfl (by first | exact hT.1.1 | exact hT.1.2.1 | exact hT.2.1.1 | exact hT.2.1.2.1 | exact hT.2.1.2.2.1) rfl rfl (c_X4_tokenValue hT hts ?_)
      refine V_iv1 25 dX4_faultOfFigures_25 kvX4_60 rfl (by first | exact hT.1.1 | exact hT.1.2.1 | exact hT.2.1.1 | exact hT.2.1.2.1 | exact hT.2.1.2.2.1) rfl rfl (c_X3_hasName hT.2.1 (fun c_25 => ?_) (fun c_25 => ?_))
      · have e_25 : hasN Q (tvX X) = true := (hasN_iff Q _).mpr c_25
        refine V_if_eq 28 33 dX4_faultOfFigures_28 rfl (fun q => absurd q (by decide)) (fun _ => ?_)
        refine V_iconstv 31 (2) dX4_faultOfFigures_31 (by decide) ?_
        refine V_iret 32 dX4_faultOfFigures_32 ?_
        unfold foF at k
        first | (rw [if_pos e_10] at k; exact k) | (rw [if_neg e_10, if_pos c_17] at k; exact k) | (rw [if_neg e_10, if_neg c_17, if_pos e_25] at k; exact k) | (rw [if_neg e_10, if_neg c_17, if_neg e_25, if_pos c_34] at k; exact k) | (rw [if_neg e_10, if_neg c_17, if_neg e_25, if_neg c_34] at k; exact k)
      · have e_25 : ¬ hasN Q (tvX X) = true := fun q => by obtain ⟨i, hi, he⟩ := (hasN_iff Q _).mp q; exact c_25 i hi he
        refine V_if_eq 28 33 dX4_faultOfFigures_28 rfl (fun _ => ?_) (fun q => absurd q (by decide))
        refine V_aload_n 33 dX4_faultOfFigures_33 rfl ?_
        refine V_iv0 34 dX4_faultOfFigures_34 kvX4_63 rfl (by first | exact hT.1.1 | exact hT.1.2.1 | exact hT.2.1.1 | exact hT.2.1.2.1 | exact hT.2.1.2.2.1) rfl rfl (c_X3_isFull hT.2.1 (fun c_34 => ?_) (fun c_34 => ?_))
        · refine V_if_eq 37 44 dX4_faultOfFigures_37 rfl (fun q => absurd q (by decide)) (fun _ => ?_)
          refine V_iconstv 40 (3) dX4_faultOfFigures_40 (by decide) ?_
          refine V_goto 41 45 dX4_faultOfFigures_41 rfl ?_
          refine V_iret 45 dX4_faultOfFigures_45 ?_
          unfold foF at k
          first | (rw [if_pos e_10] at k; exact k) | (rw [if_neg e_10, if_pos c_17] at k; exact k) | (rw [if_neg e_10, if_neg c_17, if_pos e_25] at k; exact k) | (rw [if_neg e_10, if_neg c_17, if_neg e_25, if_pos c_34] at k; exact k) | (rw [if_neg e_10, if_neg c_17, if_neg e_25, if_neg c_34] at k; exact k)
        · refine V_if_eq 37 44 dX4_faultOfFigures_37 rfl (fun _ => ?_) (fun q => absurd q (by decide))
          refine V_iconstv 44 (0) dX4_faultOfFigures_44 (by decide) ?_
          refine V_iret 45 dX4_faultOfFigures_45 ?_
          unfold foF at k
          first | (rw [if_pos e_10] at k; exact k) | (rw [if_neg e_10, if_pos c_17] at k; exact k) | (rw [if_neg e_10, if_neg c_17, if_pos e_25] at k; exact k) | (rw [if_neg e_10, if_neg c_17, if_neg e_25, if_pos c_34] at k; exact k) | (rw [if_neg e_10, if_neg c_17, if_neg e_25, if_neg c_34] at k; exact k)
set_option maxHeartbeats 1000000 in
set_option maxRecDepth 100000 in
theorem c_X4_faultOfToken (hT : WT G h0 h t r X Q) (hts : X.2.2.2.1 ≤ X.2.2.2.2) (hts4 : X.2.2.2.1 < 40) (nx : Nat) (hnx : nx ≤ 2) (k : Post (some (.int (foT X Q nx))) h sz) : Cn l G yX4_faultOfToken cX4_faultOfToken 4 (some .int) 3 0 0 [.ref t, .int (nI nx), .ref r] h sz Post := by
  refine Cn.of RX4 false (by decide) rfl (fun q => by cases q) (Nat.le_of_ble_eq_true rfl) ?_
  refine V_aload_n 0 dX4_faultOfToken_0 rfl ?_
  refine V_aload_n 1 dX4_faultOfToken_1 rfl ?_
  refine V_get 2 dX4_faultOfToken_2 fdX4_22 (by first | exact hT.1.1 | exact hT.1.2.1 | exact hT.2.1.1 | exact hT.2.1.2.1 | exact hT.2.1.2.2.1) rfl ?_
  refine V_iv1 5 dX4_faultOfToken_5 kvX4_44 rfl (by first | exact hT.1.1 | exact hT.1.2.1 | exact hT.2.1.1 | exact hT.2.1.2.1 | exact hT.2.1.2.2.1) rfl rfl (c_X4_byteAt hT ?_)
  refine V_topi (X.2.1 X.2.2.2.1) (btX_nI _ hts4) ?_
  refine V_istore_n 8 dX4_faultOfToken_8 rfl rfl ?_
  refine V_iload_n 9 dX4_faultOfToken_9 rfl ?_
  by_cases n0 : nx = 0
  · subst n0
    refine V_lookup 10 36 dX4_faultOfToken_10 (by decide) (by rfl) rfl ?_
    refine V_iload_n 36 dX4_faultOfToken_36 rfl ?_
    refine V_is1 37 dX4_faultOfToken_37 ksX4_48 rfl rfl (c_X4_isDigit (fun c_37 => ?_) (fun c_37 => ?_))
    · refine V_if_eq 40 51 dX4_faultOfToken_40 rfl (fun q => absurd q (by decide)) (fun _ => ?_)
      refine V_aload_n 43 dX4_faultOfToken_43 rfl ?_
      refine V_aload_n 44 dX4_faultOfToken_44 rfl ?_
      refine V_iv1 45 dX4_faultOfToken_45 kvX4_52 rfl (by first | exact hT.1.1 | exact hT.1.2.1 | exact hT.2.1.1 | exact hT.2.1.2.1 | exact hT.2.1.2.2.1) rfl rfl (c_X4_faultOfFigures hT hts ?_)
      refine V_goto 48 52 dX4_faultOfToken_48 rfl ?_
      refine V_iret 52 dX4_faultOfToken_52 ?_
      unfold foT at k
      rw [if_pos rfl] at k
      first | (rw [if_pos c_37] at k; exact k) | (rw [if_neg (Bool.eq_false_iff.mp c_37)] at k; exact k)
    · refine V_if_eq 40 51 dX4_faultOfToken_40 rfl (fun _ => ?_) (fun q => absurd q (by decide))
      refine V_iconstv 51 (1) dX4_faultOfToken_51 (by decide) ?_
      refine V_iret 52 dX4_faultOfToken_52 ?_
      unfold foT at k
      rw [if_pos rfl] at k
      first | (rw [if_pos c_37] at k; exact k) | (rw [if_neg (Bool.eq_false_iff.mp c_37)] at k; exact k)
  by_cases n1 : nx = 1
  · subst n1
    refine V_lookup 10 53 dX4_faultOfToken_10 (by decide) (by rfl) rfl ?_
    refine V_iload_n 53 dX4_faultOfToken_53 rfl ?_
    refine V_bipushv 54 (114) dX4_faultOfToken_54 (by decide) ?_
    refine V_icmp_eq 56 65 dX4_faultOfToken_56 rfl (fun c_56 => ?_) (fun c_56 => ?_)
    · refine V_iconstv 65 (0) dX4_faultOfToken_65 (by decide) ?_
      refine V_goto 66 70 dX4_faultOfToken_66 rfl ?_
      refine V_iret 70 dX4_faultOfToken_70 ?_
      unfold foT at k
      rw [if_neg (by decide), if_pos rfl] at k
      first | (rw [if_pos c_56] at k; exact k) | (rw [if_neg c_56, if_pos c_62] at k; exact k) | (rw [if_neg c_56, if_neg c_62] at k; exact k)
    · refine V_iload_n 59 dX4_faultOfToken_59 rfl ?_
      refine V_bipushv 60 (98) dX4_faultOfToken_60 (by decide) ?_
      refine V_icmp_ne 62 69 dX4_faultOfToken_62 rfl (fun c_62 => ?_) (fun c_62 => ?_)
      · refine V_iconstv 69 (1) dX4_faultOfToken_69 (by decide) ?_
        refine V_iret 70 dX4_faultOfToken_70 ?_
        unfold foT at k
        rw [if_neg (by decide), if_pos rfl] at k
        first | (rw [if_pos c_56] at k; exact k) | (rw [if_neg c_56, if_pos c_62] at k; exact k) | (rw [if_neg c_56, if_neg c_62] at k; exact k)
      · refine V_iconstv 65 (0) dX4_faultOfToken_65 (by decide) ?_
        refine V_goto 66 70 dX4_faultOfToken_66 rfl ?_
        refine V_iret 70 dX4_faultOfToken_70 ?_
        unfold foT at k
        rw [if_neg (by decide), if_pos rfl] at k
        first | (rw [if_pos c_56] at k; exact k) | (rw [if_neg c_56, if_pos c_62] at k; exact k) | (rw [if_neg c_56, if_neg c_62] at k; exact k)
  have n2 : nx = 2 := by omega
  subst n2
  refine V_lookup 10 71 dX4_faultOfToken_10 (by decide) (by rfl) rfl ?_
  refine V_iload_n 71 dX4_faultOfToken_71 rfl ?_
  refine V_bipushv 72 (59) dX4_faultOfToken_72 (by decide) ?_
  refine V_icmp_ne 74 81 dX4_faultOfToken_74 rfl (fun c_74 => ?_) (fun c_74 => ?_)
  · refine V_iconstv 81 (1) dX4_faultOfToken_81 (by decide) ?_
    refine V_iret 82 dX4_faultOfToken_82 ?_
    unfold foT at k
    rw [if_neg (by decide), if_neg (by decide)] at k
    first | (rw [if_pos c_74] at k; exact k) | (rw [if_neg c_74] at k; exact k)
  · refine V_iconstv 77 (0) dX4_faultOfToken_77 (by decide) ?_
    refine V_goto 78 82 dX4_faultOfToken_78 rfl ?_
    refine V_iret 82 dX4_faultOfToken_82 ?_
    unfold foT at k
    rw [if_neg (by decide), if_neg (by decide)] at k
    first | (rw [if_pos c_74] at k; exact k) | (rw [if_neg c_74] at k; exact k)
set_option maxHeartbeats 1000000 in
set_option maxRecDepth 100000 in
theorem c_X4_takeToken (hT : WT G h0 h t r X Q) (hts : X.2.2.2.1 ≤ X.2.2.2.2) (hts4 : X.2.2.2.1 < 40) (nx : Nat) (hnx : nx ≤ 2) (k : ∀ h, WT G h0 h t r X (taT X Q nx) → Post none h sz) : Cn l G yX4_takeToken cX4_takeToken 3 none 2 0 0 [.ref t, .int (nI nx), .ref r] h sz Post := by
  refine Cn.of RX4 false (by decide) rfl (fun q => by cases q) (Nat.le_of_ble_eq_true rfl) ?_
  refine V_iload_n 0 dX4_takeToken_0 rfl ?_
  refine V_if_ne 1 15 dX4_takeToken_1 rfl (fun c_1 => ?_) (fun c_1 => ?_)
  · have e_1 : ¬ nx = 0 := fun q => c_1 (by rw [q]; rfl)
    refine V_iload_n 15 dX4_takeToken_15 rfl ?_
    refine V_iconstv 16 (1) dX4_takeToken_16 (by decide) ?_
    refine V_icmp_ne 17 42 dX4_takeToken_17 rfl (fun c_17 => ?_) (fun c_17 => ?_)
    · have e_17 : ¬ nx = 1 := fun q => c_17 (by rw [q]; rfl)
      refine V_vret 42 dX4_takeToken_42 ?_
      unfold taT at k
      first | (rw [if_pos e_1] at k; exact k _ hT) | (rw [if_neg e_1, if_neg e_17] at k; exact k _ hT) | (rw [if_neg e_1, if_pos e_17, if_pos c_31] at k; exact k _ hT) | (rw [if_neg e_1, if_pos e_17, if_neg c_31] at k; exact k _ hT)
    · have e_17 : nx = 1 := (nI_eq (b := 1) (by omega) (by decide)).mp c_17
      refine V_aload_n 20 dX4_takeToken_20 rfl ?_
      refine V_aload_n 21 dX4_takeToken_21 rfl ?_
      refine V_aload_n 22 dX4_takeToken_22 rfl ?_
      refine V_get 23 dX4_takeToken_23 fdX4_22 (by first | exact hT.1.1 | exact hT.1.2.1 | exact hT.2.1.1 | exact hT.2.1.2.1 | exact hT.2.1.2.2.1) rfl ?_
      refine V_iv1 26 dX4_takeToken_26 kvX4_44 rfl (by first | exact hT.1.1 | exact hT.1.2.1 | exact hT.2.1.1 | exact hT.2.1.2.1 | exact hT.2.1.2.2.1) rfl rfl (c_X4_byteAt hT ?_)
      refine V_topi (X.2.1 X.2.2.2.1) (btX_nI _ hts4) ?_
      refine V_bipushv 29 (98) dX4_takeToken_29 (by decide) ?_
      refine V_icmp_ne 31 38 dX4_takeToken_31 rfl (fun c_31 => ?_) (fun c_31 => ?_)
      · refine V_iconstv 38 (0) dX4_takeToken_38 (by decide) ?_
        refine V_iv1 39 dX4_takeToken_39 kvX4_71 rfl (by first | exact hT.1.1 | exact hT.1.2.1 | exact hT.2.1.1 | exact hT.2.1.2.1 | exact hT.2.1.2.2.1) rfl rfl (c_X3_setLastSense (h0 := h) ⟨hT.2.1, Fr.rf⟩ (fun h hR => ?_))
        replace hT := hT.ring hR
        refine V_vret 42 dX4_takeToken_42 ?_
        unfold taT at k
        first | (rw [if_pos e_1] at k; exact k _ hT) | (rw [if_neg e_1, if_neg e_17] at k; exact k _ hT) | (rw [if_neg e_1, if_pos e_17, if_pos c_31] at k; exact k _ hT) | (rw [if_neg e_1, if_pos e_17, if_neg c_31] at k; exact k _ hT)
      · refine V_iconstv 34 (1) dX4_takeToken_34 (by decide) ?_
        refine V_goto 35 39 dX4_takeToken_35 rfl ?_
        refine V_iv1 39 dX4_takeToken_39 kvX4_71 rfl (by first | exact hT.1.1 | exact hT.1.2.1 | exact hT.2.1.1 | exact hT.2.1.2.1 | exact hT.2.1.2.2.1) rfl rfl (c_X3_setLastSense (h0 := h) ⟨hT.2.1, Fr.rf⟩ (fun h hR => ?_))
        replace hT := hT.ring hR
        refine V_vret 42 dX4_takeToken_42 ?_
        unfold taT at k
        first | (rw [if_pos e_1] at k; exact k _ hT) | (rw [if_neg e_1, if_neg e_17] at k; exact k _ hT) | (rw [if_neg e_1, if_pos e_17, if_pos c_31] at k; exact k _ hT) | (rw [if_neg e_1, if_pos e_17, if_neg c_31] at k; exact k _ hT)
  · have e_1 : nx = 0 := (nI_eq (b := 0) (by omega) (by decide)).mp c_1
    refine V_aload_n 4 dX4_takeToken_4 rfl ?_
    refine V_aload_n 5 dX4_takeToken_5 rfl ?_
    refine V_iv0 6 dX4_takeToken_6 kvX4_56 rfl (by first | exact hT.1.1 | exact hT.1.2.1 | exact hT.2.1.1 | exact hT.2.1.2.1 | exact hT.2.1.2.2.1) rfl rfl (c_X4_tokenValue hT hts ?_)
    refine V_iv1 9 dX4_takeToken_9 kvX4_67 rfl (by first | exact hT.1.1 | exact hT.1.2.1 | exact hT.2.1.1 | exact hT.2.1.2.1 | exact hT.2.1.2.2.1) rfl rfl (c_X3_addName (h0 := h) ⟨hT.2.1, Fr.rf⟩ (fun h hR => ?_))
    replace hT := hT.ring hR
    refine V_goto 12 42 dX4_takeToken_12 rfl ?_
    refine V_vret 42 dX4_takeToken_42 ?_
    unfold taT at k
    first | (rw [if_pos e_1] at k; exact k _ hT) | (rw [if_neg e_1, if_neg e_17] at k; exact k _ hT) | (rw [if_neg e_1, if_pos e_17, if_pos c_31] at k; exact k _ hT) | (rw [if_neg e_1, if_pos e_17, if_neg c_31] at k; exact k _ hT)
set_option maxHeartbeats 1000000 in
set_option maxRecDepth 100000 in
theorem lp_X4_readInto : ∀ (m i nx : Nat) (X : TX) (Q : RG) (h : hpT) (v4 : Option Value), i + m = 41 → nx ≤ 2 → X.2.2.2.2 ≤ X.1 → WT G h0 h t r X Q → (∀ h, WT G h0 h t r (rdE m nx X Q).2.1 (rdE m nx X Q).2.2 → Post (some (.int (rdE m nx X Q).1)) h sz) → (v4 = none ∨ ∃ z : Int32, v4 = some (.int z)) → V l G RX4 cX4_readInto 5 (some .int) false 4 0 0 Post 14 [some (.ref t), some (.ref r), some (.int (nI nx)), some (.int (nI i)), v4] [] h sz := by
  intro m
  induction m with
  | zero =>
    intro i nx X Q h v4 hi hnx hte hT k hv4
    have e : i = 41 := by omega
    subst e
    refine V_iload_n 14 dX4_readInto_14 rfl ?_
    refine V_bipushv 15 (40) dX4_readInto_15 (by decide) ?_
    refine V_icmp_gt 17 129 dX4_readInto_17 rfl (fun _ => ?_) (fun q => absurd (show (40 : Int32) < nI 41 by decide) q)
    refine V_iconstv 129 (-1) dX4_readInto_129 (by decide) ?_
    refine V_iret 130 dX4_readInto_130 ?_
    exact k _ hT
  | succ m ih =>
    intro i nx X Q h v4 hi hnx hte hT k hv4
    have hn := hT.1.2.2.1
    have hq := hT.2.1.2.2.2.1
    have hA : tkA X ≤ X.1 := fiN_le (skB X X.2.2.2.2) X.1
    have hB : tkB X ≤ X.1 := fiN_le (ndB X (tkA X)) X.1
    have hBA := tkB_ge X
    have hts : (ftX X).2.2.2.1 ≤ (ftX X).2.2.2.2 := by
      show tkA X ≤ if tkB X = tkA X ∧ tkA X < X.1 then tkA X + 1 else tkB X
      split <;> omega
    have hte1 : (ftX X).2.2.2.2 ≤ X.1 := by
      show (if tkB X = tkA X ∧ tkA X < X.1 then tkA X + 1 else tkB X) ≤ X.1
      split <;> omega
    have zok1 : zok [some (.ref t), some (.ref r), some (.int (nI nx)), some (.int (nI i)), v4] 4 = true := rfl
    rw [rdE] at k
    refine V_iload_n 14 dX4_readInto_14 rfl ?_
    refine V_bipushv 15 (40) dX4_readInto_15 (by decide) ?_
    refine V_icmp_gt 17 129 dX4_readInto_17 rfl (fun q => absurd q (nI_nlt (a := 40) (b := i) (by omega) (by omega))) (fun _ => ?_)
    refine V_aload_n 20 dX4_readInto_20 rfl ?_
    refine V_iv0 21 dX4_readInto_21 kvX4_33 rfl (by first | exact hT.1.1 | exact hT.1.2.1 | exact hT.2.1.1 | exact hT.2.1.2.1 | exact hT.2.1.2.2.1) rfl rfl (c_X4_findToken hT hte (fun h hT => ?_))
    refine V_iload_n 24 dX4_readInto_24 rfl ?_
    refine V_if_ne 25 40 dX4_readInto_25 rfl (fun c_25 => ?_) (fun c_25 => ?_)
    · have e_c : ¬ (nx = 0 ∧ 2 ≤ Q.1) := fun q => c_25 (by rw [q.1]; rfl)
      refine V_iconstv 40 (0) dX4_readInto_40 (by decide) ?_
      refine V_istore 41 dX4_readInto_41 rfl rfl ?_
      refine V_aload_n 43 dX4_readInto_43 rfl ?_
      refine V_get 44 dX4_readInto_44 fdX4_22 (by first | exact hT.1.1 | exact hT.1.2.1 | exact hT.2.1.1 | exact hT.2.1.2.1 | exact hT.2.1.2.2.1) rfl ?_
      refine V_aload_n 47 dX4_readInto_47 rfl ?_
      refine V_get 48 dX4_readInto_48 fdX4_15 (by first | exact hT.1.1 | exact hT.1.2.1 | exact hT.2.1.1 | exact hT.2.1.2.1 | exact hT.2.1.2.2.1) rfl ?_
      refine V_icmp_lt 51 82 dX4_readInto_51 rfl (fun c_51 => ?_) (fun c_51 => ?_)
      · have e_51 : ¬ X.1 ≤ tkA X := fun q => absurd ((nI_ltI (a := tkA X) (b := X.1) (by omega) (by omega)).mp c_51) (by omega)
        rw [if_neg e_51] at k
        refine V_aload_n 82 dX4_readInto_82 rfl ?_
        refine V_aload_n 83 dX4_readInto_83 rfl ?_
        refine V_iload_n 84 dX4_readInto_84 rfl ?_
        refine V_aload_n 85 dX4_readInto_85 rfl ?_
        refine V_iv2 86 dX4_readInto_86 kvX4_36 rfl (by first | exact hT.1.1 | exact hT.1.2.1 | exact hT.2.1.1 | exact hT.2.1.2.1 | exact hT.2.1.2.2.1) rfl rfl (c_X4_faultOfToken hT hts (show tkA X < 40 by omega) nx hnx ?_)
        refine V_putT2 89 dX4_readInto_89 fpX4_19 hT (fun h hT => ?_)
        refine V_aload_n 92 dX4_readInto_92 rfl ?_
        refine V_get 93 dX4_readInto_93 fdX4_19 (by first | exact hT.1.1 | exact hT.1.2.1 | exact hT.2.1.1 | exact hT.2.1.2.1 | exact hT.2.1.2.2.1) rfl ?_
        refine V_if_eq 96 104 dX4_readInto_96 rfl (fun c_96 => ?_) (fun c_96 => ?_)
        · have e_96 : foT (ftX X) Q nx = 0 := c_96
          rw [if_pos e_96] at k
          rw [e_96] at hT
          refine V_aload_n 104 dX4_readInto_104 rfl ?_
          refine V_iload_n 105 dX4_readInto_105 rfl ?_
          refine V_aload_n 106 dX4_readInto_106 rfl ?_
          refine V_iv2 107 dX4_readInto_107 kvX4_40 rfl (by first | exact hT.1.1 | exact hT.1.2.1 | exact hT.2.1.1 | exact hT.2.1.2.1 | exact hT.2.1.2.2.1) rfl rfl (c_X4_takeToken hT hts (show tkA X < 40 by omega) nx hnx (fun h hT => ?_))
          refine V_iload_n 110 dX4_readInto_110 rfl ?_
          refine V_iconstv 111 (2) dX4_readInto_111 (by decide) ?_
          refine V_icmp_ne 112 119 dX4_readInto_112 rfl (fun c_112 => ?_) (fun c_112 => ?_)
          · have e_112 : ¬ nx = 2 := fun q => c_112 (by rw [q]; rfl)
            rw [if_neg e_112] at k
            refine V_iload_n 119 dX4_readInto_119 rfl ?_
            refine V_iconstv 120 (1) dX4_readInto_120 (by decide) ?_
            refine V_iadd 121 dX4_readInto_121 ?_
            refine V_topi (nI (nx + 1)) (nI_1 nx) ?_
            refine V_istore_n 122 dX4_readInto_122 rfl rfl ?_
            refine V_iinc 123 (nI (i + 1)) dX4_readInto_123 rfl (nI_inc i) rfl rfl ?_
            refine V_goto 126 14 dX4_readInto_126 rfl ?_
            first | exact ih (i + 1) 0 (fX' (ftX X) 0) _ h _ (by omega) (by omega) hte1 hT k (Or.inr ⟨_, rfl⟩) | exact ih (i + 1) (nx + 1) (fX' (ftX X) 0) _ h _ (by omega) (by omega) hte1 hT k (Or.inr ⟨_, rfl⟩)
          · have e_112 : nx = 2 := (nI_eq (b := 2) (by omega) (by decide)).mp c_112
            rw [if_pos e_112] at k
            refine V_iconstv 115 (0) dX4_readInto_115 (by decide) ?_
            refine V_goto 116 122 dX4_readInto_116 rfl ?_
            refine V_istore_n 122 dX4_readInto_122 rfl rfl ?_
            refine V_iinc 123 (nI (i + 1)) dX4_readInto_123 rfl (nI_inc i) rfl rfl ?_
            refine V_goto 126 14 dX4_readInto_126 rfl ?_
            first | exact ih (i + 1) 0 (fX' (ftX X) 0) _ h _ (by omega) (by omega) hte1 hT k (Or.inr ⟨_, rfl⟩) | exact ih (i + 1) (nx + 1) (fX' (ftX X) 0) _ h _ (by omega) (by omega) hte1 hT k (Or.inr ⟨_, rfl⟩)
        · have e_96 : ¬ foT (ftX X) Q nx = 0 := c_96
          rw [if_neg e_96] at k
          refine V_aload_n 99 dX4_readInto_99 rfl ?_
          refine V_get 100 dX4_readInto_100 fdX4_22 (by first | exact hT.1.1 | exact hT.1.2.1 | exact hT.2.1.1 | exact hT.2.1.2.1 | exact hT.2.1.2.2.1) rfl ?_
          refine V_iret 103 dX4_readInto_103 ?_
          exact k _ hT
      · have e_51 : X.1 ≤ tkA X := Nat.le_of_not_lt (fun q => c_51 (nI_lt (a := tkA X) (b := X.1) q (by omega)))
        rw [if_pos e_51] at k
        refine V_aload_n 54 dX4_readInto_54 rfl ?_
        refine V_iload 55 dX4_readInto_55 rfl ?_
        refine V_if_eq 57 64 dX4_readInto_57 rfl (fun _ => ?_) (fun q => absurd q (by decide))
        refine V_iconstv 64 (1) dX4_readInto_64 (by decide) ?_
        refine V_putT2 65 dX4_readInto_65 fpX4_19 hT (fun h hT => ?_)
        refine V_iload 68 dX4_readInto_68 rfl ?_
        refine V_if_eq 70 77 dX4_readInto_70 rfl (fun _ => ?_) (fun q => absurd q (by decide))
        refine V_aload_n 77 dX4_readInto_77 rfl ?_
        refine V_get 78 dX4_readInto_78 fdX4_22 (by first | exact hT.1.1 | exact hT.1.2.1 | exact hT.2.1.1 | exact hT.2.1.2.1 | exact hT.2.1.2.2.1) rfl ?_
        refine V_iret 81 dX4_readInto_81 ?_
        first | (rw [if_pos e_c] at k; exact k _ hT) | (rw [if_neg e_c] at k; exact k _ hT)
    · have e_0 : nx = 0 := (nI_eq (b := 0) (by omega) (by decide)).mp c_25
      refine V_aload_n 28 dX4_readInto_28 rfl ?_
      refine V_get 29 dX4_readInto_29 fdX4_28 (by first | exact hT.1.1 | exact hT.1.2.1 | exact hT.2.1.1 | exact hT.2.1.2.1 | exact hT.2.1.2.2.1) rfl ?_
      refine V_iconstv 32 (2) dX4_readInto_32 (by decide) ?_
      refine V_icmp_lt 33 40 dX4_readInto_33 rfl (fun c_33 => ?_) (fun c_33 => ?_)
      · have e_c : ¬ (nx = 0 ∧ 2 ≤ Q.1) := fun q => absurd ((nI_ltI (b := 2) (by omega) (by decide)).mp c_33) (by omega)
        refine V_iconstv 40 (0) dX4_readInto_40 (by decide) ?_
        refine V_istore 41 dX4_readInto_41 rfl rfl ?_
        refine V_aload_n 43 dX4_readInto_43 rfl ?_
        refine V_get 44 dX4_readInto_44 fdX4_22 (by first | exact hT.1.1 | exact hT.1.2.1 | exact hT.2.1.1 | exact hT.2.1.2.1 | exact hT.2.1.2.2.1) rfl ?_
        refine V_aload_n 47 dX4_readInto_47 rfl ?_
        refine V_get 48 dX4_readInto_48 fdX4_15 (by first | exact hT.1.1 | exact hT.1.2.1 | exact hT.2.1.1 | exact hT.2.1.2.1 | exact hT.2.1.2.2.1) rfl ?_
        refine V_icmp_lt 51 82 dX4_readInto_51 rfl (fun c_51 => ?_) (fun c_51 => ?_)
        · have e_51 : ¬ X.1 ≤ tkA X := fun q => absurd ((nI_ltI (a := tkA X) (b := X.1) (by omega) (by omega)).mp c_51) (by omega)
          rw [if_neg e_51] at k
          refine V_aload_n 82 dX4_readInto_82 rfl ?_
          refine V_aload_n 83 dX4_readInto_83 rfl ?_
          refine V_iload_n 84 dX4_readInto_84 rfl ?_
          refine V_aload_n 85 dX4_readInto_85 rfl ?_
          refine V_iv2 86 dX4_readInto_86 kvX4_36 rfl (by first | exact hT.1.1 | exact hT.1.2.1 | exact hT.2.1.1 | exact hT.2.1.2.1 | exact hT.2.1.2.2.1) rfl rfl (c_X4_faultOfToken hT hts (show tkA X < 40 by omega) nx hnx ?_)
          refine V_putT2 89 dX4_readInto_89 fpX4_19 hT (fun h hT => ?_)
          refine V_aload_n 92 dX4_readInto_92 rfl ?_
          refine V_get 93 dX4_readInto_93 fdX4_19 (by first | exact hT.1.1 | exact hT.1.2.1 | exact hT.2.1.1 | exact hT.2.1.2.1 | exact hT.2.1.2.2.1) rfl ?_
          refine V_if_eq 96 104 dX4_readInto_96 rfl (fun c_96 => ?_) (fun c_96 => ?_)
          · have e_96 : foT (ftX X) Q nx = 0 := c_96
            rw [if_pos e_96] at k
            rw [e_96] at hT
            refine V_aload_n 104 dX4_readInto_104 rfl ?_
            refine V_iload_n 105 dX4_readInto_105 rfl ?_
            refine V_aload_n 106 dX4_readInto_106 rfl ?_
            refine V_iv2 107 dX4_readInto_107 kvX4_40 rfl (by first | exact hT.1.1 | exact hT.1.2.1 | exact hT.2.1.1 | exact hT.2.1.2.1 | exact hT.2.1.2.2.1) rfl rfl (c_X4_takeToken hT hts (show tkA X < 40 by omega) nx hnx (fun h hT => ?_))
            refine V_iload_n 110 dX4_readInto_110 rfl ?_
            refine V_iconstv 111 (2) dX4_readInto_111 (by decide) ?_
            refine V_icmp_ne 112 119 dX4_readInto_112 rfl (fun c_112 => ?_) (fun c_112 => ?_)
            · have e_112 : ¬ nx = 2 := fun q => c_112 (by rw [q]; rfl)
              rw [if_neg e_112] at k
              refine V_iload_n 119 dX4_readInto_119 rfl ?_
              refine V_iconstv 120 (1) dX4_readInto_120 (by decide) ?_
              refine V_iadd 121 dX4_readInto_121 ?_
              refine V_topi (nI (nx + 1)) (nI_1 nx) ?_
              refine V_istore_n 122 dX4_readInto_122 rfl rfl ?_
              refine V_iinc 123 (nI (i + 1)) dX4_readInto_123 rfl (nI_inc i) rfl rfl ?_
              refine V_goto 126 14 dX4_readInto_126 rfl ?_
              first | exact ih (i + 1) 0 (fX' (ftX X) 0) _ h _ (by omega) (by omega) hte1 hT k (Or.inr ⟨_, rfl⟩) | exact ih (i + 1) (nx + 1) (fX' (ftX X) 0) _ h _ (by omega) (by omega) hte1 hT k (Or.inr ⟨_, rfl⟩)
            · have e_112 : nx = 2 := (nI_eq (b := 2) (by omega) (by decide)).mp c_112
              rw [if_pos e_112] at k
              refine V_iconstv 115 (0) dX4_readInto_115 (by decide) ?_
              refine V_goto 116 122 dX4_readInto_116 rfl ?_
              refine V_istore_n 122 dX4_readInto_122 rfl rfl ?_
              refine V_iinc 123 (nI (i + 1)) dX4_readInto_123 rfl (nI_inc i) rfl rfl ?_
              refine V_goto 126 14 dX4_readInto_126 rfl ?_
              first | exact ih (i + 1) 0 (fX' (ftX X) 0) _ h _ (by omega) (by omega) hte1 hT k (Or.inr ⟨_, rfl⟩) | exact ih (i + 1) (nx + 1) (fX' (ftX X) 0) _ h _ (by omega) (by omega) hte1 hT k (Or.inr ⟨_, rfl⟩)
          · have e_96 : ¬ foT (ftX X) Q nx = 0 := c_96
            rw [if_neg e_96] at k
            refine V_aload_n 99 dX4_readInto_99 rfl ?_
            refine V_get 100 dX4_readInto_100 fdX4_22 (by first | exact hT.1.1 | exact hT.1.2.1 | exact hT.2.1.1 | exact hT.2.1.2.1 | exact hT.2.1.2.2.1) rfl ?_
            refine V_iret 103 dX4_readInto_103 ?_
            exact k _ hT
        · have e_51 : X.1 ≤ tkA X := Nat.le_of_not_lt (fun q => c_51 (nI_lt (a := tkA X) (b := X.1) q (by omega)))
          rw [if_pos e_51] at k
          refine V_aload_n 54 dX4_readInto_54 rfl ?_
          refine V_iload 55 dX4_readInto_55 rfl ?_
          refine V_if_eq 57 64 dX4_readInto_57 rfl (fun _ => ?_) (fun q => absurd q (by decide))
          refine V_iconstv 64 (1) dX4_readInto_64 (by decide) ?_
          refine V_putT2 65 dX4_readInto_65 fpX4_19 hT (fun h hT => ?_)
          refine V_iload 68 dX4_readInto_68 rfl ?_
          refine V_if_eq 70 77 dX4_readInto_70 rfl (fun _ => ?_) (fun q => absurd q (by decide))
          refine V_aload_n 77 dX4_readInto_77 rfl ?_
          refine V_get 78 dX4_readInto_78 fdX4_22 (by first | exact hT.1.1 | exact hT.1.2.1 | exact hT.2.1.1 | exact hT.2.1.2.1 | exact hT.2.1.2.2.1) rfl ?_
          refine V_iret 81 dX4_readInto_81 ?_
          first | (rw [if_pos e_c] at k; exact k _ hT) | (rw [if_neg e_c] at k; exact k _ hT)
      · have e_c : nx = 0 ∧ 2 ≤ Q.1 := ⟨e_0, Nat.le_of_not_lt (fun q => c_33 (nI_lt (b := 2) q (by decide)))⟩
        refine V_iconstv 36 (1) dX4_readInto_36 (by decide) ?_
        refine V_goto 37 41 dX4_readInto_37 rfl ?_
        refine V_istore 41 dX4_readInto_41 rfl rfl ?_
        refine V_aload_n 43 dX4_readInto_43 rfl ?_
        refine V_get 44 dX4_readInto_44 fdX4_22 (by first | exact hT.1.1 | exact hT.1.2.1 | exact hT.2.1.1 | exact hT.2.1.2.1 | exact hT.2.1.2.2.1) rfl ?_
        refine V_aload_n 47 dX4_readInto_47 rfl ?_
        refine V_get 48 dX4_readInto_48 fdX4_15 (by first | exact hT.1.1 | exact hT.1.2.1 | exact hT.2.1.1 | exact hT.2.1.2.1 | exact hT.2.1.2.2.1) rfl ?_
        refine V_icmp_lt 51 82 dX4_readInto_51 rfl (fun c_51 => ?_) (fun c_51 => ?_)
        · have e_51 : ¬ X.1 ≤ tkA X := fun q => absurd ((nI_ltI (a := tkA X) (b := X.1) (by omega) (by omega)).mp c_51) (by omega)
          rw [if_neg e_51] at k
          refine V_aload_n 82 dX4_readInto_82 rfl ?_
          refine V_aload_n 83 dX4_readInto_83 rfl ?_
          refine V_iload_n 84 dX4_readInto_84 rfl ?_
          refine V_aload_n 85 dX4_readInto_85 rfl ?_
          refine V_iv2 86 dX4_readInto_86 kvX4_36 rfl (by first | exact hT.1.1 | exact hT.1.2.1 | exact hT.2.1.1 | exact hT.2.1.2.1 | exact hT.2.1.2.2.1) rfl rfl (c_X4_faultOfToken hT hts (show tkA X < 40 by omega) nx hnx ?_)
          refine V_putT2 89 dX4_readInto_89 fpX4_19 hT (fun h hT => ?_)
          refine V_aload_n 92 dX4_readInto_92 rfl ?_
          refine V_get 93 dX4_readInto_93 fdX4_19 (by first | exact hT.1.1 | exact hT.1.2.1 | exact hT.2.1.1 | exact hT.2.1.2.1 | exact hT.2.1.2.2.1) rfl ?_
          refine V_if_eq 96 104 dX4_readInto_96 rfl (fun c_96 => ?_) (fun c_96 => ?_)
          · have e_96 : foT (ftX X) Q nx = 0 := c_96
            rw [if_pos e_96] at k
            rw [e_96] at hT
            refine V_aload_n 104 dX4_readInto_104 rfl ?_
            refine V_iload_n 105 dX4_readInto_105 rfl ?_
            refine V_aload_n 106 dX4_readInto_106 rfl ?_
            refine V_iv2 107 dX4_readInto_107 kvX4_40 rfl (by first | exact hT.1.1 | exact hT.1.2.1 | exact hT.2.1.1 | exact hT.2.1.2.1 | exact hT.2.1.2.2.1) rfl rfl (c_X4_takeToken hT hts (show tkA X < 40 by omega) nx hnx (fun h hT => ?_))
            refine V_iload_n 110 dX4_readInto_110 rfl ?_
            refine V_iconstv 111 (2) dX4_readInto_111 (by decide) ?_
            refine V_icmp_ne 112 119 dX4_readInto_112 rfl (fun c_112 => ?_) (fun c_112 => ?_)
            · have e_112 : ¬ nx = 2 := fun q => c_112 (by rw [q]; rfl)
              rw [if_neg e_112] at k
              refine V_iload_n 119 dX4_readInto_119 rfl ?_
              refine V_iconstv 120 (1) dX4_readInto_120 (by decide) ?_
              refine V_iadd 121 dX4_readInto_121 ?_
              refine V_topi (nI (nx + 1)) (nI_1 nx) ?_
              refine V_istore_n 122 dX4_readInto_122 rfl rfl ?_
              refine V_iinc 123 (nI (i + 1)) dX4_readInto_123 rfl (nI_inc i) rfl rfl ?_
              refine V_goto 126 14 dX4_readInto_126 rfl ?_
              first | exact ih (i + 1) 0 (fX' (ftX X) 0) _ h _ (by omega) (by omega) hte1 hT k (Or.inr ⟨_, rfl⟩) | exact ih (i + 1) (nx + 1) (fX' (ftX X) 0) _ h _ (by omega) (by omega) hte1 hT k (Or.inr ⟨_, rfl⟩)
            · have e_112 : nx = 2 := (nI_eq (b := 2) (by omega) (by decide)).mp c_112
              rw [if_pos e_112] at k
              refine V_iconstv 115 (0) dX4_readInto_115 (by decide) ?_
              refine V_goto 116 122 dX4_readInto_116 rfl ?_
              refine V_istore_n 122 dX4_readInto_122 rfl rfl ?_
              refine V_iinc 123 (nI (i + 1)) dX4_readInto_123 rfl (nI_inc i) rfl rfl ?_
              refine V_goto 126 14 dX4_readInto_126 rfl ?_
              first | exact ih (i + 1) 0 (fX' (ftX X) 0) _ h _ (by omega) (by omega) hte1 hT k (Or.inr ⟨_, rfl⟩) | exact ih (i + 1) (nx + 1) (fX' (ftX X) 0) _ h _ (by omega) (by omega) hte1 hT k (Or.inr ⟨_, rfl⟩)
          · have e_96 : ¬ foT (ftX X) Q nx = 0 := c_96
            rw [if_neg e_96] at k
            refine V_aload_n 99 dX4_readInto_99 rfl ?_
            refine V_get 100 dX4_readInto_100 fdX4_22 (by first | exact hT.1.1 | exact hT.1.2.1 | exact hT.2.1.1 | exact hT.2.1.2.1 | exact hT.2.1.2.2.1) rfl ?_
            refine V_iret 103 dX4_readInto_103 ?_
            exact k _ hT
        · have e_51 : X.1 ≤ tkA X := Nat.le_of_not_lt (fun q => c_51 (nI_lt (a := tkA X) (b := X.1) q (by omega)))
          rw [if_pos e_51] at k
          refine V_aload_n 54 dX4_readInto_54 rfl ?_
          refine V_iload 55 dX4_readInto_55 rfl ?_
          refine V_if_eq 57 64 dX4_readInto_57 rfl (fun q => absurd q (by decide)) (fun _ => ?_)
          refine V_iconstv 60 (0) dX4_readInto_60 (by decide) ?_
          refine V_goto 61 65 dX4_readInto_61 rfl ?_
          refine V_putT2 65 dX4_readInto_65 fpX4_19 hT (fun h hT => ?_)
          refine V_iload 68 dX4_readInto_68 rfl ?_
          refine V_if_eq 70 77 dX4_readInto_70 rfl (fun q => absurd q (by decide)) (fun _ => ?_)
          refine V_iconstv 73 (-1) dX4_readInto_73 (by decide) ?_
          refine V_goto 74 81 dX4_readInto_74 rfl ?_
          refine V_iret 81 dX4_readInto_81 ?_
          first | (rw [if_pos e_c] at k; exact k _ hT) | (rw [if_neg e_c] at k; exact k _ hT)
set_option maxHeartbeats 1000000 in
set_option maxRecDepth 100000 in
theorem c_X4_readInto (hT : WT G h0 h t r X Q) (k : ∀ h, WT G h0 h t r (rdE 41 0 (X.1, X.2.1, X.2.2.1, X.2.2.2.1, 0) (0, Q.2)).2.1 (rdE 41 0 (X.1, X.2.1, X.2.2.1, X.2.2.2.1, 0) (0, Q.2)).2.2 → Post (some (.int (rdE 41 0 (X.1, X.2.1, X.2.2.1, X.2.2.2.1, 0) (0, Q.2)).1)) h sz) : Cn l G yX4_readInto cX4_readInto 5 (some .int) 4 0 0 [.ref t, .ref r] h sz Post := by
  refine Cn.of RX4 false (by decide) rfl (fun q => by cases q) (Nat.le_of_ble_eq_true rfl) ?_
  refine V_aload_n 0 dX4_readInto_0 rfl ?_
  refine V_iconstv 1 (0) dX4_readInto_1 (by decide) ?_
  refine V_putRN 2 0 rfl (by omega) dX4_readInto_2 fpX4_28 (h0 := h) ⟨hT.2.1, Fr.rf⟩ (fun h hR => ?_)
  replace hT := hT.ring hR
  refine V_aload_n 5 dX4_readInto_5 rfl ?_
  refine V_iconstv 6 (0) dX4_readInto_6 (by decide) ?_
  refine V_putT4 7 0 rfl (by omega) dX4_readInto_7 fpX4_25 hT (fun h hT => ?_)
  refine V_iconstv 10 (0) dX4_readInto_10 (by decide) ?_
  refine V_istore_n 11 dX4_readInto_11 rfl rfl ?_
  refine V_iconstv 12 (0) dX4_readInto_12 (by decide) ?_
  refine V_istore_n 13 dX4_readInto_13 rfl rfl ?_
  exact V_lvw (zget_pad _) (lp_X4_readInto 41 0 0 _ _ h none (by omega) (by omega) (Nat.zero_le _) hT k (Or.inl rfl))
end M19
