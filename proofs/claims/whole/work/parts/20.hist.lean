/-- the history: next, size, what is kept -/
def HS (G : zGT) (h : hpT) (g r nx hs : Nat) (K : Nat → ET) : Prop := h g = some (ob 2 [.ref (g + 1), .int (nI nx), .int (nI hs)]) ∧ (∃ f : Nat → Option Nat, h (g + 1) = some (aR G 20 f) ∧ ∀ i, i < 20 → f i = some (g + 2 + 5 * i)) ∧ (∀ i, i < 20 → EA G h (g + 2 + 5 * i) r (K i)) ∧ nx < 20 ∧ hs ≤ 20
def FrP (P : Nat → Prop) (h0 h : hpT) : Prop := ∀ a, ¬ P a → h a = h0 a
theorem EA.frP {G : zGT} {h h1 : hpT} {o r : Nat} {E : ET} {P : Nat → Prop} (hE : EA G h o r E) (hF : FrP P h h1) (hd : ∀ a, o ≤ a → a < o + 5 → ¬ P a) : EA G h1 o r E := by
  obtain ⟨e1, e2, e3, e4, e5, e6⟩ := hE
  exact ⟨by rw [hF _ (hd _ (by omega) (by omega))]; exact e1, by rw [hF _ (hd _ (by omega) (by omega))]; exact e2, by rw [hF _ (hd _ (by omega) (by omega))]; exact e3, by rw [hF _ (hd _ (by omega) (by omega))]; exact e4, by rw [hF _ (hd _ (by omega) (by omega))]; exact e5, e6⟩
theorem RA.frP {G : zGT} {h h1 : hpT} {r : Nat} {Q : RG} {P : Nat → Prop} (hR : RA G h r Q) (hF : FrP P h h1) (hd : ∀ a, r ≤ a → a < r + 3 → ¬ P a) : RA G h1 r Q := by
  obtain ⟨e1, e2, e3, e4⟩ := hR
  exact ⟨by rw [hF _ (hd _ (by omega) (by omega))]; exact e1, by rw [hF _ (hd _ (by omega) (by omega))]; exact e2, by rw [hF _ (hd _ (by omega) (by omega))]; exact e3, e4⟩
theorem HS.fr {G : zGT} {h h1 : hpT} {g r nx hs a n : Nat} {K : Nat → ET} (hH : HS G h g r nx hs K) (hF : Fr a n h h1) (hd : a + n ≤ g ∨ g + 102 ≤ a) : HS G h1 g r nx hs K := by
  obtain ⟨e1, ⟨f, e2, e3⟩, e4, e5⟩ := hH
  exact ⟨by rw [hF _ (by omega)]; exact e1, ⟨f, by rw [hF _ (by omega)]; exact e2, e3⟩, fun i hi => (e4 i hi).fr hF (by omega), e5⟩
/-- an election that is kept is written -/
theorem HS.el {G : zGT} {h h1 : hpT} {g r nx hs i : Nat} {K : Nat → ET} {E : ET} (hH : HS G h g r nx hs K) (hi : i < 20) (hE : EA G h1 (g + 2 + 5 * i) r E) (hF : Fr (g + 2 + 5 * i) 5 h h1) : HS G h1 g r nx hs (va_up K i E) := by
  obtain ⟨e1, ⟨f, e2, e3⟩, e4, e5⟩ := hH
  refine ⟨by rw [hF _ (by omega)]; exact e1, ⟨f, by rw [hF _ (by omega)]; exact e2, e3⟩, fun j hj => ?_, e5⟩
  by_cases q : j = i
  · subst q
    rw [va_up_self]
    exact hE
  · rw [va_up_ne _ _ q]
    exact (e4 j hj).fr hF (by omega)
theorem HS.ob {G : zGT} {h : hpT} {g r nx hs : Nat} {K : Nat → ET} (hH : HS G h g r nx hs K) {nx1 hs1 : Nat} {fs : List Value} (hfs : fs = [.ref (g + 1), .int (nI nx1), .int (nI hs1)]) (h1 : nx1 < 20) (h2 : hs1 ≤ 20) : HS G (hpS h g (ob 2 fs)) g r nx1 hs1 K := by
  obtain ⟨e1, ⟨f, e2, e3⟩, e4, e5⟩ := hH
  subst hfs
  exact ⟨hpS_self _ _ _, ⟨f, by rw [hpS_ne _ _ (by omega)]; exact e2, e3⟩, fun i hi => (e4 i hi).fr (Fr1 _ _ _) (by omega), h1, h2⟩
def kpN (nx : Nat) : Nat := if nx + 1 < 20 then nx + 1 else 0
def kpS (hs : Nat) : Nat := if hs < 20 then hs + 1 else 20
def kpL (nx : Nat) : Nat := if 0 < nx then nx - 1 else 19
/-- foresight: sent before, least, greatest, with head, sequences; the trials -/
abbrev FT : Type := Int32 × Int32 × Int32 × Int32 × Int32
def fF (g : Nat) (F : FT) : List Value := [.ref (g + 1), .int F.1, .int F.2.1, .int F.2.2.1, .int F.2.2.2.1, .int F.2.2.2.2]
def FS (G : zGT) (h : hpT) (g r : Nat) (S : FT × (Nat → ET)) : Prop := h g = some (ob 1 (fF g S.1)) ∧ (∃ f : Nat → Option Nat, h (g + 1) = some (aR G 3 f) ∧ ∀ i, i < 3 → f i = some (g + 2 + 5 * i)) ∧ (∀ i, i < 3 → EA G h (g + 2 + 5 * i) r (S.2 i))
theorem FS.fr {G : zGT} {h h1 : hpT} {g r a n : Nat} {S : FT × (Nat → ET)} (hH : FS G h g r S) (hF : Fr a n h h1) (hd : a + n ≤ g ∨ g + 17 ≤ a) : FS G h1 g r S := by
  obtain ⟨e1, ⟨f, e2, e3⟩, e4⟩ := hH
  exact ⟨by rw [hF _ (by omega)]; exact e1, ⟨f, by rw [hF _ (by omega)]; exact e2, e3⟩, fun i hi => (e4 i hi).fr hF (by omega)⟩
theorem FS.el {G : zGT} {h h1 : hpT} {g r i : Nat} {S : FT × (Nat → ET)} {E : ET} (hH : FS G h g r S) (hi : i < 3) (hE : EA G h1 (g + 2 + 5 * i) r E) (hF : Fr (g + 2 + 5 * i) 5 h h1) : FS G h1 g r (S.1, va_up S.2 i E) := by
  obtain ⟨e1, ⟨f, e2, e3⟩, e4⟩ := hH
  refine ⟨by rw [hF _ (by omega)]; exact e1, ⟨f, by rw [hF _ (by omega)]; exact e2, e3⟩, fun j hj => ?_⟩
  show EA G h1 _ r (va_up S.2 i E j)
  by_cases q : j = i
  · subst q
    rw [va_up_self]
    exact hE
  · rw [va_up_ne _ _ q]
    exact (e4 j hj).fr hF (by omega)
theorem FS.ob {G : zGT} {h : hpT} {g r : Nat} {S : FT × (Nat → ET)} (hH : FS G h g r S) {F1 : FT} {fs : List Value} (hfs : fs = fF g F1) : FS G (hpS h g (ob 1 fs)) g r (F1, S.2) := by
  obtain ⟨e1, ⟨f, e2, e3⟩, e4⟩ := hH
  subst hfs
  exact ⟨hpS_self _ _ _, ⟨f, by rw [hpS_ne _ _ (by omega)]; exact e2, e3⟩, fun i hi => (e4 i hi).fr (Fr1 _ _ _) (by omega)⟩
def ntL (F : FT) (s : Int32) : Int32 := if F.2.2.2.2 = 0 then s else (if s < F.2.1 then s else F.2.1)
def ntG (F : FT) (s : Int32) : Int32 := if F.2.2.1 < s then s else F.2.2.1
def noteF (Q : RG) (E : ET) (F : FT) : FT := (F.1, ntL F (snE E 0 - F.1), ntG F (snE E 0 - F.1), F.2.2.2.1 + (if hdE E Q.1 = -1 then 0 else 1), F.2.2.2.2 + 1)
def exS (f : ET → FT × (Nat → ET) → FT × (Nat → ET)) (Q : RG) (m : Nat) (E : ET) (S : FT × (Nat → ET)) (i : Nat) : FT × (Nat → ET) := if bsy E (nI i) = true then f (dlE Q (eH' E (eH (S.2 m))) (nI i)) (S.1, va_up S.2 m (dlE Q (eH' E (eH (S.2 m))) (nI i))) else S
def exE (Q : RG) : Nat → ET → FT × (Nat → ET) → FT × (Nat → ET)
  | 0, E, S => (noteF Q E S.1, S.2)
  | m + 1, E, S => if eN E = 0 then (noteF Q E S.1, S.2) else (List.range 12).foldl (exS (exE Q m) Q m E) S
theorem foldl_range_succ {α : Type} (f : α → Nat → α) (s : α) (i : Nat) : (List.range (i + 1)).foldl f s = f ((List.range i).foldl f s) i := by
  rw [List.range_succ, List.foldl_append]
  rfl
/-- what a trial of m more letters may write -/
def exR (g m : Nat) : Nat → Prop := fun a => a = g ∨ (g + 2 ≤ a ∧ a < g + 2 + 5 * m)
section M20
variable {l : Launch} {G : zGT} {h h0 : hpT} {sz : Nat} {Post : Option Value → hpT → Nat → Prop} {g r o nx hs : Nat} {Q : RG} {E : ET} {K : Nat → ET} {S : FT × (Nat → ET)}
theorem V_putHS {own : String} {cc : ByteArray} {nL : Nat} {rt : Option FieldType} {ini : Bool} {d kc ks : Nat} {lv : List (Option Value)} {st : List Value} (pc : Nat) {idx j : Nat} {x : Int32} (nx1 hs1 : Nat) (hd : decode cc pc = .ok (.putfield idx, 3)) (hf : zFp own idx 2 j .int false) (hH : HS G h g r nx hs K) (hfs : [Value.ref (g + 1), .int (nI nx), .int (nI hs)].set j (.int x) = [.ref (g + 1), .int (nI nx1), .int (nI hs1)]) (b1 : nx1 < 20) (b2 : hs1 ≤ 20) (hj : Nat.blt j 3 = true) (kk : ∀ h1, HS G h1 g r nx1 hs1 K → Fr g 1 h h1 → V l G own cc nL rt ini d kc ks Post (pc + 3) lv st h1 sz) : V l G own cc nL rt ini d kc ks Post pc lv (.int x :: .ref g :: st) h sz := V_put pc hd hf (fun q => by cases q) hH.1 rfl rfl (Nat.le_of_ble_eq_true hj) (kk _ (hH.ob hfs b1 b2) (Fr1 _ _ _))
set_option maxHeartbeats 1000000 in
set_option maxRecDepth 100000 in
theorem c_X2_keptAt (hH : HS G h g r nx hs K) (i : Nat) (hi : i < 20) (k : Post (some (.ref (g + 2 + 5 * i))) h sz) : Cn l G yX2_keptAt cX2_keptAt 2 (some (.object "HeadsOfRings$Election")) 0 0 0 [.ref g, .int (nI i)] h sz Post := by
  refine Cn.of RX2 false (by decide) rfl (fun q => by cases q) (Nat.le_of_ble_eq_true rfl) ?_
  refine V_iload_n 0 dX2_keptAt_0 rfl ?_
  refine V_if_lt 1 19 dX2_keptAt_1 rfl (fun q => absurd q (nI_pos (by omega))) (fun _ => ?_)
  refine V_iload_n 4 dX2_keptAt_4 rfl ?_
  refine V_bipushv 5 (20) dX2_keptAt_5 (by decide) ?_
  refine V_icmp_ge 7 19 dX2_keptAt_7 rfl (fun q => absurd q (nI_ge (b := 20) hi (by decide))) (fun _ => ?_)
  refine V_aload_n 10 dX2_keptAt_10 rfl ?_
  refine V_get 11 dX2_keptAt_11 fdX2_11 (by exact hH.1) rfl ?_
  refine V_iload_n 14 dX2_keptAt_14 rfl ?_
  obtain ⟨f, e2, e3⟩ := hH.2.1
  refine V_aald 15 dX2_keptAt_15 e2 (vp_in_nI hi (by decide)) ?_
  rw [nI_clamp (by omega), e3 i hi]
  refine V_goto 16 20 dX2_keptAt_16 rfl ?_
  refine V_aret 20 dX2_keptAt_20 ?_
  exact k
set_option maxHeartbeats 1000000 in
set_option maxRecDepth 100000 in
theorem c_X2_forget (hH : HS G h g r nx hs K) (k : ∀ h1, HS G h1 g r nx 0 K → Fr g 1 h h1 → Post none h1 sz) : Cn l G yX2_forget cX2_forget 1 none 0 0 0 [.ref g] h sz Post := by
  refine Cn.of RX2 false (by decide) rfl (fun q => by cases q) (Nat.le_of_ble_eq_true rfl) ?_
  refine V_aload_n 0 dX2_forget_0 rfl ?_
  refine V_iconstv 1 (0) dX2_forget_1 (by decide) ?_
  refine V_put 2 dX2_forget_2 fpX2_21 (fun q => by cases q) (by exact hH.1) rfl rfl (Nat.le_of_ble_eq_true rfl) ?_
  refine V_vret 5 dX2_forget_5 ?_
  exact k _ (hH.ob (nx1 := nx) (hs1 := 0) rfl hH.2.2.2.1 (by omega)) (Fr1 _ _ _)
set_option maxHeartbeats 1000000 in
set_option maxRecDepth 100000 in
theorem c_X2_keep (hH : HS G h g r nx hs K) (hE : EA G h o r E) (hR : RA G h r Q) (hdo : o + 5 ≤ g ∨ g + 102 ≤ o) (hdr : r + 3 ≤ g) (k : ∀ h1, HS G h1 g r (kpN nx) (kpS hs) (va_up K nx (eH' E (eH (K nx)))) → Fr g 102 h h1 → Post none h1 sz) : Cn l G yX2_keep cX2_keep 3 none 2 0 0 [.ref g, .ref o] h sz Post := by
  refine Cn.of RX2 false (by decide) rfl (fun q => by cases q) (Nat.le_of_ble_eq_true rfl) ?_
  have hnx := hH.2.2.2.1
  have hhs := hH.2.2.2.2
  refine V_aload_n 0 dX2_keep_0 rfl ?_
  refine V_aload_n 1 dX2_keep_1 rfl ?_
  refine V_get 2 dX2_keep_2 fdX2_17 (by first | exact hH.1 | exact (hH.2.2.1 nx hnx).1) rfl ?_
  refine V_iv1 5 dX2_keep_5 kvX2_27 rfl (by first | exact hH.1 | exact (hH.2.2.1 nx hnx).1) rfl rfl (c_X2_keptAt hH nx hH.2.2.2.1 ?_)
  refine V_astore_n 8 dX2_keep_8 rfl rfl ?_
  refine V_aload_n 9 dX2_keep_9 rfl ?_
  refine V_ifnonnull 10 14 dX2_keep_10 rfl ?_
  refine V_aload_n 14 dX2_keep_14 rfl ?_
  refine V_aload_n 15 dX2_keep_15 rfl ?_
  refine V_iv1 16 dX2_keep_16 kvX2_31 rfl (by first | exact hH.1 | exact (hH.2.2.1 nx hnx).1) rfl rfl (c_X0_copyFrom (hH.2.2.1 nx hnx) hR (Or.inl (by omega)) hE (by omega) (fun h1 hW => ?_))
  have hF1 := hW.2.2.1
  replace hH := hH.el hnx hW.1 hF1
  refine V_aload_n 19 dX2_keep_19 rfl ?_
  refine V_aload_n 20 dX2_keep_20 rfl ?_
  refine V_get 21 dX2_keep_21 fdX2_17 (by first | exact hH.1 | exact (hH.2.2.1 nx hnx).1) rfl ?_
  refine V_iconstv 24 (1) dX2_keep_24 (by decide) ?_
  refine V_iadd 25 dX2_keep_25 ?_
  refine V_topi (nI (nx + 1)) (nI_1 nx) ?_
  refine V_bipushv 26 (20) dX2_keep_26 (by decide) ?_
  refine V_icmp_ge 28 40 dX2_keep_28 rfl (fun c_28 => ?_) (fun c_28 => ?_)
  · have e_28 : nI (kpN nx) = 0 := by unfold kpN; rw [if_neg (fun q => absurd ((nI_leI (a := 20) (by decide) (by omega)).mp c_28) (by omega))]; rfl
    refine V_iconstv 40 (0) dX2_keep_40 (by decide) ?_
    refine V_topi (nI (kpN nx)) e_28.symm ?_
    refine V_putHS 41 (kpN nx) hs dX2_keep_41 fpX2_17 hH rfl (by unfold kpN; split <;> omega) hhs rfl (fun h2 hH hF2 => ?_)
    refine V_aload_n 44 dX2_keep_44 rfl ?_
    refine V_aload_n 45 dX2_keep_45 rfl ?_
    refine V_get 46 dX2_keep_46 fdX2_21 (by first | exact hH.1 | exact (hH.2.2.1 nx hnx).1) rfl ?_
    refine V_bipushv 49 (20) dX2_keep_49 (by decide) ?_
    refine V_icmp_ge 51 63 dX2_keep_51 rfl (fun c_51 => ?_) (fun c_51 => ?_)
    · have e_51 : nI (kpS hs) = 20 := by unfold kpS; rw [if_neg (fun q => absurd ((nI_leI (a := 20) (by decide) (by omega)).mp c_51) (by omega))]; rfl
      refine V_bipushv 63 (20) dX2_keep_63 (by decide) ?_
      refine V_topi (nI (kpS hs)) e_51.symm ?_
      refine V_putHS 65 (kpN nx) (kpS hs) dX2_keep_65 fpX2_21 hH rfl (by unfold kpN; split <;> omega) (by unfold kpS; split <;> omega) rfl (fun h3 hH hF3 => ?_)
      refine V_vret 68 dX2_keep_68 ?_
      exact k _ hH (fun a ha => by rw [hF3 a (by omega), hF2 a (by omega), hF1 a (by omega)])
    · have e_51 : nI (kpS hs) = nI (hs + 1) := by unfold kpS; rw [if_pos (Nat.lt_of_not_le (fun q => c_51 (nI_le (a := 20) q (by omega))))]
      refine V_aload_n 54 dX2_keep_54 rfl ?_
      refine V_get 55 dX2_keep_55 fdX2_21 (by first | exact hH.1 | exact (hH.2.2.1 nx hnx).1) rfl ?_
      refine V_iconstv 58 (1) dX2_keep_58 (by decide) ?_
      refine V_iadd 59 dX2_keep_59 ?_
      refine V_topi (nI (hs + 1)) (nI_1 hs) ?_
      refine V_goto 60 65 dX2_keep_60 rfl ?_
      refine V_topi (nI (kpS hs)) e_51.symm ?_
      refine V_putHS 65 (kpN nx) (kpS hs) dX2_keep_65 fpX2_21 hH rfl (by unfold kpN; split <;> omega) (by unfold kpS; split <;> omega) rfl (fun h3 hH hF3 => ?_)
      refine V_vret 68 dX2_keep_68 ?_
      exact k _ hH (fun a ha => by rw [hF3 a (by omega), hF2 a (by omega), hF1 a (by omega)])
  · have e_28 : nI (kpN nx) = nI (nx + 1) := by unfold kpN; rw [if_pos (Nat.lt_of_not_le (fun q => c_28 (nI_le (a := 20) q (by omega))))]
    refine V_aload_n 31 dX2_keep_31 rfl ?_
    refine V_get 32 dX2_keep_32 fdX2_17 (by first | exact hH.1 | exact (hH.2.2.1 nx hnx).1) rfl ?_
    refine V_iconstv 35 (1) dX2_keep_35 (by decide) ?_
    refine V_iadd 36 dX2_keep_36 ?_
    refine V_topi (nI (nx + 1)) (nI_1 nx) ?_
    refine V_goto 37 41 dX2_keep_37 rfl ?_
    refine V_topi (nI (kpN nx)) e_28.symm ?_
    refine V_putHS 41 (kpN nx) hs dX2_keep_41 fpX2_17 hH rfl (by unfold kpN; split <;> omega) hhs rfl (fun h2 hH hF2 => ?_)
    refine V_aload_n 44 dX2_keep_44 rfl ?_
    refine V_aload_n 45 dX2_keep_45 rfl ?_
    refine V_get 46 dX2_keep_46 fdX2_21 (by first | exact hH.1 | exact (hH.2.2.1 nx hnx).1) rfl ?_
    refine V_bipushv 49 (20) dX2_keep_49 (by decide) ?_
    refine V_icmp_ge 51 63 dX2_keep_51 rfl (fun c_51 => ?_) (fun c_51 => ?_)
    · have e_51 : nI (kpS hs) = 20 := by unfold kpS; rw [if_neg (fun q => absurd ((nI_leI (a := 20) (by decide) (by omega)).mp c_51) (by omega))]; rfl
      refine V_bipushv 63 (20) dX2_keep_63 (by decide) ?_
      refine V_topi (nI (kpS hs)) e_51.symm ?_
      refine V_putHS 65 (kpN nx) (kpS hs) dX2_keep_65 fpX2_21 hH rfl (by unfold kpN; split <;> omega) (by unfold kpS; split <;> omega) rfl (fun h3 hH hF3 => ?_)
      refine V_vret 68 dX2_keep_68 ?_
      exact k _ hH (fun a ha => by rw [hF3 a (by omega), hF2 a (by omega), hF1 a (by omega)])
    · have e_51 : nI (kpS hs) = nI (hs + 1) := by unfold kpS; rw [if_pos (Nat.lt_of_not_le (fun q => c_51 (nI_le (a := 20) q (by omega))))]
      refine V_aload_n 54 dX2_keep_54 rfl ?_
      refine V_get 55 dX2_keep_55 fdX2_21 (by first | exact hH.1 | exact (hH.2.2.1 nx hnx).1) rfl ?_
      refine V_iconstv 58 (1) dX2_keep_58 (by decide) ?_
      refine V_iadd 59 dX2_keep_59 ?_
      refine V_topi (nI (hs + 1)) (nI_1 hs) ?_
      refine V_goto 60 65 dX2_keep_60 rfl ?_
      refine V_topi (nI (kpS hs)) e_51.symm ?_
      refine V_putHS 65 (kpN nx) (kpS hs) dX2_keep_65 fpX2_21 hH rfl (by unfold kpN; split <;> omega) (by unfold kpS; split <;> omega) rfl (fun h3 hH hF3 => ?_)
      refine V_vret 68 dX2_keep_68 ?_
      exact k _ hH (fun a ha => by rw [hF3 a (by omega), hF2 a (by omega), hF1 a (by omega)])
set_option maxHeartbeats 1000000 in
set_option maxRecDepth 100000 in
theorem c_X2_giveBack (hH : HS G h g r nx hs K) (hE : EA G h o r E) (hR : RA G h r Q) (hdo : o + 5 ≤ g ∨ g + 102 ≤ o) (hdr : r + 3 ≤ g) (hdq : r + 3 ≤ o ∨ o + 5 ≤ r) (k1 : ¬ hs = 0 → ∀ h1, HS G h1 g r (kpL nx) (hs - 1) K → EA G h1 o r (eH' (K (kpL nx)) (eH E)) → FrP (fun a => a = g ∨ (o ≤ a ∧ a < o + 5)) h h1 → Post (some (.int 1)) h1 sz) (k0 : hs = 0 → Post (some (.int 0)) h sz) : Cn l G yX2_giveBack cX2_giveBack 4 (some .boolean) 2 0 0 [.ref g, .ref o] h sz Post := by
  refine Cn.of RX2 false (by decide) rfl (fun q => by cases q) (Nat.le_of_ble_eq_true rfl) ?_
  have hnx := hH.2.2.2.1
  have hhs := hH.2.2.2.2
  have hl : kpL nx < 20 := by unfold kpL; split <;> omega
  refine V_aload_n 0 dX2_giveBack_0 rfl ?_
  refine V_get 1 dX2_giveBack_1 fdX2_17 (by first | exact hH.1 | exact (hH.2.2.1 (kpL nx) hl).1 | exact hE.1) rfl ?_
  refine V_if_le 4 16 dX2_giveBack_4 rfl (fun c_4 => ?_) (fun c_4 => ?_)
  · have e_4 : nI (kpL nx) = 19 := by unfold kpL; rw [if_neg (fun q => absurd ((nI_leI (b := 0) (by omega) (by decide)).mp c_4) (by omega))]; rfl
    refine V_bipushv 16 (19) dX2_giveBack_16 (by decide) ?_
    refine V_topi (nI (kpL nx)) e_4.symm ?_
    refine V_istore_n 18 dX2_giveBack_18 rfl rfl ?_
    refine V_aload_n 19 dX2_giveBack_19 rfl ?_
    refine V_iload_n 20 dX2_giveBack_20 rfl ?_
    refine V_iv1 21 dX2_giveBack_21 kvX2_27 rfl (by first | exact hH.1 | exact (hH.2.2.1 (kpL nx) hl).1 | exact hE.1) rfl rfl (c_X2_keptAt hH (kpL nx) hl ?_)
    refine V_astore_n 24 dX2_giveBack_24 rfl rfl ?_
    refine V_aload_n 25 dX2_giveBack_25 rfl ?_
    refine V_get 26 dX2_giveBack_26 fdX2_21 (by first | exact hH.1 | exact (hH.2.2.1 (kpL nx) hl).1 | exact hE.1) rfl ?_
    refine V_if_eq 29 36 dX2_giveBack_29 rfl (fun c_29 => ?_) (fun c_29 => ?_)
    · have e_29 : hs = 0 := (nI_eq (b := 0) (by omega) (by decide)).mp c_29
      refine V_iconstv 36 (0) dX2_giveBack_36 (by decide) ?_
      refine V_zret 37 dX2_giveBack_37 (Or.inl rfl) ?_
      exact k0 e_29
    · have e_29 : ¬ hs = 0 := fun q => c_29 (by rw [q]; rfl)
      refine V_aload_n 32 dX2_giveBack_32 rfl ?_
      refine V_ifnonnull 33 38 dX2_giveBack_33 rfl ?_
      refine V_aload_n 38 dX2_giveBack_38 rfl ?_
      refine V_aload_n 39 dX2_giveBack_39 rfl ?_
      refine V_iv1 40 dX2_giveBack_40 kvX2_31 rfl (by first | exact hH.1 | exact (hH.2.2.1 (kpL nx) hl).1 | exact hE.1) rfl rfl (c_X0_copyFrom hE hR hdq (hH.2.2.1 (kpL nx) hl) (by omega) (fun h1 hW => ?_))
      have hF1 := hW.2.2.1
      have hE1 := hW.1
      replace hH := hH.fr hF1 (by omega)
      refine V_aload_n 43 dX2_giveBack_43 rfl ?_
      refine V_iload_n 44 dX2_giveBack_44 rfl ?_
      refine V_putHS 45 (kpL nx) hs dX2_giveBack_45 fpX2_17 hH rfl hl hhs rfl (fun h2 hH hF2 => ?_)
      refine V_aload_n 48 dX2_giveBack_48 rfl ?_
      refine V_dupr 49 dX2_giveBack_49 ?_
      refine V_get 50 dX2_giveBack_50 fdX2_21 (by first | exact hH.1 | exact (hH.2.2.1 (kpL nx) hl).1 | exact hE.1) rfl ?_
      refine V_iconstv 53 (1) dX2_giveBack_53 (by decide) ?_
      refine V_isub 54 dX2_giveBack_54 ?_
      refine V_topi (nI (hs - 1)) (pk_sub (a := hs) (b := 1) (by omega)) ?_
      refine V_putHS 55 (kpL nx) (hs - 1) dX2_giveBack_55 fpX2_21 hH rfl hl (by omega) rfl (fun h3 hH hF3 => ?_)
      refine V_iconstv 58 (1) dX2_giveBack_58 (by decide) ?_
      refine V_zret 59 dX2_giveBack_59 (Or.inr rfl) ?_
      exact k1 e_29 _ hH ((hE1.fr hF2 (by omega)).fr hF3 (by omega)) (fun a ha => by rw [hF3 a (fun q => ha (Or.inl (by omega))), hF2 a (fun q => ha (Or.inl (by omega))), hF1 a (fun q => ha (Or.inr q))])
  · have e_4 : nI (kpL nx) = nI nx - 1 := by unfold kpL; rw [if_pos (Nat.pos_of_ne_zero (fun q => c_4 (by rw [q]; decide)))]; exact (pk_sub (a := nx) (b := 1) (Nat.pos_of_ne_zero (fun q => c_4 (by rw [q]; decide)))).symm
    refine V_aload_n 7 dX2_giveBack_7 rfl ?_
    refine V_get 8 dX2_giveBack_8 fdX2_17 (by first | exact hH.1 | exact (hH.2.2.1 (kpL nx) hl).1 | exact hE.1) rfl ?_
    refine V_iconstv 11 (1) dX2_giveBack_11 (by decide) ?_
    refine V_isub 12 dX2_giveBack_12 ?_
    refine V_goto 13 18 dX2_giveBack_13 rfl ?_
    refine V_topi (nI (kpL nx)) e_4.symm ?_
    refine V_istore_n 18 dX2_giveBack_18 rfl rfl ?_
    refine V_aload_n 19 dX2_giveBack_19 rfl ?_
    refine V_iload_n 20 dX2_giveBack_20 rfl ?_
    refine V_iv1 21 dX2_giveBack_21 kvX2_27 rfl (by first | exact hH.1 | exact (hH.2.2.1 (kpL nx) hl).1 | exact hE.1) rfl rfl (c_X2_keptAt hH (kpL nx) hl ?_)
    refine V_astore_n 24 dX2_giveBack_24 rfl rfl ?_
    refine V_aload_n 25 dX2_giveBack_25 rfl ?_
    refine V_get 26 dX2_giveBack_26 fdX2_21 (by first | exact hH.1 | exact (hH.2.2.1 (kpL nx) hl).1 | exact hE.1) rfl ?_
    refine V_if_eq 29 36 dX2_giveBack_29 rfl (fun c_29 => ?_) (fun c_29 => ?_)
    · have e_29 : hs = 0 := (nI_eq (b := 0) (by omega) (by decide)).mp c_29
      refine V_iconstv 36 (0) dX2_giveBack_36 (by decide) ?_
      refine V_zret 37 dX2_giveBack_37 (Or.inl rfl) ?_
      exact k0 e_29
    · have e_29 : ¬ hs = 0 := fun q => c_29 (by rw [q]; rfl)
      refine V_aload_n 32 dX2_giveBack_32 rfl ?_
      refine V_ifnonnull 33 38 dX2_giveBack_33 rfl ?_
      refine V_aload_n 38 dX2_giveBack_38 rfl ?_
      refine V_aload_n 39 dX2_giveBack_39 rfl ?_
      refine V_iv1 40 dX2_giveBack_40 kvX2_31 rfl (by first | exact hH.1 | exact (hH.2.2.1 (kpL nx) hl).1 | exact hE.1) rfl rfl (c_X0_copyFrom hE hR hdq (hH.2.2.1 (kpL nx) hl) (by omega) (fun h1 hW => ?_))
      have hF1 := hW.2.2.1
      have hE1 := hW.1
      replace hH := hH.fr hF1 (by omega)
      refine V_aload_n 43 dX2_giveBack_43 rfl ?_
      refine V_iload_n 44 dX2_giveBack_44 rfl ?_
      refine V_putHS 45 (kpL nx) hs dX2_giveBack_45 fpX2_17 hH rfl hl hhs rfl (fun h2 hH hF2 => ?_)
      refine V_aload_n 48 dX2_giveBack_48 rfl ?_
      refine V_dupr 49 dX2_giveBack_49 ?_
      refine V_get 50 dX2_giveBack_50 fdX2_21 (by first | exact hH.1 | exact (hH.2.2.1 (kpL nx) hl).1 | exact hE.1) rfl ?_
      refine V_iconstv 53 (1) dX2_giveBack_53 (by decide) ?_
      refine V_isub 54 dX2_giveBack_54 ?_
      refine V_topi (nI (hs - 1)) (pk_sub (a := hs) (b := 1) (by omega)) ?_
      refine V_putHS 55 (kpL nx) (hs - 1) dX2_giveBack_55 fpX2_21 hH rfl hl (by omega) rfl (fun h3 hH hF3 => ?_)
      refine V_iconstv 58 (1) dX2_giveBack_58 (by decide) ?_
      refine V_zret 59 dX2_giveBack_59 (Or.inr rfl) ?_
      exact k1 e_29 _ hH ((hE1.fr hF2 (by omega)).fr hF3 (by omega)) (fun a ha => by rw [hF3 a (fun q => ha (Or.inl (by omega))), hF2 a (fun q => ha (Or.inl (by omega))), hF1 a (fun q => ha (Or.inr q))])
theorem V_putF {own : String} {cc : ByteArray} {nL : Nat} {rt : Option FieldType} {ini : Bool} {d kc ks : Nat} {lv : List (Option Value)} {st : List Value} (pc : Nat) {idx j : Nat} {x : Int32} (F1 : FT) (hd : decode cc pc = .ok (.putfield idx, 3)) (hf : zFp own idx 1 j .int false) (hS : FS G h g r S) (hF : FrP (fun a => a = g) h0 h) (hfs : (fF g S.1).set j (.int x) = fF g F1) (hj : Nat.blt j 6 = true) (kk : ∀ h, FS G h g r (F1, S.2) → FrP (fun a => a = g) h0 h → V l G own cc nL rt ini d kc ks Post (pc + 3) lv st h sz) : V l G own cc nL rt ini d kc ks Post pc lv (.int x :: .ref g :: st) h sz := V_put pc hd hf (fun q => by cases q) hS.1 rfl rfl (Nat.le_of_ble_eq_true hj) (kk _ (hS.ob hfs) (fun a ha => (hpS_ne h _ ha).trans (hF a ha)))
set_option maxHeartbeats 1000000 in
set_option maxRecDepth 100000 in
theorem c_X1_reset (hS : FS G h g r S) (hW : WE G h h o r E Q) (k : ∀ h1, FS G h1 g r ((snE E 0, 0, 0, 0, 0), S.2) → FrP (fun a => a = g) h h1 → Post none h1 sz) : Cn l G yX1_reset cX1_reset 2 none 2 0 0 [.ref g, .ref o] h sz Post := by
  refine Cn.of RX1 false (by decide) rfl (fun q => by cases q) (Nat.le_of_ble_eq_true rfl) ?_
  have hF : FrP (fun a => a = g) h h := fun _ _ => rfl
  refine V_aload_n 0 dX1_reset_0 rfl ?_
  refine V_aload_n 1 dX1_reset_1 rfl ?_
  refine V_iconstv 2 (0) dX1_reset_2 (by decide) ?_
  refine V_iv1 3 dX1_reset_3 kvX1_36 rfl (by first | exact hS.1 | exact hW.1.1) rfl rfl (c_X0_sentOf hW ?_)
  refine V_putF 6 (snE E 0, S.1.2) dX1_reset_6 fpX1_17 hS hF rfl rfl (fun h hS hF => ?_)
  refine V_aload_n 9 dX1_reset_9 rfl ?_
  refine V_iconstv 10 (0) dX1_reset_10 (by decide) ?_
  refine V_putF 11 (snE E 0, 0, S.1.2.2) dX1_reset_11 fpX1_21 hS hF rfl rfl (fun h hS hF => ?_)
  refine V_aload_n 14 dX1_reset_14 rfl ?_
  refine V_iconstv 15 (0) dX1_reset_15 (by decide) ?_
  refine V_putF 16 (snE E 0, 0, 0, S.1.2.2.2) dX1_reset_16 fpX1_24 hS hF rfl rfl (fun h hS hF => ?_)
  refine V_aload_n 19 dX1_reset_19 rfl ?_
  refine V_iconstv 20 (0) dX1_reset_20 (by decide) ?_
  refine V_putF 21 (snE E 0, 0, 0, 0, S.1.2.2.2.2) dX1_reset_21 fpX1_27 hS hF rfl rfl (fun h hS hF => ?_)
  refine V_aload_n 24 dX1_reset_24 rfl ?_
  refine V_iconstv 25 (0) dX1_reset_25 (by decide) ?_
  refine V_putF 26 (snE E 0, 0, 0, 0, 0) dX1_reset_26 fpX1_30 hS hF rfl rfl (fun h hS hF => ?_)
  refine V_vret 29 dX1_reset_29 ?_
  exact k _ hS hF
set_option maxHeartbeats 1000000 in
set_option maxRecDepth 100000 in
theorem c_X1_note (hS : FS G h g r S) (hE : EA G h o r E) (hR : RA G h r Q) (hdr : r + 3 ≤ o ∨ o + 5 ≤ r) (hdg : ∀ a, o ≤ a → a < o + 5 → ¬ a = g) (hdg2 : ∀ a, r ≤ a → a < r + 3 → ¬ a = g) (k : ∀ h1, FS G h1 g r (noteF Q E S.1, S.2) → FrP (fun a => a = g) h h1 → Post none h1 sz) : Cn l G yX1_note cX1_note 3 none 2 0 0 [.ref g, .ref o] h sz Post := by
  refine Cn.of RX1 false (by decide) rfl (fun q => by cases q) (Nat.le_of_ble_eq_true rfl) ?_
  have hF : FrP (fun a => a = g) h h := fun _ _ => rfl
  refine V_aload_n 0 dX1_note_0 rfl ?_
  refine V_iconstv 1 (0) dX1_note_1 (by decide) ?_
  refine V_iv1 2 dX1_note_2 kvX1_36 rfl (by first | exact hS.1 | exact (hE.frP hF hdg).1 | exact hE.1) rfl rfl (c_X0_sentOf (h0 := h) ⟨hE, hR, Fr.rf, hdr⟩ ?_)
  refine V_aload_n 5 dX1_note_5 rfl ?_
  refine V_get 6 dX1_note_6 fdX1_17 (by first | exact hS.1 | exact (hE.frP hF hdg).1 | exact hE.1) rfl ?_
  refine V_isub 9 dX1_note_9 ?_
  refine V_istore_n 10 dX1_note_10 rfl rfl ?_
  refine V_aload_n 11 dX1_note_11 rfl ?_
  refine V_aload_n 12 dX1_note_12 rfl ?_
  refine V_get 13 dX1_note_13 fdX1_30 (by first | exact hS.1 | exact (hE.frP hF hdg).1 | exact hE.1) rfl ?_
  refine V_if_ne 16 23 dX1_note_16 rfl (fun c_16 => ?_) (fun c_16 => ?_)
  · refine V_aload_n 23 dX1_note_23 rfl ?_
    refine V_get 24 dX1_note_24 fdX1_21 (by first | exact hS.1 | exact (hE.frP hF hdg).1 | exact hE.1) rfl ?_
    refine V_iload_n 27 dX1_note_27 rfl ?_
    refine V_min 28 dX1_note_28 mmX1_61 mm_s_min mm_i mm_c_min rfl rfl ?_
    refine V_topi (ntL S.1 (snE E 0 - S.1.1)) (by first | exact (if_pos c_16).symm | exact (if_neg c_16).symm) ?_
    refine V_putF 31 (S.1.1, ntL S.1 (snE E 0 - S.1.1), S.1.2.2) dX1_note_31 fpX1_21 hS hF rfl rfl (fun h hS hF => ?_)
    refine V_aload_n 34 dX1_note_34 rfl ?_
    refine V_aload_n 35 dX1_note_35 rfl ?_
    refine V_get 36 dX1_note_36 fdX1_24 (by first | exact hS.1 | exact (hE.frP hF hdg).1 | exact hE.1) rfl ?_
    refine V_iload_n 39 dX1_note_39 rfl ?_
    refine V_max 40 dX1_note_40 mmX1_67 mm_s_max mm_i mm_c_max rfl rfl ?_
    refine V_putF 43 (S.1.1, ntL S.1 (snE E 0 - S.1.1), ntG S.1 (snE E 0 - S.1.1), S.1.2.2.2) dX1_note_43 fpX1_24 hS hF rfl rfl (fun h hS hF => ?_)
    refine V_aload_n 46 dX1_note_46 rfl ?_
    refine V_dupr 47 dX1_note_47 ?_
    refine V_get 48 dX1_note_48 fdX1_27 (by first | exact hS.1 | exact (hE.frP hF hdg).1 | exact hE.1) rfl ?_
    refine V_aload_n 51 dX1_note_51 rfl ?_
    refine V_iv0 52 dX1_note_52 kvX1_70 rfl (by first | exact hS.1 | exact (hE.frP hF hdg).1 | exact hE.1) rfl rfl (c_X0_head (h0 := h) ⟨hE.frP hF hdg, hR.frP hF hdg2, Fr.rf, hdr⟩ ?_)
    refine V_iconstv 55 (-1) dX1_note_55 (by decide) ?_
    refine V_icmp_eq 56 63 dX1_note_56 rfl (fun c_56 => ?_) (fun c_56 => ?_)
    · refine V_iconstv 63 (0) dX1_note_63 (by decide) ?_
      refine V_iadd 64 dX1_note_64 ?_
      refine V_topi (S.1.2.2.2.1 + (if hdE E Q.1 = -1 then 0 else 1)) (by first | (rw [if_pos c_56]) | (rw [if_neg c_56])) ?_
      refine V_putF 65 (S.1.1, ntL S.1 (snE E 0 - S.1.1), ntG S.1 (snE E 0 - S.1.1), S.1.2.2.2.1 + (if hdE E Q.1 = -1 then 0 else 1), S.1.2.2.2.2) dX1_note_65 fpX1_27 hS hF rfl rfl (fun h hS hF => ?_)
      refine V_aload_n 68 dX1_note_68 rfl ?_
      refine V_dupr 69 dX1_note_69 ?_
      refine V_get 70 dX1_note_70 fdX1_30 (by first | exact hS.1 | exact (hE.frP hF hdg).1 | exact hE.1) rfl ?_
      refine V_iconstv 73 (1) dX1_note_73 (by decide) ?_
      refine V_iadd 74 dX1_note_74 ?_
      refine V_putF 75 (noteF Q E S.1) dX1_note_75 fpX1_30 hS hF rfl rfl (fun h hS hF => ?_)
      refine V_vret 78 dX1_note_78 ?_
      exact k _ hS hF
    · refine V_iconstv 59 (1) dX1_note_59 (by decide) ?_
      refine V_goto 60 64 dX1_note_60 rfl ?_
      refine V_iadd 64 dX1_note_64 ?_
      refine V_topi (S.1.2.2.2.1 + (if hdE E Q.1 = -1 then 0 else 1)) (by first | (rw [if_pos c_56]) | (rw [if_neg c_56])) ?_
      refine V_putF 65 (S.1.1, ntL S.1 (snE E 0 - S.1.1), ntG S.1 (snE E 0 - S.1.1), S.1.2.2.2.1 + (if hdE E Q.1 = -1 then 0 else 1), S.1.2.2.2.2) dX1_note_65 fpX1_27 hS hF rfl rfl (fun h hS hF => ?_)
      refine V_aload_n 68 dX1_note_68 rfl ?_
      refine V_dupr 69 dX1_note_69 ?_
      refine V_get 70 dX1_note_70 fdX1_30 (by first | exact hS.1 | exact (hE.frP hF hdg).1 | exact hE.1) rfl ?_
      refine V_iconstv 73 (1) dX1_note_73 (by decide) ?_
      refine V_iadd 74 dX1_note_74 ?_
      refine V_putF 75 (noteF Q E S.1) dX1_note_75 fpX1_30 hS hF rfl rfl (fun h hS hF => ?_)
      refine V_vret 78 dX1_note_78 ?_
      exact k _ hS hF
  · refine V_iload_n 19 dX1_note_19 rfl ?_
    refine V_goto 20 31 dX1_note_20 rfl ?_
    refine V_topi (ntL S.1 (snE E 0 - S.1.1)) (by first | exact (if_pos c_16).symm | exact (if_neg c_16).symm) ?_
    refine V_putF 31 (S.1.1, ntL S.1 (snE E 0 - S.1.1), S.1.2.2) dX1_note_31 fpX1_21 hS hF rfl rfl (fun h hS hF => ?_)
    refine V_aload_n 34 dX1_note_34 rfl ?_
    refine V_aload_n 35 dX1_note_35 rfl ?_
    refine V_get 36 dX1_note_36 fdX1_24 (by first | exact hS.1 | exact (hE.frP hF hdg).1 | exact hE.1) rfl ?_
    refine V_iload_n 39 dX1_note_39 rfl ?_
    refine V_max 40 dX1_note_40 mmX1_67 mm_s_max mm_i mm_c_max rfl rfl ?_
    refine V_putF 43 (S.1.1, ntL S.1 (snE E 0 - S.1.1), ntG S.1 (snE E 0 - S.1.1), S.1.2.2.2) dX1_note_43 fpX1_24 hS hF rfl rfl (fun h hS hF => ?_)
    refine V_aload_n 46 dX1_note_46 rfl ?_
    refine V_dupr 47 dX1_note_47 ?_
    refine V_get 48 dX1_note_48 fdX1_27 (by first | exact hS.1 | exact (hE.frP hF hdg).1 | exact hE.1) rfl ?_
    refine V_aload_n 51 dX1_note_51 rfl ?_
    refine V_iv0 52 dX1_note_52 kvX1_70 rfl (by first | exact hS.1 | exact (hE.frP hF hdg).1 | exact hE.1) rfl rfl (c_X0_head (h0 := h) ⟨hE.frP hF hdg, hR.frP hF hdg2, Fr.rf, hdr⟩ ?_)
    refine V_iconstv 55 (-1) dX1_note_55 (by decide) ?_
    refine V_icmp_eq 56 63 dX1_note_56 rfl (fun c_56 => ?_) (fun c_56 => ?_)
    · refine V_iconstv 63 (0) dX1_note_63 (by decide) ?_
      refine V_iadd 64 dX1_note_64 ?_
      refine V_topi (S.1.2.2.2.1 + (if hdE E Q.1 = -1 then 0 else 1)) (by first | (rw [if_pos c_56]) | (rw [if_neg c_56])) ?_
      refine V_putF 65 (S.1.1, ntL S.1 (snE E 0 - S.1.1), ntG S.1 (snE E 0 - S.1.1), S.1.2.2.2.1 + (if hdE E Q.1 = -1 then 0 else 1), S.1.2.2.2.2) dX1_note_65 fpX1_27 hS hF rfl rfl (fun h hS hF => ?_)
      refine V_aload_n 68 dX1_note_68 rfl ?_
      refine V_dupr 69 dX1_note_69 ?_
      refine V_get 70 dX1_note_70 fdX1_30 (by first | exact hS.1 | exact (hE.frP hF hdg).1 | exact hE.1) rfl ?_
      refine V_iconstv 73 (1) dX1_note_73 (by decide) ?_
      refine V_iadd 74 dX1_note_74 ?_
      refine V_putF 75 (noteF Q E S.1) dX1_note_75 fpX1_30 hS hF rfl rfl (fun h hS hF => ?_)
      refine V_vret 78 dX1_note_78 ?_
      exact k _ hS hF
    · refine V_iconstv 59 (1) dX1_note_59 (by decide) ?_
      refine V_goto 60 64 dX1_note_60 rfl ?_
      refine V_iadd 64 dX1_note_64 ?_
      refine V_topi (S.1.2.2.2.1 + (if hdE E Q.1 = -1 then 0 else 1)) (by first | (rw [if_pos c_56]) | (rw [if_neg c_56])) ?_
      refine V_putF 65 (S.1.1, ntL S.1 (snE E 0 - S.1.1), ntG S.1 (snE E 0 - S.1.1), S.1.2.2.2.1 + (if hdE E Q.1 = -1 then 0 else 1), S.1.2.2.2.2) dX1_note_65 fpX1_27 hS hF rfl rfl (fun h hS hF => ?_)
      refine V_aload_n 68 dX1_note_68 rfl ?_
      refine V_dupr 69 dX1_note_69 ?_
      refine V_get 70 dX1_note_70 fdX1_30 (by first | exact hS.1 | exact (hE.frP hF hdg).1 | exact hE.1) rfl ?_
      refine V_iconstv 73 (1) dX1_note_73 (by decide) ?_
      refine V_iadd 74 dX1_note_74 ?_
      refine V_putF 75 (noteF Q E S.1) dX1_note_75 fpX1_30 hS hF rfl rfl (fun h hS hF => ?_)
      refine V_vret 78 dX1_note_78 ?_
      exact k _ hS hF
set_option maxHeartbeats 1000000 in
set_option maxRecDepth 100000 in
theorem c_X1_explore : ∀ (m : Nat), m ≤ 3 → ∀ (o : Nat) (E : ET) (S : FT × (Nat → ET)) (h : hpT) (Post : Option Value → hpT → Nat → Prop), FS G h g r S → EA G h o r E → RA G h r Q → r + 3 ≤ g → r + 3 ≤ o → (o + 5 ≤ g ∨ g + 2 + 5 * m ≤ o) → (∀ h1, FS G h1 g r (exE Q m E S) → FrP (exR g m) h h1 → Post none h1 sz) → Cn l G yX1_explore cX1_explore 5 none (m + 6) 0 0 [.ref g, .ref o, .int (nI m)] h sz Post := by
  intro m
  induction m with
  | zero =>
    intro hm o E S h Post hS hE hR hdg hdr hdo k
    refine Cn.of RX1 false (by decide) rfl (fun q => by cases q) (Nat.le_of_ble_eq_true rfl) ?_
    refine V_iload_n 0 dX1_explore_0 rfl ?_
    refine V_iconstv 1 (1) dX1_explore_1 (by decide) ?_
    refine V_icmp_lt 2 21 dX1_explore_2 rfl (fun _ => ?_) (fun q => absurd (show nI 0 < 1 by decide) q)
    refine V_null 21 dX1_explore_21 ?_
    refine V_astore_nN 22 dX1_explore_22 rfl rfl ?_
    refine V_aload_nN 23 dX1_explore_23 rfl ?_
    refine V_ifnullN 24 34 dX1_explore_24 rfl ?_
    refine V_aload_n 34 dX1_explore_34 rfl ?_
    refine V_aload_n 35 dX1_explore_35 rfl ?_
    refine V_iv1 36 dX1_explore_36 kvX1_43 rfl (by first | exact hS.1 | exact hE.1) rfl rfl (c_X1_note hS hE hR (Or.inl hdr) (fun a h1 h2 q => by omega) (fun a h1 h2 q => by omega) (fun h1 hS hF => ?_))
    refine V_vret 39 dX1_explore_39 ?_
    exact k _ hS (fun a ha => hF a (fun q => ha (Or.inl q)))
  | succ m ih =>
    intro hm o E S h Post hS hE hR hdg hdr hdo k
    have hc : ∀ i, i ≤ 12 → ∀ (h1 : hpT), ¬ eN E = 0 → FS G h1 g r ((List.range i).foldl (exS (exE Q m) Q m E) S) → FrP (exR g (m + 1)) h h1 → V l G RX1 cX1_explore 5 none false (m + 1 + 6) 0 0 Post 43 [some (.ref g), some (.ref o), some (.int (nI (m + 1))), some (.ref (g + 2 + 5 * m)), some (.int (nI i))] [] h1 sz := by
      refine up_ind 12 (fun i hi ihl h1 hne hS hF => ?_)
      have hE1 := hE.frP hF (fun a h1 h2 q => by unfold exR at q; omega)
      have hR1 := hR.frP hF (fun a h1 h2 q => by unfold exR at q; omega)
      refine V_iload 43 dX1_explore_43 rfl ?_
      refine V_bipushv 45 (12) dX1_explore_45 (by decide) ?_
      refine V_icmp_ge 47 85 dX1_explore_47 rfl (fun c_47 => ?_) (fun c_47 => ?_)
      · have e_47 : i = 12 := Nat.le_antisymm hi ((nI_leI (a := 12) (by decide) (by omega)).mp c_47)
        subst e_47
        refine V_vret 85 dX1_explore_85 ?_
        rw [exE, if_neg hne] at k
        exact k _ hS hF
      · have e_47 : i < 12 := Nat.lt_of_not_le (fun q => c_47 (nI_le (a := 12) q (by omega)))
        refine V_aload_n 50 dX1_explore_50 rfl ?_
        refine V_iload 51 dX1_explore_51 rfl ?_
        refine V_iv1 53 dX1_explore_53 kvX1_47 rfl (by first | exact hS.1 | exact hE1.1 | exact (hS.2.2 m (by omega)).1 | exact hW.1.1 | exact hW2.1.1) rfl rfl (c_X0_isBusy (h0 := h1) ⟨hE1, hR1, Fr.rf, Or.inl hdr⟩ (fun c_53 => ?_) (fun c_53 => ?_))
        · refine V_if_eq 56 79 dX1_explore_56 rfl (fun q => absurd q (by decide)) (fun _ => ?_)
          refine V_aload_n 59 dX1_explore_59 rfl ?_
          refine V_aload_n 60 dX1_explore_60 rfl ?_
          refine V_iv1 61 dX1_explore_61 kvX1_51 rfl (by first | exact hS.1 | exact hE1.1 | exact (hS.2.2 m (by omega)).1 | exact hW.1.1 | exact hW2.1.1) rfl rfl (c_X0_copyFrom (hS.2.2 m (by omega)) hR1 (Or.inl (by omega)) hE1 (by omega) (fun h2 hW => ?_))
          refine V_aload_n 64 dX1_explore_64 rfl ?_
          refine V_iload 65 dX1_explore_65 rfl ?_
          refine V_iv1 67 dX1_explore_67 kvX1_54 rfl (by first | exact hS.1 | exact hE1.1 | exact (hS.2.2 m (by omega)).1 | exact hW.1.1 | exact hW2.1.1) rfl rfl (c_X0_deliverFrom hW (fun h3 hW2 => ?_))
          have hF2 := hW2.2.2.1
          replace hS := hS.el (by omega) hW2.1 hF2
          refine V_pop 70 dX1_explore_70 ?_
          refine V_aload_n 71 dX1_explore_71 rfl ?_
          refine V_aload_n 72 dX1_explore_72 rfl ?_
          refine V_iload_n 73 dX1_explore_73 rfl ?_
          refine V_iconstv 74 (1) dX1_explore_74 (by decide) ?_
          refine V_isub 75 dX1_explore_75 ?_
          refine V_topi (nI m) (nI_pred m) ?_
          refine V_is3 76 dX1_explore_76 ksX1_57 rfl (Nat.ble_eq_true_of_le (Nat.le_refl _)) (ih (by omega) (g + 2 + 5 * m) _ _ h3 _ hS hW2.1 hW2.2.1 hdg (by omega) (Or.inr (by omega)) (fun h4 hS hF3 => ?_))
          replace hF : FrP (exR g (m + 1)) h h4 := fun a ha => by
            rw [hF3 a (fun q => ha (by unfold exR at q ⊢; omega)), hF2 a (fun q => ha (by unfold exR; omega)), hF a ha]
          refine V_iinc 79 (nI (i + 1)) dX1_explore_79 rfl (nI_inc i) rfl rfl ?_
          refine V_goto 82 43 dX1_explore_82 rfl ?_
          first | exact ihl (i + 1) rfl (by omega) _ hne (by rw [foldl_range_succ]; unfold exS; rw [if_pos c_53]; exact hS) hF | exact ihl (i + 1) rfl (by omega) _ hne (by rw [foldl_range_succ]; unfold exS; rw [if_neg (Bool.eq_false_iff.mp c_53)]; exact hS) hF
        · refine V_if_eq 56 79 dX1_explore_56 rfl (fun _ => ?_) (fun q => absurd q (by decide))
          refine V_iinc 79 (nI (i + 1)) dX1_explore_79 rfl (nI_inc i) rfl rfl ?_
          refine V_goto 82 43 dX1_explore_82 rfl ?_
          first | exact ihl (i + 1) rfl (by omega) _ hne (by rw [foldl_range_succ]; unfold exS; rw [if_pos c_53]; exact hS) hF | exact ihl (i + 1) rfl (by omega) _ hne (by rw [foldl_range_succ]; unfold exS; rw [if_neg (Bool.eq_false_iff.mp c_53)]; exact hS) hF
    refine Cn.of RX1 false (by decide) rfl (fun q => by cases q) (Nat.le_of_ble_eq_true rfl) ?_
    refine V_iload_n 0 dX1_explore_0 rfl ?_
    refine V_iconstv 1 (1) dX1_explore_1 (by decide) ?_
    refine V_icmp_lt 2 21 dX1_explore_2 rfl (fun q => absurd q (nI_nlt (b := 1) (by omega) (by omega))) (fun _ => ?_)
    refine V_iload_n 5 dX1_explore_5 rfl ?_
    refine V_iconstv 6 (3) dX1_explore_6 (by decide) ?_
    refine V_icmp_gt 7 21 dX1_explore_7 rfl (fun q => absurd q (nI_nlt (a := 3) (by omega) (by decide))) (fun _ => ?_)
    refine V_aload_n 10 dX1_explore_10 rfl ?_
    refine V_get 11 dX1_explore_11 fdX1_11 (by first | exact hS.1 | exact hE.1) rfl ?_
    refine V_iload_n 14 dX1_explore_14 rfl ?_
    refine V_iconstv 15 (1) dX1_explore_15 (by decide) ?_
    refine V_isub 16 dX1_explore_16 ?_
    refine V_topi (nI m) (nI_pred m) ?_
    obtain ⟨f, e2, e3⟩ := hS.2.1
    refine V_aald 17 dX1_explore_17 e2 (vp_in_nI (by omega) (by decide)) ?_
    rw [nI_clamp (by omega), e3 m (by omega)]
    refine V_goto 18 22 dX1_explore_18 rfl ?_
    refine V_astore_n 22 dX1_explore_22 rfl rfl ?_
    refine V_aload_n 23 dX1_explore_23 rfl ?_
    refine V_ifnull 24 dX1_explore_24 ?_
    refine V_aload_n 27 dX1_explore_27 rfl ?_
    refine V_get 28 dX1_explore_28 fdX1_40 (by first | exact hS.1 | exact hE.1) rfl ?_
    refine V_if_ne 31 40 dX1_explore_31 rfl (fun c_31 => ?_) (fun c_31 => ?_)
    · have e_31 : ¬ eN E = 0 := fun q => c_31 (by show nI (eN E) = 0; rw [q]; rfl)
      refine V_iconstv 40 (0) dX1_explore_40 (by decide) ?_
      refine V_istore 41 dX1_explore_41 rfl rfl ?_
      exact hc 0 (by omega) h e_31 hS (fun _ _ => rfl)
    · have e_31 : eN E = 0 := (nI_eq (b := 0) (by have := hE.2.2.2.2.2.1; omega) (by decide)).mp c_31
      refine V_aload_n 34 dX1_explore_34 rfl ?_
      refine V_aload_n 35 dX1_explore_35 rfl ?_
      refine V_iv1 36 dX1_explore_36 kvX1_43 rfl (by first | exact hS.1 | exact hE.1) rfl rfl (c_X1_note hS hE hR (Or.inl hdr) (fun a h1 h2 q => by omega) (fun a h1 h2 q => by omega) (fun h1 hS hF => ?_))
      refine V_vret 39 dX1_explore_39 ?_
      rw [exE, if_pos e_31] at k
      exact k _ hS (fun a ha => hF a (fun q => ha (Or.inl q)))
end M20
