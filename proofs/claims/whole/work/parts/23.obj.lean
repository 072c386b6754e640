def f5 (x : Nat) : List Value := [.ref (x + 1), .ref (x + 3), .ref (x + 6), .ref (x + 9), .ref (x + 14), .ref (x + 19), .ref (x + 121)]
/-- the whole object of the class -/
def CA (G : zGT) (h : hpT) (x : Nat) (X : TX) (Qp Qd : RG) (En Et : ET) (nx hs : Nat) (K : Nat → ET) (S : FT × (Nat → ET)) : Prop := h x = some (ob 5 (f5 x)) ∧ TA G h (x + 1) X ∧ RA G h (x + 3) Qp ∧ RA G h (x + 6) Qd ∧ EA G h (x + 9) (x + 3) En ∧ EA G h (x + 14) (x + 3) Et ∧ HS G h (x + 19) (x + 3) nx hs K ∧ FS G h (x + 121) (x + 3) S
theorem TA.fr {G : zGT} {h h1 : hpT} {t a n : Nat} {X : TX} (hT : TA G h t X) (hF : Fr a n h h1) (hd : a + n ≤ t ∨ t + 2 ≤ a) : TA G h1 t X := by
  obtain ⟨e1, e2, e3⟩ := hT
  exact ⟨by rw [hF _ (by omega)]; exact e1, by rw [hF _ (by omega)]; exact e2, e3⟩
theorem Fr.of {o n a m : Nat} {h0 h : hpT} (hF : Fr o n h0 h) (h1 : a ≤ o) (h2 : o + n ≤ a + m) : Fr a m h0 h := fun q hq => hF q (fun z => hq (by omega))
theorem Fr.tr {o n : Nat} {h0 h1 h2 : hpT} (a : Fr o n h0 h1) (b : Fr o n h1 h2) : Fr o n h0 h2 := fun q hq => (b q hq).trans (a q hq)
theorem FrP.fr {P : Nat → Prop} {o n : Nat} {h0 h : hpT} (hF : FrP P h0 h) (hp : ∀ a, P a → o ≤ a ∧ a < o + n) : Fr o n h0 h := fun q hq => hF q (fun z => hq (hp q z))
section M23
variable {l : Launch} {G : zGT} {h h1 : hpT} {sz : Nat} {Post : Option Value → hpT → Nat → Prop} {x nx hs : Nat} {X : TX} {Qp Qd : RG} {En Et : ET} {K : Nat → ET} {S : FT × (Nat → ET)}
theorem CA.frO (hC : CA G h x X Qp Qd En Et nx hs K S) {a n : Nat} (hF : Fr a n h h1) (hd : a + n ≤ x ∨ x + 138 ≤ a) : CA G h1 x X Qp Qd En Et nx hs K S := by
  obtain ⟨c1, c2, c3, c4, c5, c6, c7, c8⟩ := hC
  exact ⟨by rw [hF _ (by omega)]; exact c1, c2.fr hF (by omega), c3.fr hF (by omega), c4.fr hF (by omega), c5.fr hF (by omega), c6.fr hF (by omega), c7.fr hF (by omega), c8.fr hF (by omega)⟩
theorem CA.now (hC : CA G h x X Qp Qd En Et nx hs K S) {E : ET} (hE : EA G h1 (x + 9) (x + 3) E) (hF : Fr (x + 9) 5 h h1) : CA G h1 x X Qp Qd E Et nx hs K S := by
  obtain ⟨c1, c2, c3, c4, c5, c6, c7, c8⟩ := hC
  exact ⟨by rw [hF _ (by omega)]; exact c1, c2.fr hF (by omega), c3.fr hF (by omega), c4.fr hF (by omega), hE, c6.fr hF (by omega), c7.fr hF (by omega), c8.fr hF (by omega)⟩
theorem CA.tri (hC : CA G h x X Qp Qd En Et nx hs K S) {E : ET} (hE : EA G h1 (x + 14) (x + 3) E) (hF : Fr (x + 14) 5 h h1) : CA G h1 x X Qp Qd En E nx hs K S := by
  obtain ⟨c1, c2, c3, c4, c5, c6, c7, c8⟩ := hC
  exact ⟨by rw [hF _ (by omega)]; exact c1, c2.fr hF (by omega), c3.fr hF (by omega), c4.fr hF (by omega), c5.fr hF (by omega), hE, c7.fr hF (by omega), c8.fr hF (by omega)⟩
theorem CA.his (hC : CA G h x X Qp Qd En Et nx hs K S) {nx1 hs1 : Nat} {K1 : Nat → ET} (hH : HS G h1 (x + 19) (x + 3) nx1 hs1 K1) (hF : Fr (x + 19) 102 h h1) : CA G h1 x X Qp Qd En Et nx1 hs1 K1 S := by
  obtain ⟨c1, c2, c3, c4, c5, c6, c7, c8⟩ := hC
  exact ⟨by rw [hF _ (by omega)]; exact c1, c2.fr hF (by omega), c3.fr hF (by omega), c4.fr hF (by omega), c5.fr hF (by omega), c6.fr hF (by omega), hH, c8.fr hF (by omega)⟩
theorem CA.for (hC : CA G h x X Qp Qd En Et nx hs K S) {S1 : FT × (Nat → ET)} (hH : FS G h1 (x + 121) (x + 3) S1) (hF : Fr (x + 121) 17 h h1) : CA G h1 x X Qp Qd En Et nx hs K S1 := by
  obtain ⟨c1, c2, c3, c4, c5, c6, c7, c8⟩ := hC
  exact ⟨by rw [hF _ (by omega)]; exact c1, c2.fr hF (by omega), c3.fr hF (by omega), c4.fr hF (by omega), c5.fr hF (by omega), c6.fr hF (by omega), c7.fr hF (by omega), hH⟩
theorem CA.pre (hC : CA G h x X Qp Qd En Et nx hs K S) {Q : RG} (hR : RA G h1 (x + 3) Q) (hF : Fr (x + 3) 3 h h1) : CA G h1 x X Q Qd En Et nx hs K S := by
  obtain ⟨c1, c2, c3, c4, c5, c6, c7, c8⟩ := hC
  exact ⟨by rw [hF _ (by omega)]; exact c1, c2.fr hF (by omega), hR, c4.fr hF (by omega), c5.fr hF (by omega), c6.fr hF (by omega), c7.fr hF (by omega), c8.fr hF (by omega)⟩
theorem Fr2.p {t r : Nat} {h0 h : hpT} (hF : Fr2 t r h0 h) : FrP (fun a => (t ≤ a ∧ a < t + 2) ∨ (r ≤ a ∧ a < r + 3)) h0 h := fun a ha => hF a (fun q => ha (Or.inl q)) (fun q => ha (Or.inr q))
theorem HS.frP {g r : Nat} {P : Nat → Prop} (hH : HS G h g r nx hs K) (hF : FrP P h h1) (hd : ∀ a, g ≤ a → a < g + 102 → ¬ P a) : HS G h1 g r nx hs K := by
  obtain ⟨e1, ⟨f, e2, e3⟩, e4, e5⟩ := hH
  exact ⟨by rw [hF _ (hd _ (by omega) (by omega))]; exact e1, ⟨f, by rw [hF _ (hd _ (by omega) (by omega))]; exact e2, e3⟩, fun i hi => (e4 i hi).frP hF (fun a h1 h2 => hd a (by omega) (by omega)), e5⟩
theorem FS.frP {g r : Nat} {P : Nat → Prop} (hH : FS G h g r S) (hF : FrP P h h1) (hd : ∀ a, g ≤ a → a < g + 17 → ¬ P a) : FS G h1 g r S := by
  obtain ⟨e1, ⟨f, e2, e3⟩, e4⟩ := hH
  exact ⟨by rw [hF _ (hd _ (by omega) (by omega))]; exact e1, ⟨f, by rw [hF _ (hd _ (by omega) (by omega))]; exact e2, e3⟩, fun i hi => (e4 i hi).frP hF (fun a h1 h2 => hd a (by omega) (by omega))⟩
theorem CA.txt (hC : CA G h x X Qp Qd En Et nx hs K S) {X1 : TX} {Q1 : RG} (hT : WT G h h1 (x + 1) (x + 6) X1 Q1) : CA G h1 x X1 Qp Q1 En Et nx hs K S := by
  obtain ⟨c1, c2, c3, c4, c5, c6, c7, c8⟩ := hC
  have hF := hT.2.2.1.p
  exact ⟨by rw [hF _ (by omega)]; exact c1, hT.1, c3.frP hF (fun a h1 h2 q => by omega), hT.2.1, c5.frP hF (fun a h1 h2 q => by omega), c6.frP hF (fun a h1 h2 q => by omega), c7.frP hF (fun a h1 h2 q => by omega), c8.frP hF (fun a h1 h2 q => by omega)⟩
theorem CA.wt (hC : CA G h x X Qp Qd En Et nx hs K S) : WT G h h (x + 1) (x + 6) X Qd := ⟨hC.2.1, hC.2.2.2.1, fun _ _ _ => rfl, Or.inl (by omega)⟩
theorem CA.wn (hC : CA G h x X Qp Qd En Et nx hs K S) : WE G h h (x + 9) (x + 3) En Qp := ⟨hC.2.2.2.2.1, hC.2.2.1, Fr.rf, Or.inl (by omega)⟩
theorem CA.wt2 (hC : CA G h x X Qp Qd En Et nx hs K S) : WE G h h (x + 14) (x + 3) Et Qp := ⟨hC.2.2.2.2.2.1, hC.2.2.1, Fr.rf, Or.inl (by omega)⟩
set_option maxHeartbeats 1000000 in
set_option maxRecDepth 100000 in
theorem c_X3_copyFrom {r r2 : Nat} {Q Q2 : RG} (hR0 : RA G h r Q) (hO : RA G h r2 Q2) (hdis : r + 3 ≤ r2 ∨ r2 + 3 ≤ r) (k : ∀ h1, WR G h h1 r Q2 → Post none h1 sz) : Cn l G yX3_copyFrom cX3_copyFrom 2 none 1 0 0 [.ref r, .ref r2] h sz Post := by
  refine Cn.of RX3 false (by decide) rfl (fun q => by cases q) (Nat.le_of_ble_eq_true rfl) ?_
  have hR : WR G h h r Q := ⟨hR0, Fr.rf⟩
  refine V_aload_n 0 dX3_copyFrom_0 rfl ?_
  refine V_aload_n 1 dX3_copyFrom_1 rfl ?_
  refine V_get 2 dX3_copyFrom_2 fdX3_9 (by first | exact hR.1.1 | exact hR.1.2.1 | exact hR.1.2.2.1 | exact (hO.fr hR.2 hdis).1 | exact (hO.fr hR.2 hdis).2.1 | exact (hO.fr hR.2 hdis).2.2.1) rfl ?_
  refine V_putRN 5 Q2.1 rfl hO.2.2.2.1 dX3_copyFrom_5 fpX3_9 hR (fun h1 hR => ?_)
  refine V_aload_n 8 dX3_copyFrom_8 rfl ?_
  refine V_get 9 dX3_copyFrom_9 fdX3_15 (by first | exact hR.1.1 | exact hR.1.2.1 | exact hR.1.2.2.1 | exact (hO.fr hR.2 hdis).1 | exact (hO.fr hR.2 hdis).2.1 | exact (hO.fr hR.2 hdis).2.2.1) rfl ?_
  refine V_iconstv 12 (0) dX3_copyFrom_12 (by decide) ?_
  refine V_aload_n 13 dX3_copyFrom_13 rfl ?_
  refine V_get 14 dX3_copyFrom_14 fdX3_15 (by first | exact hR.1.1 | exact hR.1.2.1 | exact hR.1.2.2.1 | exact (hO.fr hR.2 hdis).1 | exact (hO.fr hR.2 hdis).2.1 | exact (hO.fr hR.2 hdis).2.2.1) rfl ?_
  refine V_iconstv 17 (0) dX3_copyFrom_17 (by decide) ?_
  refine V_bipushv 18 (6) dX3_copyFrom_18 (by decide) ?_
  refine V_copy 20 dX3_copyFrom_20 acX3_22 ac_n ac_s ac_i rfl rfl (hO.fr hR.2 hdis).2.1 hR.1.2.1 (by decide) (by decide) (by decide) (Nat.le_refl 6) (Nat.le_refl 6) ?_
  have e1 : va_cpy Q2.2.1 Q.2.1 (0 : Int32).toNatClampNeg (0 : Int32).toNatClampNeg (6 : Int32).toNatClampNeg = Q2.2.1 := hO.2.2.2.2.1.cpyAll hR0.2.2.2.2.1
  have hR2 := hR.sA hO.2.2.2.2.1
  refine (?_ : ∀ h2, WR G h h2 r (Q2.1, Q2.2.1, Q.2.2) → V _ _ _ _ _ _ _ _ _ _ _ _ _ _ h2 _) _ (by rw [show va_cpy Q2.2.1 (Q2.1, Q.2).2.1 (0 : Int32).toNatClampNeg (0 : Int32).toNatClampNeg (6 : Int32).toNatClampNeg = Q2.2.1 from e1]; exact hR2)
  clear hR2 hR
  intro h2 hR
  refine V_aload_n 23 dX3_copyFrom_23 rfl ?_
  refine V_get 24 dX3_copyFrom_24 fdX3_19 (by first | exact hR.1.1 | exact hR.1.2.1 | exact hR.1.2.2.1 | exact (hO.fr hR.2 hdis).1 | exact (hO.fr hR.2 hdis).2.1 | exact (hO.fr hR.2 hdis).2.2.1) rfl ?_
  refine V_iconstv 27 (0) dX3_copyFrom_27 (by decide) ?_
  refine V_aload_n 28 dX3_copyFrom_28 rfl ?_
  refine V_get 29 dX3_copyFrom_29 fdX3_19 (by first | exact hR.1.1 | exact hR.1.2.1 | exact hR.1.2.2.1 | exact (hO.fr hR.2 hdis).1 | exact (hO.fr hR.2 hdis).2.1 | exact (hO.fr hR.2 hdis).2.2.1) rfl ?_
  refine V_iconstv 32 (0) dX3_copyFrom_32 (by decide) ?_
  refine V_bipushv 33 (6) dX3_copyFrom_33 (by decide) ?_
  refine V_copy 35 dX3_copyFrom_35 acX3_22 ac_n ac_s ac_i rfl rfl (hO.fr hR.2 hdis).2.2.1 hR.1.2.2.1 (by decide) (by decide) (by decide) (Nat.le_refl 6) (Nat.le_refl 6) ?_
  have e2 : va_cpy Q2.2.2 Q.2.2 (0 : Int32).toNatClampNeg (0 : Int32).toNatClampNeg (6 : Int32).toNatClampNeg = Q2.2.2 := hO.2.2.2.2.2.cpyAll hR0.2.2.2.2.2
  have hR2 := hR.sB hO.2.2.2.2.2
  refine (?_ : ∀ h2, WR G h h2 r Q2 → V _ _ _ _ _ _ _ _ _ _ _ _ _ _ h2 _) _ (by rw [show va_cpy Q2.2.2 (Q2.1, Q2.2.1, Q.2.2).2.2 (0 : Int32).toNatClampNeg (0 : Int32).toNatClampNeg (6 : Int32).toNatClampNeg = Q2.2.2 from e2]; exact hR2)
  clear hR2 hR
  intro h3 hR
  refine V_vret 38 dX3_copyFrom_38 ?_
  exact k _ hR
theorem TA.frP {t : Nat} {P : Nat → Prop} (hT : TA G h t X) (hF : FrP P h h1) (hd : ∀ a, t ≤ a → a < t + 2 → ¬ P a) : TA G h1 t X := by
  obtain ⟨e1, e2, e3⟩ := hT
  exact ⟨by rw [hF _ (hd _ (by omega) (by omega))]; exact e1, by rw [hF _ (hd _ (by omega) (by omega))]; exact e2, e3⟩
set_option maxHeartbeats 1000000 in
set_option maxRecDepth 100000 in
theorem c_X5_init (hob : h x = some (ob 5 [.null, .null, .null, .null, .null, .null, .null])) (k : ∀ h1, CA G h1 x X00 Q00 Q00 E00 E00 0 0 (fun _ => E00) ((0, 0, 0, 0, 0), (fun _ => E00)) → Lo x h h1 → Post none h1 (x + 138)) : Cn l G yX5_init cX5_init 1 none 3 137 3657 [.ref x] h (x + 1) Post := by
  refine Cn.of RX5 true (by decide) rfl (fun _ => rfl) (Nat.le_of_ble_eq_true rfl) ?_
  have f0 := hob
  have hL : Lo x h h := fun _ _ => rfl
  refine V_aload_n 0 dX5_init_0 rfl ?_
  refine V_obj 1 dX5_init_1 oiX5_1 oi_i oi_c rfl rfl ?_
  refine V_aload_n 4 dX5_init_4 rfl ?_
  refine V_new (kc := 136) (ks := 3652) 5 dX5_init_5 nw5_7 ?_
  obtain ⟨ha0, e2⟩ : ∃ z, z = hpS h (x + 1) (ob 4 [.null, .int 0, .int 0, .int 0, .int 0]) := ⟨_, rfl⟩
  have hF : Fr (x + 1) 1 h ha0 := by rw [e2]; exact Fr1 _ _ _
  have g0 : ha0 (x + 1) = some (ob 4 [.null, .int 0, .int 0, .int 0, .int 0]) := by rw [e2]; exact hpS_self _ _ _
  rw [show hpS h (x + 1) (ob 4 [.null, .int 0, .int 0, .int 0, .int 0]) = ha0 from e2.symm]
  clear e2
  replace f0 := (hF x (by omega)).trans f0
  replace hL : Lo x h ha0 := fun q hq => (hF q (by omega)).trans (hL q hq)
  clear hF
  refine V_dupr 8 dX5_init_8 ?_
  refine V_callI (kc1 := 1) (ks1 := 40) (kc := 135) (ks := 3612) 9 (As := []) dX5_init_9 kiX5_9 rfl rfl rfl rfl (c_X4_init g0 (fun hb0 tT hL3 => ?_))
  replace f0 := (hL3 x (by omega)).trans f0
  replace hL : Lo x h hb0 := fun q hq => (hL3 q (by omega)).trans (hL q hq)
  clear hL3 g0
  refine V_putL 12 [.ref (x + 1), .null, .null, .null, .null, .null, .null] dX5_init_12 fpX5_10 (fun _ => rfl) f0 rfl rfl rfl rfl (fun hc0 g1 hF => ?_)
  replace f0 := g1
  clear g1
  replace tT := tT.fr hF (by omega)
  replace hL : Lo x h hc0 := fun q hq => (hF q (by omega)).trans (hL q hq)
  clear hF
  refine V_aload_n 15 dX5_init_15 rfl ?_
  refine V_new (kc := 134) (ks := 3609) 16 dX5_init_16 nw5_16 ?_
  obtain ⟨ha1, e2⟩ : ∃ z, z = hpS hc0 (x + 3) (ob 3 [.int 0, .null, .null]) := ⟨_, rfl⟩
  have hF : Fr (x + 3) 1 hc0 ha1 := by rw [e2]; exact Fr1 _ _ _
  have g0 : ha1 (x + 3) = some (ob 3 [.int 0, .null, .null]) := by rw [e2]; exact hpS_self _ _ _
  rw [show hpS hc0 (x + 3) (ob 3 [.int 0, .null, .null]) = ha1 from e2.symm]
  clear e2
  replace f0 := (hF x (by omega)).trans f0
  replace tT := tT.fr hF (by omega)
  replace hL : Lo x h ha1 := fun q hq => (hF q (by omega)).trans (hL q hq)
  clear hF
  refine V_dupr 19 dX5_init_19 ?_
  refine V_callI (kc1 := 2) (ks1 := 12) (kc := 132) (ks := 3597) 20 (As := []) dX5_init_20 kiX5_18 rfl rfl rfl rfl (c_X3_init g0 (fun hb1 tP hL3 => ?_))
  replace f0 := (hL3 x (by omega)).trans f0
  replace tT := tT.frP (P := fun a => (x + 3) ≤ a) (fun a ha => hL3 a (by omega)) (fun a h1 h2 => by omega)
  replace hL : Lo x h hb1 := fun q hq => (hL3 q (by omega)).trans (hL q hq)
  clear hL3 g0
  refine V_putL 23 [.ref (x + 1), .ref (x + 3), .null, .null, .null, .null, .null] dX5_init_23 fpX5_19 (fun _ => rfl) f0 rfl rfl rfl rfl (fun hc1 g1 hF => ?_)
  replace f0 := g1
  clear g1
  replace tT := tT.fr hF (by omega)
  replace tP := tP.fr hF (by omega)
  replace hL : Lo x h hc1 := fun q hq => (hF q (by omega)).trans (hL q hq)
  clear hF
  refine V_aload_n 26 dX5_init_26 rfl ?_
  refine V_new (kc := 131) (ks := 3594) 27 dX5_init_27 nw5_16 ?_
  obtain ⟨ha2, e2⟩ : ∃ z, z = hpS hc1 (x + 6) (ob 3 [.int 0, .null, .null]) := ⟨_, rfl⟩
  have hF : Fr (x + 6) 1 hc1 ha2 := by rw [e2]; exact Fr1 _ _ _
  have g0 : ha2 (x + 6) = some (ob 3 [.int 0, .null, .null]) := by rw [e2]; exact hpS_self _ _ _
  rw [show hpS hc1 (x + 6) (ob 3 [.int 0, .null, .null]) = ha2 from e2.symm]
  clear e2
  replace f0 := (hF x (by omega)).trans f0
  replace tT := tT.fr hF (by omega)
  replace tP := tP.fr hF (by omega)
  replace hL : Lo x h ha2 := fun q hq => (hF q (by omega)).trans (hL q hq)
  clear hF
  refine V_dupr 30 dX5_init_30 ?_
  refine V_callI (kc1 := 2) (ks1 := 12) (kc := 129) (ks := 3582) 31 (As := []) dX5_init_31 kiX5_18 rfl rfl rfl rfl (c_X3_init g0 (fun hb2 tD hL3 => ?_))
  replace f0 := (hL3 x (by omega)).trans f0
  replace tT := tT.frP (P := fun a => (x + 6) ≤ a) (fun a ha => hL3 a (by omega)) (fun a h1 h2 => by omega)
  replace tP := tP.frP (P := fun a => (x + 6) ≤ a) (fun a ha => hL3 a (by omega)) (fun a h1 h2 => by omega)
  replace hL : Lo x h hb2 := fun q hq => (hL3 q (by omega)).trans (hL q hq)
  clear hL3 g0
  refine V_putL 34 [.ref (x + 1), .ref (x + 3), .ref (x + 6), .null, .null, .null, .null] dX5_init_34 fpX5_23 (fun _ => rfl) f0 rfl rfl rfl rfl (fun hc2 g1 hF => ?_)
  replace f0 := g1
  clear g1
  replace tT := tT.fr hF (by omega)
  replace tP := tP.fr hF (by omega)
  replace tD := tD.fr hF (by omega)
  replace hL : Lo x h hc2 := fun q hq => (hF q (by omega)).trans (hL q hq)
  clear hF
  refine V_aload_n 37 dX5_init_37 rfl ?_
  refine V_new (kc := 128) (ks := 3574) 38 dX5_init_38 nw5_26 ?_
  obtain ⟨ha3, e2⟩ : ∃ z, z = hpS hc2 (x + 9) (ob 0 [.null, .int 0, .int 0, .null, .null, .int 0, .null, .null]) := ⟨_, rfl⟩
  have hF : Fr (x + 9) 1 hc2 ha3 := by rw [e2]; exact Fr1 _ _ _
  have g0 : ha3 (x + 9) = some (ob 0 [.null, .int 0, .int 0, .null, .null, .int 0, .null, .null]) := by rw [e2]; exact hpS_self _ _ _
  rw [show hpS hc2 (x + 9) (ob 0 [.null, .int 0, .int 0, .null, .null, .int 0, .null, .null]) = ha3 from e2.symm]
  clear e2
  replace f0 := (hF x (by omega)).trans f0
  replace tT := tT.fr hF (by omega)
  replace tP := tP.fr hF (by omega)
  replace tD := tD.fr hF (by omega)
  replace hL : Lo x h ha3 := fun q hq => (hF q (by omega)).trans (hL q hq)
  clear hF
  refine V_dupr 41 dX5_init_41 ?_
  refine V_aload_n 42 dX5_init_42 rfl ?_
  refine V_get 43 dX5_init_43 fdX5_19 (by exact f0) rfl ?_
  refine V_callI (kc1 := 4) (ks1 := 134) (kc := 124) (ks := 3440) 46 (As := [.ref (x + 3)]) dX5_init_46 kiX5_28 rfl rfl rfl rfl (c_X0_init g0 (fun hb3 tN hL3 => ?_))
  replace f0 := (hL3 x (by omega)).trans f0
  replace tT := tT.frP (P := fun a => (x + 9) ≤ a) (fun a ha => hL3 a (by omega)) (fun a h1 h2 => by omega)
  replace tP := tP.frP (P := fun a => (x + 9) ≤ a) (fun a ha => hL3 a (by omega)) (fun a h1 h2 => by omega)
  replace tD := tD.frP (P := fun a => (x + 9) ≤ a) (fun a ha => hL3 a (by omega)) (fun a h1 h2 => by omega)
  replace hL : Lo x h hb3 := fun q hq => (hL3 q (by omega)).trans (hL q hq)
  clear hL3 g0
  refine V_putL 49 [.ref (x + 1), .ref (x + 3), .ref (x + 6), .ref (x + 9), .null, .null, .null] dX5_init_49 fpX5_31 (fun _ => rfl) f0 rfl rfl rfl rfl (fun hc3 g1 hF => ?_)
  replace f0 := g1
  clear g1
  replace tT := tT.fr hF (by omega)
  replace tP := tP.fr hF (by omega)
  replace tD := tD.fr hF (by omega)
  replace tN := tN.fr hF (by omega)
  replace hL : Lo x h hc3 := fun q hq => (hF q (by omega)).trans (hL q hq)
  clear hF
  refine V_aload_n 52 dX5_init_52 rfl ?_
  refine V_new (kc := 123) (ks := 3432) 53 dX5_init_53 nw5_26 ?_
  obtain ⟨ha4, e2⟩ : ∃ z, z = hpS hc3 (x + 14) (ob 0 [.null, .int 0, .int 0, .null, .null, .int 0, .null, .null]) := ⟨_, rfl⟩
  have hF : Fr (x + 14) 1 hc3 ha4 := by rw [e2]; exact Fr1 _ _ _
  have g0 : ha4 (x + 14) = some (ob 0 [.null, .int 0, .int 0, .null, .null, .int 0, .null, .null]) := by rw [e2]; exact hpS_self _ _ _
  rw [show hpS hc3 (x + 14) (ob 0 [.null, .int 0, .int 0, .null, .null, .int 0, .null, .null]) = ha4 from e2.symm]
  clear e2
  replace f0 := (hF x (by omega)).trans f0
  replace tT := tT.fr hF (by omega)
  replace tP := tP.fr hF (by omega)
  replace tD := tD.fr hF (by omega)
  replace tN := tN.fr hF (by omega)
  replace hL : Lo x h ha4 := fun q hq => (hF q (by omega)).trans (hL q hq)
  clear hF
  refine V_dupr 56 dX5_init_56 ?_
  refine V_aload_n 57 dX5_init_57 rfl ?_
  refine V_get 58 dX5_init_58 fdX5_19 (by exact f0) rfl ?_
  refine V_callI (kc1 := 4) (ks1 := 134) (kc := 119) (ks := 3298) 61 (As := [.ref (x + 3)]) dX5_init_61 kiX5_28 rfl rfl rfl rfl (c_X0_init g0 (fun hb4 tE hL3 => ?_))
  replace f0 := (hL3 x (by omega)).trans f0
  replace tT := tT.frP (P := fun a => (x + 14) ≤ a) (fun a ha => hL3 a (by omega)) (fun a h1 h2 => by omega)
  replace tP := tP.frP (P := fun a => (x + 14) ≤ a) (fun a ha => hL3 a (by omega)) (fun a h1 h2 => by omega)
  replace tD := tD.frP (P := fun a => (x + 14) ≤ a) (fun a ha => hL3 a (by omega)) (fun a h1 h2 => by omega)
  replace tN := tN.frP (P := fun a => (x + 14) ≤ a) (fun a ha => hL3 a (by omega)) (fun a h1 h2 => by omega)
  replace hL : Lo x h hb4 := fun q hq => (hL3 q (by omega)).trans (hL q hq)
  clear hL3 g0
  refine V_putL 64 [.ref (x + 1), .ref (x + 3), .ref (x + 6), .ref (x + 9), .ref (x + 14), .null, .null] dX5_init_64 fpX5_35 (fun _ => rfl) f0 rfl rfl rfl rfl (fun hc4 g1 hF => ?_)
  replace f0 := g1
  clear g1
  replace tT := tT.fr hF (by omega)
  replace tP := tP.fr hF (by omega)
  replace tD := tD.fr hF (by omega)
  replace tN := tN.fr hF (by omega)
  replace tE := tE.fr hF (by omega)
  replace hL : Lo x h hc4 := fun q hq => (hF q (by omega)).trans (hL q hq)
  clear hF
  refine V_aload_n 67 dX5_init_67 rfl ?_
  refine V_new (kc := 118) (ks := 3295) 68 dX5_init_68 nw5_38 ?_
  obtain ⟨ha5, e2⟩ : ∃ z, z = hpS hc4 (x + 19) (ob 2 [.null, .int 0, .int 0]) := ⟨_, rfl⟩
  have hF : Fr (x + 19) 1 hc4 ha5 := by rw [e2]; exact Fr1 _ _ _
  have g0 : ha5 (x + 19) = some (ob 2 [.null, .int 0, .int 0]) := by rw [e2]; exact hpS_self _ _ _
  rw [show hpS hc4 (x + 19) (ob 2 [.null, .int 0, .int 0]) = ha5 from e2.symm]
  clear e2
  replace f0 := (hF x (by omega)).trans f0
  replace tT := tT.fr hF (by omega)
  replace tP := tP.fr hF (by omega)
  replace tD := tD.fr hF (by omega)
  replace tN := tN.fr hF (by omega)
  replace tE := tE.fr hF (by omega)
  replace hL : Lo x h ha5 := fun q hq => (hF q (by omega)).trans (hL q hq)
  clear hF
  refine V_dupr 71 dX5_init_71 ?_
  refine V_aload_n 72 dX5_init_72 rfl ?_
  refine V_get 73 dX5_init_73 fdX5_19 (by exact f0) rfl ?_
  refine V_callI (kc1 := 101) (ks1 := 2860) (kc := 17) (ks := 435) 76 (As := [.ref (x + 3)]) dX5_init_76 kiX5_40 rfl rfl rfl rfl (c_X2_init g0 (fun hb5 tH hL3 => ?_))
  replace f0 := (hL3 x (by omega)).trans f0
  replace tT := tT.frP (P := fun a => (x + 19) ≤ a) (fun a ha => hL3 a (by omega)) (fun a h1 h2 => by omega)
  replace tP := tP.frP (P := fun a => (x + 19) ≤ a) (fun a ha => hL3 a (by omega)) (fun a h1 h2 => by omega)
  replace tD := tD.frP (P := fun a => (x + 19) ≤ a) (fun a ha => hL3 a (by omega)) (fun a h1 h2 => by omega)
  replace tN := tN.frP (P := fun a => (x + 19) ≤ a) (fun a ha => hL3 a (by omega)) (fun a h1 h2 => by omega)
  replace tE := tE.frP (P := fun a => (x + 19) ≤ a) (fun a ha => hL3 a (by omega)) (fun a h1 h2 => by omega)
  replace hL : Lo x h hb5 := fun q hq => (hL3 q (by omega)).trans (hL q hq)
  clear hL3 g0
  refine V_putL 79 [.ref (x + 1), .ref (x + 3), .ref (x + 6), .ref (x + 9), .ref (x + 14), .ref (x + 19), .null] dX5_init_79 fpX5_41 (fun _ => rfl) f0 rfl rfl rfl rfl (fun hc5 g1 hF => ?_)
  replace f0 := g1
  clear g1
  replace tT := tT.fr hF (by omega)
  replace tP := tP.fr hF (by omega)
  replace tD := tD.fr hF (by omega)
  replace tN := tN.fr hF (by omega)
  replace tE := tE.fr hF (by omega)
  replace tH := tH.fr hF (by omega)
  replace hL : Lo x h hc5 := fun q hq => (hF q (by omega)).trans (hL q hq)
  clear hF
  refine V_aload_n 82 dX5_init_82 rfl ?_
  refine V_new (kc := 16) (ks := 429) 83 dX5_init_83 nw5_45 ?_
  obtain ⟨ha6, e2⟩ : ∃ z, z = hpS hc5 (x + 121) (ob 1 [.null, .int 0, .int 0, .int 0, .int 0, .int 0]) := ⟨_, rfl⟩
  have hF : Fr (x + 121) 1 hc5 ha6 := by rw [e2]; exact Fr1 _ _ _
  have g0 : ha6 (x + 121) = some (ob 1 [.null, .int 0, .int 0, .int 0, .int 0, .int 0]) := by rw [e2]; exact hpS_self _ _ _
  rw [show hpS hc5 (x + 121) (ob 1 [.null, .int 0, .int 0, .int 0, .int 0, .int 0]) = ha6 from e2.symm]
  clear e2
  replace f0 := (hF x (by omega)).trans f0
  replace tT := tT.fr hF (by omega)
  replace tP := tP.fr hF (by omega)
  replace tD := tD.fr hF (by omega)
  replace tN := tN.fr hF (by omega)
  replace tE := tE.fr hF (by omega)
  replace tH := tH.fr hF (by omega)
  replace hL : Lo x h ha6 := fun q hq => (hF q (by omega)).trans (hL q hq)
  clear hF
  refine V_dupr 86 dX5_init_86 ?_
  refine V_aload_n 87 dX5_init_87 rfl ?_
  refine V_get 88 dX5_init_88 fdX5_19 (by exact f0) rfl ?_
  refine V_callI (kc1 := 16) (ks1 := 429) (kc := 0) (ks := 0) 91 (As := [.ref (x + 3)]) dX5_init_91 kiX5_47 rfl rfl rfl rfl (c_X1_init g0 (fun hb6 tF hL3 => ?_))
  replace f0 := (hL3 x (by omega)).trans f0
  replace tT := tT.frP (P := fun a => (x + 121) ≤ a) (fun a ha => hL3 a (by omega)) (fun a h1 h2 => by omega)
  replace tP := tP.frP (P := fun a => (x + 121) ≤ a) (fun a ha => hL3 a (by omega)) (fun a h1 h2 => by omega)
  replace tD := tD.frP (P := fun a => (x + 121) ≤ a) (fun a ha => hL3 a (by omega)) (fun a h1 h2 => by omega)
  replace tN := tN.frP (P := fun a => (x + 121) ≤ a) (fun a ha => hL3 a (by omega)) (fun a h1 h2 => by omega)
  replace tE := tE.frP (P := fun a => (x + 121) ≤ a) (fun a ha => hL3 a (by omega)) (fun a h1 h2 => by omega)
  replace tH := tH.frP (P := fun a => (x + 121) ≤ a) (fun a ha => hL3 a (by omega)) (fun a h1 h2 => by omega)
  replace hL : Lo x h hb6 := fun q hq => (hL3 q (by omega)).trans (hL q hq)
  clear hL3 g0
  refine V_putL 94 [.ref (x + 1), .ref (x + 3), .ref (x + 6), .ref (x + 9), .ref (x + 14), .ref (x + 19), .ref (x + 121)] dX5_init_94 fpX5_48 (fun _ => rfl) f0 rfl rfl rfl rfl (fun hc6 g1 hF => ?_)
  replace f0 := g1
  clear g1
  replace tT := tT.fr hF (by omega)
  replace tP := tP.fr hF (by omega)
  replace tD := tD.fr hF (by omega)
  replace tN := tN.fr hF (by omega)
  replace tE := tE.fr hF (by omega)
  replace tH := tH.fr hF (by omega)
  replace tF := tF.fr hF (by omega)
  replace hL : Lo x h hc6 := fun q hq => (hF q (by omega)).trans (hL q hq)
  clear hF
  refine V_vret 97 dX5_init_97 ?_
  exact k _ ⟨f0, tT, tP, tD, tN, tE, tH, tF⟩ hL
end M23
