theorem Inv.nz {Q : RG} {B : Nat} {E : ET} (h : Inv Q B E) : ¬ eW E = 0 := fun q => by rcases h.2.1 with z | z | z | z <;> rw [z] at q <;> exact absurd q (by decide)
theorem dm_z {Q : RG} {x y : Int32} {N j : Nat} {E : ET} (h : (dmE Q x N j y E).1 = 0) : N = 0 ∨ eN E = 0 := by
  cases N with
  | zero => exact Or.inl rfl
  | succ N =>
    rw [dmE] at h
    by_cases e : eN E = 0
    · exact Or.inr e
    · rw [if_neg e] at h
      exact absurd h (Nat.succ_ne_zero _)
theorem dm_0 {Q : RG} {x y : Int32} {N j : Nat} {E : ET} (h : ¬ (dmE Q x N j y E).1 = 0) : 1 ≤ N ∧ ¬ eN E = 0 := by
  cases N with
  | zero => exact absurd rfl h
  | succ N =>
    refine ⟨by omega, fun q => h ?_⟩
    rw [dmE, if_pos q]
theorem REL.tl {B nx hs : Nat} {X : TX} {Q : RG} {E : ET} {K : Nat → ET} {M : MT} (hR : REL B X Q E nx hs K M) (h2 : ¬ eW E = 2) (h3 : ¬ eW E = 3) {i : Nat} (hi : i < Q.1) : eC E (8 * i + 5) = 0 := hR.2.2.2.2.2.2.2.elim (fun q => (q.2.1.2 i hi).2) (fun q => (q.1.2.2.2.2.1 i hi).2.1 h2 h3)
theorem REL.hd0 {B nx hs : Nat} {X : TX} {Q : RG} {E : ET} {K : Nat → ET} {M : MT} (hR : REL B X Q E nx hs K M) (h0 : eW E = 0) : hdE E Q.1 = -1 := by
  have z : ∀ i, i < Q.1 → eC E (8 * i) = 0 := hR.2.2.2.2.2.2.2.elim (fun q i hi => (q.2.1.2 i hi).1) (fun q => by rcases q.1.2.1 with z | z | z | z <;> rw [z] at h0 <;> exact absurd h0 (by decide))
  unfold hdE
  rw [fiN_none (fun j hj => by rw [z j hj]; decide), if_neg (by omega)]
section M38
variable {B nx hs : Nat} {X : TX} {K : Nat → ET}
variable {l : Launch} {G : zGT} {h h0 : hpT} {sz : Nat} {Post : Option Value → hpT → Nat → Prop} {m r : Nat} {M M0 : MT} {Q : RG} {E : ET}
set_option maxHeartbeats 1000000 in
set_option maxRecDepth 100000 in
theorem c_X6_isOrder {a b : Int32} (k1 : okOrd a b → Post (some (.int 1)) h sz) (k0 : ¬ okOrd a b → Post (some (.int 0)) h sz) : Cn l G yX6_isOrder cX6_isOrder 2 (some .boolean) 1 0 0 [.int a, .int b] h sz Post := by
  refine Cn.of RX6 false (by decide) rfl (fun q => by cases q) (Nat.le_of_ble_eq_true rfl) ?_
  refine V_iload_n 0 dX6_isOrder_0 rfl ?_
  refine V_i2l 1 dX6_isOrder_1 ?_
  refine V_lconstv 2 0 dX6_isOrder_2 (by decide) ?_
  refine V_ldc2 3 dX6_isOrder_3 knX6_229 ?_
  refine V_is3 6 dX6_isOrder_6 ksX6_45 rfl rfl (c_X6_inI (lo := 0) (hi := 3) rfl rfl (fun c_6 => ?_) (fun c_6 => ?_))
  · refine V_if_eq 9 28 dX6_isOrder_9 rfl (fun q => absurd q (by decide)) (fun _ => ?_)
    refine V_iload_n 12 dX6_isOrder_12 rfl ?_
    refine V_i2l 13 dX6_isOrder_13 ?_
    refine V_lconstv 14 1 dX6_isOrder_14 (by decide) ?_
    refine V_ldc2 15 dX6_isOrder_15 knX6_209 ?_
    refine V_is3 18 dX6_isOrder_18 ksX6_45 rfl rfl (c_X6_inI (lo := 1) (hi := 999999) rfl rfl (fun c_18 => ?_) (fun c_18 => ?_))
    · refine V_if_eq 21 28 dX6_isOrder_21 rfl (fun q => absurd q (by decide)) (fun _ => ?_)
      refine V_iconstv 24 (1) dX6_isOrder_24 (by decide) ?_
      refine V_goto 25 29 dX6_isOrder_25 rfl ?_
      refine V_zret 29 dX6_isOrder_29 (Or.inr rfl) ?_
      exact k1 ⟨c_6, c_18⟩
    · refine V_if_eq 21 28 dX6_isOrder_21 rfl (fun _ => ?_) (fun q => absurd q (by decide))
      refine V_iconstv 28 (0) dX6_isOrder_28 (by decide) ?_
      refine V_zret 29 dX6_isOrder_29 (Or.inl rfl) ?_
      first | exact k0 (fun q => c_6 q.1) | exact k0 (fun q => c_18 q.2)
  · refine V_if_eq 9 28 dX6_isOrder_9 rfl (fun _ => ?_) (fun q => absurd q (by decide))
    refine V_iconstv 28 (0) dX6_isOrder_28 (by decide) ?_
    refine V_zret 29 dX6_isOrder_29 (Or.inl rfl) ?_
    first | exact k0 (fun q => c_6 q.1) | exact k0 (fun q => c_18 q.2)
set_option maxHeartbeats 1000000 in
set_option maxRecDepth 100000 in
theorem lp_X6_manyAre (hX : WX G h0 h m M0 M r E Q) {s : Int32} (k : Post (some (.int (nI (stE E Q.1 s)))) h sz) : ∀ i, i ≤ Q.1 → V l G RX6 cX6_manyAre 5 (some .int) false 2 0 0 Post 5 [some (.ref m), some (.int (nI r)), some (.int s), some (.int (nI (ctN (fun i => decide (eC E (8 * i) = s)) i))), some (.int (nI i))] [] h sz := by
  have hn := hX.2.2.2.2.2.2
  have hr := hX.2.2.2.2.2.1
  refine up_ind Q.1 (fun i hi ih => ?_)
  refine V_iload 5 dX6_manyAre_5 rfl ?_
  refine V_aload_n 7 dX6_manyAre_7 rfl ?_
  refine V_get 8 dX6_manyAre_8 fdX6_41 (by first | exact hX.1.1.1 | exact hX.1.1.2.1 | exact hX.1.1.2.2.1 | exact hX.1.1.2.2.2.1 | exact hX.1.1.2.2.2.2.1 | exact hX.1.1.2.2.2.2.2.1 | exact hX.1.1.2.2.2.2.2.2.1 | exact hX.1.1.2.2.2.2.2.2.2.1 | exact hX.1.1.2.2.2.2.2.2.2.2.1 | exact hX.1.1.2.2.2.2.2.2.2.2.2.1 | exact hX.1.1.2.2.2.2.2.2.2.2.2.2) rfl ?_
  refine V_topi (nI Q.1) hX.2.2.1 ?_
  refine V_icmp_ge 11 40 dX6_manyAre_11 rfl (fun c_11 => ?_) (fun c_11 => ?_)
  · have e_9 : i = Q.1 := Nat.le_antisymm hi ((nI_leI (by omega) (by omega)).mp c_11)
    subst e_9
    refine V_iload_n 40 dX6_manyAre_40 rfl ?_
    refine V_iret 41 dX6_manyAre_41 ?_
    exact k
  · have e_9 : i < Q.1 := Nat.lt_of_not_le (fun q => c_11 (nI_le q (by omega)))
    refine V_iload_n 14 dX6_manyAre_14 rfl ?_
    refine V_aload_n 15 dX6_manyAre_15 rfl ?_
    refine V_iload_n 16 dX6_manyAre_16 rfl ?_
    refine V_iload 17 dX6_manyAre_17 rfl ?_
    refine V_iconstv 19 (1) dX6_manyAre_19 (by decide) ?_
    refine V_iv3 20 dX6_manyAre_20 kvX6_56 rfl (by first | exact hX.1.1.1 | exact hX.1.1.2.1 | exact hX.1.1.2.2.1 | exact hX.1.1.2.2.2.1 | exact hX.1.1.2.2.2.2.1 | exact hX.1.1.2.2.2.2.2.1 | exact hX.1.1.2.2.2.2.2.2.1 | exact hX.1.1.2.2.2.2.2.2.2.1 | exact hX.1.1.2.2.2.2.2.2.2.2.1 | exact hX.1.1.2.2.2.2.2.2.2.2.2.1 | exact hX.1.1.2.2.2.2.2.2.2.2.2.2) rfl rfl (c_X6_has hX.1 r i 1 (by unfold ctA; omega) ?_)
    refine V_topi (eC E (8 * i)) (hX.2.2.2.2.1.2.2.2.2.1 i e_9).2.1 ?_
    refine V_iload_n 23 dX6_manyAre_23 rfl ?_
    refine V_icmp_ne 24 31 dX6_manyAre_24 rfl (fun c_24 => ?_) (fun c_24 => ?_)
    · have e_20 : nI (ctN (fun i => decide (eC E (8 * i) = s)) i) + 0 = nI (ctN (fun i => decide (eC E (8 * i) = s)) (i + 1)) := by rw [show (0 : Int32) = nI 0 from rfl, nI_add, ctN_f (p := (fun i => decide (eC E (8 * i) = s))) (by simpa using c_24)]; rfl
      refine V_iconstv 31 (0) dX6_manyAre_31 (by decide) ?_
      refine V_iadd 32 dX6_manyAre_32 ?_
      refine V_topi _ e_20 ?_
      refine V_istore_n 33 dX6_manyAre_33 rfl rfl ?_
      refine V_iinc 34 (nI (i + 1)) dX6_manyAre_34 rfl (nI_inc i) rfl rfl ?_
      refine V_goto 37 5 dX6_manyAre_37 rfl ?_
      exact ih (i + 1) rfl (by omega)
    · have e_20 : nI (ctN (fun i => decide (eC E (8 * i) = s)) i) + 1 = nI (ctN (fun i => decide (eC E (8 * i) = s)) (i + 1)) := by rw [nI_1, ctN_t (p := (fun i => decide (eC E (8 * i) = s))) (by simpa using c_24)]
      refine V_iconstv 27 (1) dX6_manyAre_27 (by decide) ?_
      refine V_goto 28 32 dX6_manyAre_28 rfl ?_
      refine V_iadd 32 dX6_manyAre_32 ?_
      refine V_topi _ e_20 ?_
      refine V_istore_n 33 dX6_manyAre_33 rfl rfl ?_
      refine V_iinc 34 (nI (i + 1)) dX6_manyAre_34 rfl (nI_inc i) rfl rfl ?_
      refine V_goto 37 5 dX6_manyAre_37 rfl ?_
      exact ih (i + 1) rfl (by omega)
set_option maxHeartbeats 1000000 in
set_option maxRecDepth 100000 in
theorem c_X6_manyAre (hX : WX G h0 h m M0 M r E Q) {s : Int32} (k : Post (some (.int (nI (stE E Q.1 s)))) h sz) : Cn l G yX6_manyAre cX6_manyAre 5 (some .int) 2 0 0 [.ref m, .int (nI r), .int s] h sz Post := by
  refine Cn.of RX6 false (by decide) rfl (fun q => by cases q) (Nat.le_of_ble_eq_true rfl) ?_
  refine V_iconstv 0 (0) dX6_manyAre_0 (by decide) ?_
  refine V_istore_n 1 dX6_manyAre_1 rfl rfl ?_
  refine V_iconstv 2 (0) dX6_manyAre_2 (by decide) ?_
  refine V_istore 3 dX6_manyAre_3 rfl rfl ?_
  exact lp_X6_manyAre hX k 0 (Nat.zero_le _)
set_option maxHeartbeats 1000000 in
set_option maxRecDepth 100000 in
theorem lp_X6_headOf (hX : WX G h0 h m M0 M r E Q) (k : Post (some (.int (hdE E Q.1))) h sz) : ∀ i, i ≤ Q.1 → V l G RX6 cX6_headOf 4 (some .int) false 2 0 0 Post 9 [some (.ref m), some (.int (nI r)), some (.int (dnN (fun i => decide (eC E (8 * i) = 3)) Q.1 i)), some (.int (nI (Q.1 - i) - 1))] [] h sz := by
  have hn := hX.2.2.2.2.2.2
  have hr := hX.2.2.2.2.2.1
  refine up_ind Q.1 (fun i hi ih => ?_)
  refine V_iload_n 9 dX6_headOf_9 rfl ?_
  refine V_if_lt 10 36 dX6_headOf_10 rfl (fun c_10 => ?_) (fun c_10 => ?_)
  · have e_9 : i = Q.1 := Nat.le_antisymm hi (Nat.le_of_not_lt (fun q => nI_pos (n := Q.1 - i - 1) (by omega) (by rw [← pk_sub (a := Q.1 - i) (b := 1) (by omega)]; exact c_10)))
    subst e_9
    refine V_iload_n 36 dX6_headOf_36 rfl ?_
    refine V_iret 37 dX6_headOf_37 ?_
    exact pof k (by rw [dn_fi]; rfl)
  · have e_9 : i < Q.1 := Nat.lt_of_le_of_ne hi (fun q => c_10 (by rw [q, Nat.sub_self]; decide))
    have e_i : nI (Q.1 - i) - 1 = nI (Q.1 - 1 - i) := (pk_sub (a := Q.1 - i) (b := 1) (by omega)).trans (by congr 1; omega)
    refine V_aload_n 13 dX6_headOf_13 rfl ?_
    refine V_iload_n 14 dX6_headOf_14 rfl ?_
    refine V_iload_n 15 dX6_headOf_15 rfl ?_
    refine V_topi _ e_i ?_
    refine V_iconstv 16 (1) dX6_headOf_16 (by decide) ?_
    refine V_iv3 17 dX6_headOf_17 kvX6_56 rfl (by first | exact hX.1.1.1 | exact hX.1.1.2.1 | exact hX.1.1.2.2.1 | exact hX.1.1.2.2.2.1 | exact hX.1.1.2.2.2.2.1 | exact hX.1.1.2.2.2.2.2.1 | exact hX.1.1.2.2.2.2.2.2.1 | exact hX.1.1.2.2.2.2.2.2.2.1 | exact hX.1.1.2.2.2.2.2.2.2.2.1 | exact hX.1.1.2.2.2.2.2.2.2.2.2.1 | exact hX.1.1.2.2.2.2.2.2.2.2.2.2) rfl rfl (c_X6_has hX.1 r (Q.1 - 1 - i) 1 (by unfold ctA; omega) ?_)
    refine V_topi (eC E (8 * (Q.1 - 1 - i))) (hX.2.2.2.2.1.2.2.2.2.1 (Q.1 - 1 - i) (by omega)).2.1 ?_
    refine V_iconstv 20 (3) dX6_headOf_20 (by decide) ?_
    refine V_icmp_ne 21 28 dX6_headOf_21 rfl (fun c_21 => ?_) (fun c_21 => ?_)
    · have e_20 : dnN (fun i => decide (eC E (8 * i) = 3)) Q.1 i = dnN (fun i => decide (eC E (8 * i) = 3)) Q.1 (i + 1) := by rw [dnN, if_neg (by simpa using c_21)]
      refine V_iload_n 28 dX6_headOf_28 rfl ?_
      refine V_topi _ e_20 ?_
      refine V_istore_n 29 dX6_headOf_29 rfl rfl ?_
      refine V_iinc 30 (nI (Q.1 - (i + 1)) - 1) dX6_headOf_30 rfl (by rw [e_i, i32_dec, show Q.1 - (i + 1) = Q.1 - 1 - i by omega]) rfl rfl ?_
      refine V_goto 33 9 dX6_headOf_33 rfl ?_
      exact ih (i + 1) rfl (by omega)
    · have e_20 : nI (Q.1 - 1 - i) = dnN (fun i => decide (eC E (8 * i) = 3)) Q.1 (i + 1) := by rw [dnN, if_pos (by simpa using c_21)]
      refine V_iload_n 24 dX6_headOf_24 rfl ?_
      refine V_topi _ e_i ?_
      refine V_goto 25 29 dX6_headOf_25 rfl ?_
      refine V_topi _ e_20 ?_
      refine V_istore_n 29 dX6_headOf_29 rfl rfl ?_
      refine V_iinc 30 (nI (Q.1 - (i + 1)) - 1) dX6_headOf_30 rfl (by rw [e_i, i32_dec, show Q.1 - (i + 1) = Q.1 - 1 - i by omega]) rfl rfl ?_
      refine V_goto 33 9 dX6_headOf_33 rfl ?_
      exact ih (i + 1) rfl (by omega)
set_option maxHeartbeats 1000000 in
set_option maxRecDepth 100000 in
theorem c_X6_headOf (hX : WX G h0 h m M0 M r E Q) (k : Post (some (.int (hdE E Q.1))) h sz) : Cn l G yX6_headOf cX6_headOf 4 (some .int) 2 0 0 [.ref m, .int (nI r)] h sz Post := by
  refine Cn.of RX6 false (by decide) rfl (fun q => by cases q) (Nat.le_of_ble_eq_true rfl) ?_
  refine V_iconstv 0 (-1) dX6_headOf_0 (by decide) ?_
  refine V_istore_n 1 dX6_headOf_1 rfl rfl ?_
  refine V_aload_n 2 dX6_headOf_2 rfl ?_
  refine V_get 3 dX6_headOf_3 fdX6_41 (by first | exact hX.1.1.1 | exact hX.1.1.2.1 | exact hX.1.1.2.2.1 | exact hX.1.1.2.2.2.1 | exact hX.1.1.2.2.2.2.1 | exact hX.1.1.2.2.2.2.2.1 | exact hX.1.1.2.2.2.2.2.2.1 | exact hX.1.1.2.2.2.2.2.2.2.1 | exact hX.1.1.2.2.2.2.2.2.2.2.1 | exact hX.1.1.2.2.2.2.2.2.2.2.2.1 | exact hX.1.1.2.2.2.2.2.2.2.2.2.2) rfl ?_
  refine V_topi (nI Q.1) hX.2.2.1 ?_
  refine V_iconstv 6 (1) dX6_headOf_6 (by decide) ?_
  refine V_isub 7 dX6_headOf_7 ?_
  refine V_istore_n 8 dX6_headOf_8 rfl rfl ?_
  exact lp_X6_headOf hX k 0 (Nat.zero_le _)
set_option maxHeartbeats 1000000 in
set_option maxRecDepth 100000 in
theorem c_X6_contender (hM : WM G h0 h m M) (hR : REL B X Q E nx hs K M) {w y : Int32} (k0 : inb w Q.1 = false → Post (some (.int (-1000001))) h sz) (k1 : inb w Q.1 = true → Post (some (.int (ctdR Q E w y))) h sz) : Cn l G yX6_contender cX6_contender 4 (some .int) 2 0 0 [.ref m, .int w, .int y] h sz Post := by
  refine Cn.of RX6 false (by decide) rfl (fun q => by cases q) (Nat.le_of_ble_eq_true rfl) ?_
  have hn := hR.2.1.2.1
  refine V_aload_n 0 dX6_contender_0 rfl ?_
  refine V_iload_n 1 dX6_contender_1 rfl ?_
  refine V_iv1 2 dX6_contender_2 kvX6_212 rfl (by first | exact hM.1.1 | exact hM.1.2.1 | exact hM.1.2.2.1 | exact hM.1.2.2.2.1 | exact hM.1.2.2.2.2.1 | exact hM.1.2.2.2.2.2.1 | exact hM.1.2.2.2.2.2.2.1 | exact hM.1.2.2.2.2.2.2.2.1 | exact hM.1.2.2.2.2.2.2.2.2.1 | exact hM.1.2.2.2.2.2.2.2.2.2.1 | exact hM.1.2.2.2.2.2.2.2.2.2.2) rfl rfl (c_X6_isContender hM Q.1 hR.2.1.1 hR.2.1.2.1 (fun c_2 => ?_) (fun c_2 => ?_))
  · obtain ⟨i, hi, rfl⟩ := inb_ex c_2 (by omega)
    have c6 : celE E (nI i) 5 = eC E (8 * i + 5) := cel E (k := 5) (kk := 5) (by omega) rfl (by omega)
    refine V_if_ne 5 11 dX6_contender_5 rfl (fun _ => ?_) (fun q => absurd q (by decide))
    refine V_aload_n 11 dX6_contender_11 rfl ?_
    refine V_get 12 dX6_contender_12 fdX6_16 (by first | exact hM.1.1 | exact hM.1.2.1 | exact hM.1.2.2.1 | exact hM.1.2.2.2.1 | exact hM.1.2.2.2.2.1 | exact hM.1.2.2.2.2.2.1 | exact hM.1.2.2.2.2.2.2.1 | exact hM.1.2.2.2.2.2.2.2.1 | exact hM.1.2.2.2.2.2.2.2.2.1 | exact hM.1.2.2.2.2.2.2.2.2.2.1 | exact hM.1.2.2.2.2.2.2.2.2.2.2) rfl ?_
    refine V_iconstv 15 (0) dX6_contender_15 (by decide) ?_
    refine V_ialdk 16 0 rfl dX6_contender_16 (by first | exact hM.1.1 | exact hM.1.2.1 | exact hM.1.2.2.1 | exact hM.1.2.2.2.1 | exact hM.1.2.2.2.2.1 | exact hM.1.2.2.2.2.2.1 | exact hM.1.2.2.2.2.2.2.1 | exact hM.1.2.2.2.2.2.2.2.1 | exact hM.1.2.2.2.2.2.2.2.2.1 | exact hM.1.2.2.2.2.2.2.2.2.2.1 | exact hM.1.2.2.2.2.2.2.2.2.2.2) (inb_in (by decide)) ?_
    refine V_topi (eW E) hR.2.2.1.1 ?_
    refine V_istore_n 17 dX6_contender_17 rfl rfl ?_
    refine V_iload_n 18 dX6_contender_18 rfl ?_
    by_cases sw19_0 : y = 0
    · refine V_tableIn 19 60 (41) dX6_contender_19 (by rw [sw19_0]; decide) (by rw [sw19_0]; decide) (by rw [sw19_0]; rfl) rfl ?_
      refine V_aload_n 60 dX6_contender_60 rfl ?_
      refine V_get 61 dX6_contender_61 fdX6_7 (by first | exact hM.1.1 | exact hM.1.2.1 | exact hM.1.2.2.1 | exact hM.1.2.2.2.1 | exact hM.1.2.2.2.2.1 | exact hM.1.2.2.2.2.2.1 | exact hM.1.2.2.2.2.2.2.1 | exact hM.1.2.2.2.2.2.2.2.1 | exact hM.1.2.2.2.2.2.2.2.2.1 | exact hM.1.2.2.2.2.2.2.2.2.2.1 | exact hM.1.2.2.2.2.2.2.2.2.2.2) rfl ?_
      refine V_iload_n 64 dX6_contender_64 rfl ?_
      refine V_ialdk 65 i (nI_clamp (by omega)) dX6_contender_65 (by first | exact hM.1.1 | exact hM.1.2.1 | exact hM.1.2.2.1 | exact hM.1.2.2.2.1 | exact hM.1.2.2.2.2.1 | exact hM.1.2.2.2.2.2.1 | exact hM.1.2.2.2.2.2.2.1 | exact hM.1.2.2.2.2.2.2.2.1 | exact hM.1.2.2.2.2.2.2.2.2.1 | exact hM.1.2.2.2.2.2.2.2.2.2.1 | exact hM.1.2.2.2.2.2.2.2.2.2.2) (vp_in_nI (by omega) (by decide)) ?_
      refine V_iret 66 dX6_contender_66 ?_
      exact pof (k1 c_2) ((hR.2.1.2.2.2 i hi).1.trans (by rw [sw19_0]; exact (nmR_nI (by omega)).symm))
    by_cases sw19_1 : y = 1
    · refine V_tableIn 19 67 (48) dX6_contender_19 (by rw [sw19_1]; decide) (by rw [sw19_1]; decide) (by rw [sw19_1]; rfl) rfl ?_
      refine V_aload_n 67 dX6_contender_67 rfl ?_
      refine V_iconstv 68 (0) dX6_contender_68 (by decide) ?_
      refine V_iload_n 69 dX6_contender_69 rfl ?_
      refine V_iconstv 70 (0) dX6_contender_70 (by decide) ?_
      refine V_iv3 71 dX6_contender_71 kvX6_56 rfl (by first | exact hM.1.1 | exact hM.1.2.1 | exact hM.1.2.2.1 | exact hM.1.2.2.2.1 | exact hM.1.2.2.2.2.1 | exact hM.1.2.2.2.2.2.1 | exact hM.1.2.2.2.2.2.2.1 | exact hM.1.2.2.2.2.2.2.2.1 | exact hM.1.2.2.2.2.2.2.2.2.1 | exact hM.1.2.2.2.2.2.2.2.2.2.1 | exact hM.1.2.2.2.2.2.2.2.2.2.2) rfl rfl (c_X6_has hM 0 i 0 (by unfold ctA; omega) ?_)
      refine V_iret 74 dX6_contender_74 ?_
      exact pof (k1 c_2) ((hR.2.2.1.2.2.2.2.1 i hi).1.trans (by rw [sw19_1]; exact (cel E (k := 1) (kk := 1) (by omega) rfl (by omega)).symm))
    by_cases sw19_2 : y = 2
    · refine V_tableIn 19 75 (56) dX6_contender_19 (by rw [sw19_2]; decide) (by rw [sw19_2]; decide) (by rw [sw19_2]; rfl) rfl ?_
      refine V_aload_n 75 dX6_contender_75 rfl ?_
      refine V_iconstv 76 (0) dX6_contender_76 (by decide) ?_
      refine V_iload_n 77 dX6_contender_77 rfl ?_
      refine V_iconstv 78 (1) dX6_contender_78 (by decide) ?_
      refine V_iv3 79 dX6_contender_79 kvX6_56 rfl (by first | exact hM.1.1 | exact hM.1.2.1 | exact hM.1.2.2.1 | exact hM.1.2.2.2.1 | exact hM.1.2.2.2.2.1 | exact hM.1.2.2.2.2.2.1 | exact hM.1.2.2.2.2.2.2.1 | exact hM.1.2.2.2.2.2.2.2.1 | exact hM.1.2.2.2.2.2.2.2.2.1 | exact hM.1.2.2.2.2.2.2.2.2.2.1 | exact hM.1.2.2.2.2.2.2.2.2.2.2) rfl rfl (c_X6_has hM 0 i 1 (by unfold ctA; omega) ?_)
      refine V_iret 82 dX6_contender_82 ?_
      exact pof (k1 c_2) ((hR.2.2.1.2.2.2.2.1 i hi).2.1.trans (by rw [sw19_2]; exact (cel E (k := 0) (kk := 0) (by omega) rfl (by omega)).symm))
    by_cases sw19_3 : y = 3
    · refine V_tableIn 19 83 (64) dX6_contender_19 (by rw [sw19_3]; decide) (by rw [sw19_3]; decide) (by rw [sw19_3]; rfl) rfl ?_
      refine V_aload_n 83 dX6_contender_83 rfl ?_
      refine V_iconstv 84 (0) dX6_contender_84 (by decide) ?_
      refine V_iload_n 85 dX6_contender_85 rfl ?_
      refine V_iconstv 86 (2) dX6_contender_86 (by decide) ?_
      refine V_iv3 87 dX6_contender_87 kvX6_56 rfl (by first | exact hM.1.1 | exact hM.1.2.1 | exact hM.1.2.2.1 | exact hM.1.2.2.2.1 | exact hM.1.2.2.2.2.1 | exact hM.1.2.2.2.2.2.1 | exact hM.1.2.2.2.2.2.2.1 | exact hM.1.2.2.2.2.2.2.2.1 | exact hM.1.2.2.2.2.2.2.2.2.1 | exact hM.1.2.2.2.2.2.2.2.2.2.1 | exact hM.1.2.2.2.2.2.2.2.2.2.2) rfl rfl (c_X6_has hM 0 i 2 (by unfold ctA; omega) ?_)
      refine V_iret 90 dX6_contender_90 ?_
      exact pof (k1 c_2) ((hR.2.2.1.2.2.2.2.1 i hi).2.2.1.trans (by rw [sw19_3]; exact (cel E (k := 2) (kk := 2) (by omega) rfl (by omega)).symm))
    by_cases sw19_4 : y = 4
    · refine V_tableIn 19 91 (72) dX6_contender_19 (by rw [sw19_4]; decide) (by rw [sw19_4]; decide) (by rw [sw19_4]; rfl) rfl ?_
      refine V_aload_n 91 dX6_contender_91 rfl ?_
      refine V_iconstv 92 (0) dX6_contender_92 (by decide) ?_
      refine V_iload_n 93 dX6_contender_93 rfl ?_
      refine V_iconstv 94 (3) dX6_contender_94 (by decide) ?_
      refine V_iv3 95 dX6_contender_95 kvX6_56 rfl (by first | exact hM.1.1 | exact hM.1.2.1 | exact hM.1.2.2.1 | exact hM.1.2.2.2.1 | exact hM.1.2.2.2.2.1 | exact hM.1.2.2.2.2.2.1 | exact hM.1.2.2.2.2.2.2.1 | exact hM.1.2.2.2.2.2.2.2.1 | exact hM.1.2.2.2.2.2.2.2.2.1 | exact hM.1.2.2.2.2.2.2.2.2.2.1 | exact hM.1.2.2.2.2.2.2.2.2.2.2) rfl rfl (c_X6_has hM 0 i 3 (by unfold ctA; omega) ?_)
      refine V_iret 98 dX6_contender_98 ?_
      exact pof (k1 c_2) ((hR.2.2.1.2.2.2.2.1 i hi).2.2.2.1.trans (by rw [sw19_4]; exact (cel E (k := 3) (kk := 3) (by omega) rfl (by omega)).symm))
    by_cases sw19_5 : y = 5
    · refine V_tableIn 19 99 (80) dX6_contender_19 (by rw [sw19_5]; decide) (by rw [sw19_5]; decide) (by rw [sw19_5]; rfl) rfl ?_
      refine V_aload_n 99 dX6_contender_99 rfl ?_
      refine V_iconstv 100 (0) dX6_contender_100 (by decide) ?_
      refine V_iload_n 101 dX6_contender_101 rfl ?_
      refine V_iconstv 102 (4) dX6_contender_102 (by decide) ?_
      refine V_iv3 103 dX6_contender_103 kvX6_56 rfl (by first | exact hM.1.1 | exact hM.1.2.1 | exact hM.1.2.2.1 | exact hM.1.2.2.2.1 | exact hM.1.2.2.2.2.1 | exact hM.1.2.2.2.2.2.1 | exact hM.1.2.2.2.2.2.2.1 | exact hM.1.2.2.2.2.2.2.2.1 | exact hM.1.2.2.2.2.2.2.2.2.1 | exact hM.1.2.2.2.2.2.2.2.2.2.1 | exact hM.1.2.2.2.2.2.2.2.2.2.2) rfl rfl (c_X6_has hM 0 i 4 (by unfold ctA; omega) ?_)
      refine V_iret 106 dX6_contender_106 ?_
      exact pof (k1 c_2) ((hR.2.2.1.2.2.2.2.1 i hi).2.2.2.2.1.trans (by rw [sw19_5]; exact (cel E (k := 4) (kk := 4) (by omega) rfl (by omega)).symm))
    by_cases sw19_6 : y = 6
    · refine V_tableIn 19 107 (88) dX6_contender_19 (by rw [sw19_6]; decide) (by rw [sw19_6]; decide) (by rw [sw19_6]; rfl) rfl ?_
      refine V_iload_n 107 dX6_contender_107 rfl ?_
      refine V_iconstv 108 (2) dX6_contender_108 (by decide) ?_
      refine V_icmp_ne 109 122 dX6_contender_109 rfl (fun c_109 => ?_) (fun c_109 => ?_)
      · refine V_iload_n 122 dX6_contender_122 rfl ?_
        refine V_iconstv 123 (3) dX6_contender_123 (by decide) ?_
        refine V_icmp_ne 124 138 dX6_contender_124 rfl (fun c_124 => ?_) (fun c_124 => ?_)
        · refine V_iconstv 138 (0) dX6_contender_138 (by decide) ?_
          refine V_iret 139 dX6_contender_139 ?_
          rw [sw19_6] at k1
          first
          | exact pof (k1 c_2) (((hR.2.2.1.2.2.2.2.1 i hi).2.2.2.2.2.1 c_109).trans c6.symm)
          | exact pof (k1 c_2) (((hR.2.2.1.2.2.2.2.1 i hi).2.2.2.2.2.2.1 c_124).trans c6.symm)
          | exact pof (k1 c_2) ((hR.tl c_109 c_124 hi).symm.trans c6.symm)
        · refine V_aload_n 127 dX6_contender_127 rfl ?_
          refine V_iconstv 128 (0) dX6_contender_128 (by decide) ?_
          refine V_iload_n 129 dX6_contender_129 rfl ?_
          refine V_bipushv 130 (7) dX6_contender_130 (by decide) ?_
          refine V_iv3 132 dX6_contender_132 kvX6_56 rfl (by first | exact hM.1.1 | exact hM.1.2.1 | exact hM.1.2.2.1 | exact hM.1.2.2.2.1 | exact hM.1.2.2.2.2.1 | exact hM.1.2.2.2.2.2.1 | exact hM.1.2.2.2.2.2.2.1 | exact hM.1.2.2.2.2.2.2.2.1 | exact hM.1.2.2.2.2.2.2.2.2.1 | exact hM.1.2.2.2.2.2.2.2.2.2.1 | exact hM.1.2.2.2.2.2.2.2.2.2.2) rfl rfl (c_X6_has hM 0 i 7 (by unfold ctA; omega) ?_)
          refine V_goto 135 139 dX6_contender_135 rfl ?_
          refine V_iret 139 dX6_contender_139 ?_
          rw [sw19_6] at k1
          first
          | exact pof (k1 c_2) (((hR.2.2.1.2.2.2.2.1 i hi).2.2.2.2.2.1 c_109).trans c6.symm)
          | exact pof (k1 c_2) (((hR.2.2.1.2.2.2.2.1 i hi).2.2.2.2.2.2.1 c_124).trans c6.symm)
          | exact pof (k1 c_2) ((hR.tl c_109 c_124 hi).symm.trans c6.symm)
      · refine V_aload_n 112 dX6_contender_112 rfl ?_
        refine V_iconstv 113 (0) dX6_contender_113 (by decide) ?_
        refine V_iload_n 114 dX6_contender_114 rfl ?_
        refine V_iconstv 115 (5) dX6_contender_115 (by decide) ?_
        refine V_iv3 116 dX6_contender_116 kvX6_56 rfl (by first | exact hM.1.1 | exact hM.1.2.1 | exact hM.1.2.2.1 | exact hM.1.2.2.2.1 | exact hM.1.2.2.2.2.1 | exact hM.1.2.2.2.2.2.1 | exact hM.1.2.2.2.2.2.2.1 | exact hM.1.2.2.2.2.2.2.2.1 | exact hM.1.2.2.2.2.2.2.2.2.1 | exact hM.1.2.2.2.2.2.2.2.2.2.1 | exact hM.1.2.2.2.2.2.2.2.2.2.2) rfl rfl (c_X6_has hM 0 i 5 (by unfold ctA; omega) ?_)
        refine V_goto 119 139 dX6_contender_119 rfl ?_
        refine V_iret 139 dX6_contender_139 ?_
        rw [sw19_6] at k1
        first
        | exact pof (k1 c_2) (((hR.2.2.1.2.2.2.2.1 i hi).2.2.2.2.2.1 c_109).trans c6.symm)
        | exact pof (k1 c_2) (((hR.2.2.1.2.2.2.2.1 i hi).2.2.2.2.2.2.1 c_124).trans c6.symm)
        | exact pof (k1 c_2) ((hR.tl c_109 c_124 hi).symm.trans c6.symm)
    have tq0 : ¬ y.toInt = 0 := fun q => sw19_0 (Int32.toInt_inj.mp q)
    have tq1 : ¬ y.toInt = 1 := fun q => sw19_1 (Int32.toInt_inj.mp q)
    have tq2 : ¬ y.toInt = 2 := fun q => sw19_2 (Int32.toInt_inj.mp q)
    have tq3 : ¬ y.toInt = 3 := fun q => sw19_3 (Int32.toInt_inj.mp q)
    have tq4 : ¬ y.toInt = 4 := fun q => sw19_4 (Int32.toInt_inj.mp q)
    have tq5 : ¬ y.toInt = 5 := fun q => sw19_5 (Int32.toInt_inj.mp q)
    have tq6 : ¬ y.toInt = 6 := fun q => sw19_6 (Int32.toInt_inj.mp q)
    refine V_tableOut 19 140 dX6_contender_19 (by omega) rfl ?_
    refine V_ldc 140 dX6_contender_140 knX6_161 ?_
    refine V_iret 142 dX6_contender_142 ?_
    exact pof (k1 c_2) (by unfold ctdR; rw [if_neg sw19_0, if_neg sw19_1, if_neg sw19_2, if_neg sw19_3, if_neg sw19_4, if_neg sw19_5, if_neg sw19_6])
  · refine V_if_ne 5 11 dX6_contender_5 rfl (fun q => absurd q (by decide)) (fun _ => ?_)
    refine V_ldc 8 dX6_contender_8 knX6_215 ?_
    refine V_iret 10 dX6_contender_10 ?_
    exact k0 c_2
set_option maxHeartbeats 1000000 in
set_option maxRecDepth 100000 in
theorem c_X6_count (hM : WM G h0 h m M) (hR : REL B X Q E nx hs K M) {y : Int32} (k : Post (some (.int (cntR X Q E hs y))) h sz) : Cn l G yX6_count cX6_count 3 (some .int) 3 0 0 [.ref m, .int y] h sz Post := by
  refine Cn.of RX6 false (by decide) rfl (fun q => by cases q) (Nat.le_of_ble_eq_true rfl) ?_
  have hn := hR.2.1.2.1
  refine V_aload_n 0 dX6_count_0 rfl ?_
  refine V_iv0 1 dX6_count_1 kvX6_216 rfl (by first | exact hM.1.1 | exact hM.1.2.1 | exact hM.1.2.2.1 | exact hM.1.2.2.2.1 | exact hM.1.2.2.2.2.1 | exact hM.1.2.2.2.2.2.1 | exact hM.1.2.2.2.2.2.2.1 | exact hM.1.2.2.2.2.2.2.2.1 | exact hM.1.2.2.2.2.2.2.2.2.1 | exact hM.1.2.2.2.2.2.2.2.2.2.1 | exact hM.1.2.2.2.2.2.2.2.2.2.2) rfl rfl (c_X6_isBegunR hM hR (fun c_1 => ?_) (fun c_1 => ?_))
  · refine V_istore_n 4 dX6_count_4 rfl rfl ?_
    refine V_iload_n 5 dX6_count_5 rfl ?_
    by_cases sw6_0 : y = 0
    · refine V_tableIn 6 64 (58) dX6_count_6 (by rw [sw6_0]; decide) (by rw [sw6_0]; decide) (by rw [sw6_0]; rfl) rfl ?_
      refine V_aload_n 64 dX6_count_64 rfl ?_
      refine V_get 65 dX6_count_65 fdX6_41 (by first | exact hM.1.1 | exact hM.1.2.1 | exact hM.1.2.2.1 | exact hM.1.2.2.2.1 | exact hM.1.2.2.2.2.1 | exact hM.1.2.2.2.2.2.1 | exact hM.1.2.2.2.2.2.2.1 | exact hM.1.2.2.2.2.2.2.2.1 | exact hM.1.2.2.2.2.2.2.2.2.1 | exact hM.1.2.2.2.2.2.2.2.2.2.1 | exact hM.1.2.2.2.2.2.2.2.2.2.2) rfl ?_
      refine V_iret 68 dX6_count_68 ?_
      exact pof k (by rw [sw6_0]; exact hR.2.1.1)
    by_cases sw6_1 : y = 1
    · refine V_tableIn 6 69 (63) dX6_count_6 (by rw [sw6_1]; decide) (by rw [sw6_1]; decide) (by rw [sw6_1]; rfl) rfl ?_
      refine V_aload_n 69 dX6_count_69 rfl ?_
      refine V_get 70 dX6_count_70 fdX6_16 (by first | exact hM.1.1 | exact hM.1.2.1 | exact hM.1.2.2.1 | exact hM.1.2.2.2.1 | exact hM.1.2.2.2.2.1 | exact hM.1.2.2.2.2.2.1 | exact hM.1.2.2.2.2.2.2.1 | exact hM.1.2.2.2.2.2.2.2.1 | exact hM.1.2.2.2.2.2.2.2.2.1 | exact hM.1.2.2.2.2.2.2.2.2.2.1 | exact hM.1.2.2.2.2.2.2.2.2.2.2) rfl ?_
      refine V_iconstv 73 (0) dX6_count_73 (by decide) ?_
      refine V_ialdk 74 0 rfl dX6_count_74 (by first | exact hM.1.1 | exact hM.1.2.1 | exact hM.1.2.2.1 | exact hM.1.2.2.2.1 | exact hM.1.2.2.2.2.1 | exact hM.1.2.2.2.2.2.1 | exact hM.1.2.2.2.2.2.2.1 | exact hM.1.2.2.2.2.2.2.2.1 | exact hM.1.2.2.2.2.2.2.2.2.1 | exact hM.1.2.2.2.2.2.2.2.2.2.1 | exact hM.1.2.2.2.2.2.2.2.2.2.2) (inb_in (by decide)) ?_
      refine V_iret 75 dX6_count_75 ?_
      exact pof k (by rw [sw6_1]; exact hR.2.2.1.1)
    by_cases sw6_2 : y = 2
    · refine V_tableIn 6 76 (70) dX6_count_6 (by rw [sw6_2]; decide) (by rw [sw6_2]; decide) (by rw [sw6_2]; rfl) rfl ?_
      refine V_aload_n 76 dX6_count_76 rfl ?_
      refine V_get 77 dX6_count_77 fdX6_16 (by first | exact hM.1.1 | exact hM.1.2.1 | exact hM.1.2.2.1 | exact hM.1.2.2.2.1 | exact hM.1.2.2.2.2.1 | exact hM.1.2.2.2.2.2.1 | exact hM.1.2.2.2.2.2.2.1 | exact hM.1.2.2.2.2.2.2.2.1 | exact hM.1.2.2.2.2.2.2.2.2.1 | exact hM.1.2.2.2.2.2.2.2.2.2.1 | exact hM.1.2.2.2.2.2.2.2.2.2.2) rfl ?_
      refine V_iconstv 80 (2) dX6_count_80 (by decide) ?_
      refine V_ialdk 81 2 rfl dX6_count_81 (by first | exact hM.1.1 | exact hM.1.2.1 | exact hM.1.2.2.1 | exact hM.1.2.2.2.1 | exact hM.1.2.2.2.2.1 | exact hM.1.2.2.2.2.2.1 | exact hM.1.2.2.2.2.2.2.1 | exact hM.1.2.2.2.2.2.2.2.1 | exact hM.1.2.2.2.2.2.2.2.2.1 | exact hM.1.2.2.2.2.2.2.2.2.2.1 | exact hM.1.2.2.2.2.2.2.2.2.2.2) (inb_in (by decide)) ?_
      refine V_iret 82 dX6_count_82 ?_
      exact pof k (by rw [sw6_2]; exact hR.2.2.1.2.2.1)
    by_cases sw6_3 : y = 3
    · refine V_tableIn 6 83 (77) dX6_count_6 (by rw [sw6_3]; decide) (by rw [sw6_3]; decide) (by rw [sw6_3]; rfl) rfl ?_
      refine V_iload_n 83 dX6_count_83 rfl ?_
      refine V_if_eq 84 98 dX6_count_84 rfl (fun q => absurd q (by decide)) (fun _ => ?_)
      refine V_aload_n 87 dX6_count_87 rfl ?_
      refine V_iconstv 88 (0) dX6_count_88 (by decide) ?_
      refine V_iload_n 89 dX6_count_89 rfl ?_
      refine V_iconstv 90 (3) dX6_count_90 (by decide) ?_
      refine V_isub 91 dX6_count_91 ?_
      refine V_iv2 92 dX6_count_92 kvX6_245 rfl (by first | exact hM.1.1 | exact hM.1.2.1 | exact hM.1.2.2.1 | exact hM.1.2.2.2.1 | exact hM.1.2.2.2.2.1 | exact hM.1.2.2.2.2.2.1 | exact hM.1.2.2.2.2.2.2.1 | exact hM.1.2.2.2.2.2.2.2.1 | exact hM.1.2.2.2.2.2.2.2.2.1 | exact hM.1.2.2.2.2.2.2.2.2.2.1 | exact hM.1.2.2.2.2.2.2.2.2.2.2) rfl rfl (c_X6_manyAre (hR.wx hM) ?_)
      refine V_goto 95 99 dX6_count_95 rfl ?_
      refine V_iret 99 dX6_count_99 ?_
      first
      | exact pof k (by rw [sw6_3]; show _ = insN Q E _; unfold insN; rw [if_neg c_1]; rfl)
      | exact pof k (by rw [sw6_3]; show _ = insN Q E _; unfold insN; rw [if_pos c_1]; rfl)
      | exact pof k (by rw [sw6_4]; show _ = insN Q E _; unfold insN; rw [if_neg c_1]; rfl)
      | exact pof k (by rw [sw6_4]; show _ = insN Q E _; unfold insN; rw [if_pos c_1]; rfl)
      | exact pof k (by rw [sw6_5]; show _ = insN Q E _; unfold insN; rw [if_neg c_1]; rfl)
      | exact pof k (by rw [sw6_5]; show _ = insN Q E _; unfold insN; rw [if_pos c_1]; rfl)
      | exact pof k (by rw [sw6_6]; show _ = insN Q E _; unfold insN; rw [if_neg c_1]; rfl)
      | exact pof k (by rw [sw6_6]; show _ = insN Q E _; unfold insN; rw [if_pos c_1]; rfl)
      | exact pof k (by rw [sw6_7]; show _ = insN Q E _; unfold insN; rw [if_neg c_1]; rfl)
      | exact pof k (by rw [sw6_7]; show _ = insN Q E _; unfold insN; rw [if_pos c_1]; rfl)
    by_cases sw6_4 : y = 4
    · refine V_tableIn 6 83 (77) dX6_count_6 (by rw [sw6_4]; decide) (by rw [sw6_4]; decide) (by rw [sw6_4]; rfl) rfl ?_
      refine V_iload_n 83 dX6_count_83 rfl ?_
      refine V_if_eq 84 98 dX6_count_84 rfl (fun q => absurd q (by decide)) (fun _ => ?_)
      refine V_aload_n 87 dX6_count_87 rfl ?_
      refine V_iconstv 88 (0) dX6_count_88 (by decide) ?_
      refine V_iload_n 89 dX6_count_89 rfl ?_
      refine V_iconstv 90 (3) dX6_count_90 (by decide) ?_
      refine V_isub 91 dX6_count_91 ?_
      refine V_iv2 92 dX6_count_92 kvX6_245 rfl (by first | exact hM.1.1 | exact hM.1.2.1 | exact hM.1.2.2.1 | exact hM.1.2.2.2.1 | exact hM.1.2.2.2.2.1 | exact hM.1.2.2.2.2.2.1 | exact hM.1.2.2.2.2.2.2.1 | exact hM.1.2.2.2.2.2.2.2.1 | exact hM.1.2.2.2.2.2.2.2.2.1 | exact hM.1.2.2.2.2.2.2.2.2.2.1 | exact hM.1.2.2.2.2.2.2.2.2.2.2) rfl rfl (c_X6_manyAre (hR.wx hM) ?_)
      refine V_goto 95 99 dX6_count_95 rfl ?_
      refine V_iret 99 dX6_count_99 ?_
      first
      | exact pof k (by rw [sw6_3]; show _ = insN Q E _; unfold insN; rw [if_neg c_1]; rfl)
      | exact pof k (by rw [sw6_3]; show _ = insN Q E _; unfold insN; rw [if_pos c_1]; rfl)
      | exact pof k (by rw [sw6_4]; show _ = insN Q E _; unfold insN; rw [if_neg c_1]; rfl)
      | exact pof k (by rw [sw6_4]; show _ = insN Q E _; unfold insN; rw [if_pos c_1]; rfl)
      | exact pof k (by rw [sw6_5]; show _ = insN Q E _; unfold insN; rw [if_neg c_1]; rfl)
      | exact pof k (by rw [sw6_5]; show _ = insN Q E _; unfold insN; rw [if_pos c_1]; rfl)
      | exact pof k (by rw [sw6_6]; show _ = insN Q E _; unfold insN; rw [if_neg c_1]; rfl)
      | exact pof k (by rw [sw6_6]; show _ = insN Q E _; unfold insN; rw [if_pos c_1]; rfl)
      | exact pof k (by rw [sw6_7]; show _ = insN Q E _; unfold insN; rw [if_neg c_1]; rfl)
      | exact pof k (by rw [sw6_7]; show _ = insN Q E _; unfold insN; rw [if_pos c_1]; rfl)
    by_cases sw6_5 : y = 5
    · refine V_tableIn 6 83 (77) dX6_count_6 (by rw [sw6_5]; decide) (by rw [sw6_5]; decide) (by rw [sw6_5]; rfl) rfl ?_
      refine V_iload_n 83 dX6_count_83 rfl ?_
      refine V_if_eq 84 98 dX6_count_84 rfl (fun q => absurd q (by decide)) (fun _ => ?_)
      refine V_aload_n 87 dX6_count_87 rfl ?_
      refine V_iconstv 88 (0) dX6_count_88 (by decide) ?_
      refine V_iload_n 89 dX6_count_89 rfl ?_
      refine V_iconstv 90 (3) dX6_count_90 (by decide) ?_
      refine V_isub 91 dX6_count_91 ?_
      refine V_iv2 92 dX6_count_92 kvX6_245 rfl (by first | exact hM.1.1 | exact hM.1.2.1 | exact hM.1.2.2.1 | exact hM.1.2.2.2.1 | exact hM.1.2.2.2.2.1 | exact hM.1.2.2.2.2.2.1 | exact hM.1.2.2.2.2.2.2.1 | exact hM.1.2.2.2.2.2.2.2.1 | exact hM.1.2.2.2.2.2.2.2.2.1 | exact hM.1.2.2.2.2.2.2.2.2.2.1 | exact hM.1.2.2.2.2.2.2.2.2.2.2) rfl rfl (c_X6_manyAre (hR.wx hM) ?_)
      refine V_goto 95 99 dX6_count_95 rfl ?_
      refine V_iret 99 dX6_count_99 ?_
      first
      | exact pof k (by rw [sw6_3]; show _ = insN Q E _; unfold insN; rw [if_neg c_1]; rfl)
      | exact pof k (by rw [sw6_3]; show _ = insN Q E _; unfold insN; rw [if_pos c_1]; rfl)
      | exact pof k (by rw [sw6_4]; show _ = insN Q E _; unfold insN; rw [if_neg c_1]; rfl)
      | exact pof k (by rw [sw6_4]; show _ = insN Q E _; unfold insN; rw [if_pos c_1]; rfl)
      | exact pof k (by rw [sw6_5]; show _ = insN Q E _; unfold insN; rw [if_neg c_1]; rfl)
      | exact pof k (by rw [sw6_5]; show _ = insN Q E _; unfold insN; rw [if_pos c_1]; rfl)
      | exact pof k (by rw [sw6_6]; show _ = insN Q E _; unfold insN; rw [if_neg c_1]; rfl)
      | exact pof k (by rw [sw6_6]; show _ = insN Q E _; unfold insN; rw [if_pos c_1]; rfl)
      | exact pof k (by rw [sw6_7]; show _ = insN Q E _; unfold insN; rw [if_neg c_1]; rfl)
      | exact pof k (by rw [sw6_7]; show _ = insN Q E _; unfold insN; rw [if_pos c_1]; rfl)
    by_cases sw6_6 : y = 6
    · refine V_tableIn 6 83 (77) dX6_count_6 (by rw [sw6_6]; decide) (by rw [sw6_6]; decide) (by rw [sw6_6]; rfl) rfl ?_
      refine V_iload_n 83 dX6_count_83 rfl ?_
      refine V_if_eq 84 98 dX6_count_84 rfl (fun q => absurd q (by decide)) (fun _ => ?_)
      refine V_aload_n 87 dX6_count_87 rfl ?_
      refine V_iconstv 88 (0) dX6_count_88 (by decide) ?_
      refine V_iload_n 89 dX6_count_89 rfl ?_
      refine V_iconstv 90 (3) dX6_count_90 (by decide) ?_
      refine V_isub 91 dX6_count_91 ?_
      refine V_iv2 92 dX6_count_92 kvX6_245 rfl (by first | exact hM.1.1 | exact hM.1.2.1 | exact hM.1.2.2.1 | exact hM.1.2.2.2.1 | exact hM.1.2.2.2.2.1 | exact hM.1.2.2.2.2.2.1 | exact hM.1.2.2.2.2.2.2.1 | exact hM.1.2.2.2.2.2.2.2.1 | exact hM.1.2.2.2.2.2.2.2.2.1 | exact hM.1.2.2.2.2.2.2.2.2.2.1 | exact hM.1.2.2.2.2.2.2.2.2.2.2) rfl rfl (c_X6_manyAre (hR.wx hM) ?_)
      refine V_goto 95 99 dX6_count_95 rfl ?_
      refine V_iret 99 dX6_count_99 ?_
      first
      | exact pof k (by rw [sw6_3]; show _ = insN Q E _; unfold insN; rw [if_neg c_1]; rfl)
      | exact pof k (by rw [sw6_3]; show _ = insN Q E _; unfold insN; rw [if_pos c_1]; rfl)
      | exact pof k (by rw [sw6_4]; show _ = insN Q E _; unfold insN; rw [if_neg c_1]; rfl)
      | exact pof k (by rw [sw6_4]; show _ = insN Q E _; unfold insN; rw [if_pos c_1]; rfl)
      | exact pof k (by rw [sw6_5]; show _ = insN Q E _; unfold insN; rw [if_neg c_1]; rfl)
      | exact pof k (by rw [sw6_5]; show _ = insN Q E _; unfold insN; rw [if_pos c_1]; rfl)
      | exact pof k (by rw [sw6_6]; show _ = insN Q E _; unfold insN; rw [if_neg c_1]; rfl)
      | exact pof k (by rw [sw6_6]; show _ = insN Q E _; unfold insN; rw [if_pos c_1]; rfl)
      | exact pof k (by rw [sw6_7]; show _ = insN Q E _; unfold insN; rw [if_neg c_1]; rfl)
      | exact pof k (by rw [sw6_7]; show _ = insN Q E _; unfold insN; rw [if_pos c_1]; rfl)
    by_cases sw6_7 : y = 7
    · refine V_tableIn 6 83 (77) dX6_count_6 (by rw [sw6_7]; decide) (by rw [sw6_7]; decide) (by rw [sw6_7]; rfl) rfl ?_
      refine V_iload_n 83 dX6_count_83 rfl ?_
      refine V_if_eq 84 98 dX6_count_84 rfl (fun q => absurd q (by decide)) (fun _ => ?_)
      refine V_aload_n 87 dX6_count_87 rfl ?_
      refine V_iconstv 88 (0) dX6_count_88 (by decide) ?_
      refine V_iload_n 89 dX6_count_89 rfl ?_
      refine V_iconstv 90 (3) dX6_count_90 (by decide) ?_
      refine V_isub 91 dX6_count_91 ?_
      refine V_iv2 92 dX6_count_92 kvX6_245 rfl (by first | exact hM.1.1 | exact hM.1.2.1 | exact hM.1.2.2.1 | exact hM.1.2.2.2.1 | exact hM.1.2.2.2.2.1 | exact hM.1.2.2.2.2.2.1 | exact hM.1.2.2.2.2.2.2.1 | exact hM.1.2.2.2.2.2.2.2.1 | exact hM.1.2.2.2.2.2.2.2.2.1 | exact hM.1.2.2.2.2.2.2.2.2.2.1 | exact hM.1.2.2.2.2.2.2.2.2.2.2) rfl rfl (c_X6_manyAre (hR.wx hM) ?_)
      refine V_goto 95 99 dX6_count_95 rfl ?_
      refine V_iret 99 dX6_count_99 ?_
      first
      | exact pof k (by rw [sw6_3]; show _ = insN Q E _; unfold insN; rw [if_neg c_1]; rfl)
      | exact pof k (by rw [sw6_3]; show _ = insN Q E _; unfold insN; rw [if_pos c_1]; rfl)
      | exact pof k (by rw [sw6_4]; show _ = insN Q E _; unfold insN; rw [if_neg c_1]; rfl)
      | exact pof k (by rw [sw6_4]; show _ = insN Q E _; unfold insN; rw [if_pos c_1]; rfl)
      | exact pof k (by rw [sw6_5]; show _ = insN Q E _; unfold insN; rw [if_neg c_1]; rfl)
      | exact pof k (by rw [sw6_5]; show _ = insN Q E _; unfold insN; rw [if_pos c_1]; rfl)
      | exact pof k (by rw [sw6_6]; show _ = insN Q E _; unfold insN; rw [if_neg c_1]; rfl)
      | exact pof k (by rw [sw6_6]; show _ = insN Q E _; unfold insN; rw [if_pos c_1]; rfl)
      | exact pof k (by rw [sw6_7]; show _ = insN Q E _; unfold insN; rw [if_neg c_1]; rfl)
      | exact pof k (by rw [sw6_7]; show _ = insN Q E _; unfold insN; rw [if_pos c_1]; rfl)
    by_cases sw6_8 : y = 8
    · refine V_tableIn 6 100 (94) dX6_count_6 (by rw [sw6_8]; decide) (by rw [sw6_8]; decide) (by rw [sw6_8]; rfl) rfl ?_
      refine V_iload_n 100 dX6_count_100 rfl ?_
      refine V_if_eq 101 112 dX6_count_101 rfl (fun q => absurd q (by decide)) (fun _ => ?_)
      refine V_aload_n 104 dX6_count_104 rfl ?_
      refine V_iconstv 105 (0) dX6_count_105 (by decide) ?_
      refine V_iv1 106 dX6_count_106 kvX6_242 rfl (by first | exact hM.1.1 | exact hM.1.2.1 | exact hM.1.2.2.1 | exact hM.1.2.2.2.1 | exact hM.1.2.2.2.2.1 | exact hM.1.2.2.2.2.2.1 | exact hM.1.2.2.2.2.2.2.1 | exact hM.1.2.2.2.2.2.2.2.1 | exact hM.1.2.2.2.2.2.2.2.2.1 | exact hM.1.2.2.2.2.2.2.2.2.2.1 | exact hM.1.2.2.2.2.2.2.2.2.2.2) rfl rfl (c_X6_headOf (hR.wx hM) ?_)
      refine V_goto 109 113 dX6_count_109 rfl ?_
      refine V_iret 113 dX6_count_113 ?_
      first | exact pof k (by rw [sw6_8]; rfl) | exact pof k (by rw [sw6_8]; exact (hR.hd0 c_1).symm)
    by_cases sw6_9 : y = 9
    · refine V_tableIn 6 114 (108) dX6_count_6 (by rw [sw6_9]; decide) (by rw [sw6_9]; decide) (by rw [sw6_9]; rfl) rfl ?_
      refine V_aload_n 114 dX6_count_114 rfl ?_
      refine V_get 115 dX6_count_115 fdX6_153 (by first | exact hM.1.1 | exact hM.1.2.1 | exact hM.1.2.2.1 | exact hM.1.2.2.2.1 | exact hM.1.2.2.2.2.1 | exact hM.1.2.2.2.2.2.1 | exact hM.1.2.2.2.2.2.2.1 | exact hM.1.2.2.2.2.2.2.2.1 | exact hM.1.2.2.2.2.2.2.2.2.1 | exact hM.1.2.2.2.2.2.2.2.2.2.1 | exact hM.1.2.2.2.2.2.2.2.2.2.2) rfl ?_
      refine V_iret 118 dX6_count_118 ?_
      exact pof k (by rw [sw6_9]; exact hR.2.2.2.1)
    by_cases sw6_10 : y = 10
    · refine V_tableIn 6 119 (113) dX6_count_6 (by rw [sw6_10]; decide) (by rw [sw6_10]; decide) (by rw [sw6_10]; rfl) rfl ?_
      refine V_aload_n 119 dX6_count_119 rfl ?_
      refine V_get 120 dX6_count_120 fdX6_162 (by first | exact hM.1.1 | exact hM.1.2.1 | exact hM.1.2.2.1 | exact hM.1.2.2.2.1 | exact hM.1.2.2.2.2.1 | exact hM.1.2.2.2.2.2.1 | exact hM.1.2.2.2.2.2.2.1 | exact hM.1.2.2.2.2.2.2.2.1 | exact hM.1.2.2.2.2.2.2.2.2.1 | exact hM.1.2.2.2.2.2.2.2.2.2.1 | exact hM.1.2.2.2.2.2.2.2.2.2.2) rfl ?_
      refine V_iret 123 dX6_count_123 ?_
      exact pof k (by rw [sw6_10]; exact hR.1.1)
    have tq0 : ¬ y.toInt = 0 := fun q => sw6_0 (Int32.toInt_inj.mp q)
    have tq1 : ¬ y.toInt = 1 := fun q => sw6_1 (Int32.toInt_inj.mp q)
    have tq2 : ¬ y.toInt = 2 := fun q => sw6_2 (Int32.toInt_inj.mp q)
    have tq3 : ¬ y.toInt = 3 := fun q => sw6_3 (Int32.toInt_inj.mp q)
    have tq4 : ¬ y.toInt = 4 := fun q => sw6_4 (Int32.toInt_inj.mp q)
    have tq5 : ¬ y.toInt = 5 := fun q => sw6_5 (Int32.toInt_inj.mp q)
    have tq6 : ¬ y.toInt = 6 := fun q => sw6_6 (Int32.toInt_inj.mp q)
    have tq7 : ¬ y.toInt = 7 := fun q => sw6_7 (Int32.toInt_inj.mp q)
    have tq8 : ¬ y.toInt = 8 := fun q => sw6_8 (Int32.toInt_inj.mp q)
    have tq9 : ¬ y.toInt = 9 := fun q => sw6_9 (Int32.toInt_inj.mp q)
    have tq10 : ¬ y.toInt = 10 := fun q => sw6_10 (Int32.toInt_inj.mp q)
    refine V_tableOut 6 124 dX6_count_6 (by omega) rfl ?_
    refine V_ldc 124 dX6_count_124 knX6_161 ?_
    refine V_iret 126 dX6_count_126 ?_
    exact pof k (by unfold cntR; rw [if_neg sw6_0, if_neg sw6_1, if_neg sw6_2, if_neg sw6_3, if_neg sw6_4, if_neg sw6_5, if_neg sw6_6, if_neg sw6_7, if_neg sw6_8, if_neg sw6_9, if_neg sw6_10])
  · refine V_istore_n 4 dX6_count_4 rfl rfl ?_
    refine V_iload_n 5 dX6_count_5 rfl ?_
    by_cases sw6_0 : y = 0
    · refine V_tableIn 6 64 (58) dX6_count_6 (by rw [sw6_0]; decide) (by rw [sw6_0]; decide) (by rw [sw6_0]; rfl) rfl ?_
      refine V_aload_n 64 dX6_count_64 rfl ?_
      refine V_get 65 dX6_count_65 fdX6_41 (by first | exact hM.1.1 | exact hM.1.2.1 | exact hM.1.2.2.1 | exact hM.1.2.2.2.1 | exact hM.1.2.2.2.2.1 | exact hM.1.2.2.2.2.2.1 | exact hM.1.2.2.2.2.2.2.1 | exact hM.1.2.2.2.2.2.2.2.1 | exact hM.1.2.2.2.2.2.2.2.2.1 | exact hM.1.2.2.2.2.2.2.2.2.2.1 | exact hM.1.2.2.2.2.2.2.2.2.2.2) rfl ?_
      refine V_iret 68 dX6_count_68 ?_
      exact pof k (by rw [sw6_0]; exact hR.2.1.1)
    by_cases sw6_1 : y = 1
    · refine V_tableIn 6 69 (63) dX6_count_6 (by rw [sw6_1]; decide) (by rw [sw6_1]; decide) (by rw [sw6_1]; rfl) rfl ?_
      refine V_aload_n 69 dX6_count_69 rfl ?_
      refine V_get 70 dX6_count_70 fdX6_16 (by first | exact hM.1.1 | exact hM.1.2.1 | exact hM.1.2.2.1 | exact hM.1.2.2.2.1 | exact hM.1.2.2.2.2.1 | exact hM.1.2.2.2.2.2.1 | exact hM.1.2.2.2.2.2.2.1 | exact hM.1.2.2.2.2.2.2.2.1 | exact hM.1.2.2.2.2.2.2.2.2.1 | exact hM.1.2.2.2.2.2.2.2.2.2.1 | exact hM.1.2.2.2.2.2.2.2.2.2.2) rfl ?_
      refine V_iconstv 73 (0) dX6_count_73 (by decide) ?_
      refine V_ialdk 74 0 rfl dX6_count_74 (by first | exact hM.1.1 | exact hM.1.2.1 | exact hM.1.2.2.1 | exact hM.1.2.2.2.1 | exact hM.1.2.2.2.2.1 | exact hM.1.2.2.2.2.2.1 | exact hM.1.2.2.2.2.2.2.1 | exact hM.1.2.2.2.2.2.2.2.1 | exact hM.1.2.2.2.2.2.2.2.2.1 | exact hM.1.2.2.2.2.2.2.2.2.2.1 | exact hM.1.2.2.2.2.2.2.2.2.2.2) (inb_in (by decide)) ?_
      refine V_iret 75 dX6_count_75 ?_
      exact pof k (by rw [sw6_1]; exact hR.2.2.1.1)
    by_cases sw6_2 : y = 2
    · refine V_tableIn 6 76 (70) dX6_count_6 (by rw [sw6_2]; decide) (by rw [sw6_2]; decide) (by rw [sw6_2]; rfl) rfl ?_
      refine V_aload_n 76 dX6_count_76 rfl ?_
      refine V_get 77 dX6_count_77 fdX6_16 (by first | exact hM.1.1 | exact hM.1.2.1 | exact hM.1.2.2.1 | exact hM.1.2.2.2.1 | exact hM.1.2.2.2.2.1 | exact hM.1.2.2.2.2.2.1 | exact hM.1.2.2.2.2.2.2.1 | exact hM.1.2.2.2.2.2.2.2.1 | exact hM.1.2.2.2.2.2.2.2.2.1 | exact hM.1.2.2.2.2.2.2.2.2.2.1 | exact hM.1.2.2.2.2.2.2.2.2.2.2) rfl ?_
      refine V_iconstv 80 (2) dX6_count_80 (by decide) ?_
      refine V_ialdk 81 2 rfl dX6_count_81 (by first | exact hM.1.1 | exact hM.1.2.1 | exact hM.1.2.2.1 | exact hM.1.2.2.2.1 | exact hM.1.2.2.2.2.1 | exact hM.1.2.2.2.2.2.1 | exact hM.1.2.2.2.2.2.2.1 | exact hM.1.2.2.2.2.2.2.2.1 | exact hM.1.2.2.2.2.2.2.2.2.1 | exact hM.1.2.2.2.2.2.2.2.2.2.1 | exact hM.1.2.2.2.2.2.2.2.2.2.2) (inb_in (by decide)) ?_
      refine V_iret 82 dX6_count_82 ?_
      exact pof k (by rw [sw6_2]; exact hR.2.2.1.2.2.1)
    by_cases sw6_3 : y = 3
    · refine V_tableIn 6 83 (77) dX6_count_6 (by rw [sw6_3]; decide) (by rw [sw6_3]; decide) (by rw [sw6_3]; rfl) rfl ?_
      refine V_iload_n 83 dX6_count_83 rfl ?_
      refine V_if_eq 84 98 dX6_count_84 rfl (fun _ => ?_) (fun q => absurd q (by decide))
      refine V_iconstv 98 (0) dX6_count_98 (by decide) ?_
      refine V_iret 99 dX6_count_99 ?_
      first
      | exact pof k (by rw [sw6_3]; show _ = insN Q E _; unfold insN; rw [if_neg c_1]; rfl)
      | exact pof k (by rw [sw6_3]; show _ = insN Q E _; unfold insN; rw [if_pos c_1]; rfl)
      | exact pof k (by rw [sw6_4]; show _ = insN Q E _; unfold insN; rw [if_neg c_1]; rfl)
      | exact pof k (by rw [sw6_4]; show _ = insN Q E _; unfold insN; rw [if_pos c_1]; rfl)
      | exact pof k (by rw [sw6_5]; show _ = insN Q E _; unfold insN; rw [if_neg c_1]; rfl)
      | exact pof k (by rw [sw6_5]; show _ = insN Q E _; unfold insN; rw [if_pos c_1]; rfl)
      | exact pof k (by rw [sw6_6]; show _ = insN Q E _; unfold insN; rw [if_neg c_1]; rfl)
      | exact pof k (by rw [sw6_6]; show _ = insN Q E _; unfold insN; rw [if_pos c_1]; rfl)
      | exact pof k (by rw [sw6_7]; show _ = insN Q E _; unfold insN; rw [if_neg c_1]; rfl)
      | exact pof k (by rw [sw6_7]; show _ = insN Q E _; unfold insN; rw [if_pos c_1]; rfl)
    by_cases sw6_4 : y = 4
    · refine V_tableIn 6 83 (77) dX6_count_6 (by rw [sw6_4]; decide) (by rw [sw6_4]; decide) (by rw [sw6_4]; rfl) rfl ?_
      refine V_iload_n 83 dX6_count_83 rfl ?_
      refine V_if_eq 84 98 dX6_count_84 rfl (fun _ => ?_) (fun q => absurd q (by decide))
      refine V_iconstv 98 (0) dX6_count_98 (by decide) ?_
      refine V_iret 99 dX6_count_99 ?_
      first
      | exact pof k (by rw [sw6_3]; show _ = insN Q E _; unfold insN; rw [if_neg c_1]; rfl)
      | exact pof k (by rw [sw6_3]; show _ = insN Q E _; unfold insN; rw [if_pos c_1]; rfl)
      | exact pof k (by rw [sw6_4]; show _ = insN Q E _; unfold insN; rw [if_neg c_1]; rfl)
      | exact pof k (by rw [sw6_4]; show _ = insN Q E _; unfold insN; rw [if_pos c_1]; rfl)
      | exact pof k (by rw [sw6_5]; show _ = insN Q E _; unfold insN; rw [if_neg c_1]; rfl)
      | exact pof k (by rw [sw6_5]; show _ = insN Q E _; unfold insN; rw [if_pos c_1]; rfl)
      | exact pof k (by rw [sw6_6]; show _ = insN Q E _; unfold insN; rw [if_neg c_1]; rfl)
      | exact pof k (by rw [sw6_6]; show _ = insN Q E _; unfold insN; rw [if_pos c_1]; rfl)
      | exact pof k (by rw [sw6_7]; show _ = insN Q E _; unfold insN; rw [if_neg c_1]; rfl)
      | exact pof k (by rw [sw6_7]; show _ = insN Q E _; unfold insN; rw [if_pos c_1]; rfl)
    by_cases sw6_5 : y = 5
    · refine V_tableIn 6 83 (77) dX6_count_6 (by rw [sw6_5]; decide) (by rw [sw6_5]; decide) (by rw [sw6_5]; rfl) rfl ?_
      refine V_iload_n 83 dX6_count_83 rfl ?_
      refine V_if_eq 84 98 dX6_count_84 rfl (fun _ => ?_) (fun q => absurd q (by decide))
      refine V_iconstv 98 (0) dX6_count_98 (by decide) ?_
      refine V_iret 99 dX6_count_99 ?_
      first
      | exact pof k (by rw [sw6_3]; show _ = insN Q E _; unfold insN; rw [if_neg c_1]; rfl)
      | exact pof k (by rw [sw6_3]; show _ = insN Q E _; unfold insN; rw [if_pos c_1]; rfl)
      | exact pof k (by rw [sw6_4]; show _ = insN Q E _; unfold insN; rw [if_neg c_1]; rfl)
      | exact pof k (by rw [sw6_4]; show _ = insN Q E _; unfold insN; rw [if_pos c_1]; rfl)
      | exact pof k (by rw [sw6_5]; show _ = insN Q E _; unfold insN; rw [if_neg c_1]; rfl)
      | exact pof k (by rw [sw6_5]; show _ = insN Q E _; unfold insN; rw [if_pos c_1]; rfl)
      | exact pof k (by rw [sw6_6]; show _ = insN Q E _; unfold insN; rw [if_neg c_1]; rfl)
      | exact pof k (by rw [sw6_6]; show _ = insN Q E _; unfold insN; rw [if_pos c_1]; rfl)
      | exact pof k (by rw [sw6_7]; show _ = insN Q E _; unfold insN; rw [if_neg c_1]; rfl)
      | exact pof k (by rw [sw6_7]; show _ = insN Q E _; unfold insN; rw [if_pos c_1]; rfl)
    by_cases sw6_6 : y = 6
    · refine V_tableIn 6 83 (77) dX6_count_6 (by rw [sw6_6]; decide) (by rw [sw6_6]; decide) (by rw [sw6_6]; rfl) rfl ?_
      refine V_iload_n 83 dX6_count_83 rfl ?_
      refine V_if_eq 84 98 dX6_count_84 rfl (fun _ => ?_) (fun q => absurd q (by decide))
      refine V_iconstv 98 (0) dX6_count_98 (by decide) ?_
      refine V_iret 99 dX6_count_99 ?_
      first
      | exact pof k (by rw [sw6_3]; show _ = insN Q E _; unfold insN; rw [if_neg c_1]; rfl)
      | exact pof k (by rw [sw6_3]; show _ = insN Q E _; unfold insN; rw [if_pos c_1]; rfl)
      | exact pof k (by rw [sw6_4]; show _ = insN Q E _; unfold insN; rw [if_neg c_1]; rfl)
      | exact pof k (by rw [sw6_4]; show _ = insN Q E _; unfold insN; rw [if_pos c_1]; rfl)
      | exact pof k (by rw [sw6_5]; show _ = insN Q E _; unfold insN; rw [if_neg c_1]; rfl)
      | exact pof k (by rw [sw6_5]; show _ = insN Q E _; unfold insN; rw [if_pos c_1]; rfl)
      | exact pof k (by rw [sw6_6]; show _ = insN Q E _; unfold insN; rw [if_neg c_1]; rfl)
      | exact pof k (by rw [sw6_6]; show _ = insN Q E _; unfold insN; rw [if_pos c_1]; rfl)
      | exact pof k (by rw [sw6_7]; show _ = insN Q E _; unfold insN; rw [if_neg c_1]; rfl)
      | exact pof k (by rw [sw6_7]; show _ = insN Q E _; unfold insN; rw [if_pos c_1]; rfl)
    by_cases sw6_7 : y = 7
    · refine V_tableIn 6 83 (77) dX6_count_6 (by rw [sw6_7]; decide) (by rw [sw6_7]; decide) (by rw [sw6_7]; rfl) rfl ?_
      refine V_iload_n 83 dX6_count_83 rfl ?_
      refine V_if_eq 84 98 dX6_count_84 rfl (fun _ => ?_) (fun q => absurd q (by decide))
      refine V_iconstv 98 (0) dX6_count_98 (by decide) ?_
      refine V_iret 99 dX6_count_99 ?_
      first
      | exact pof k (by rw [sw6_3]; show _ = insN Q E _; unfold insN; rw [if_neg c_1]; rfl)
      | exact pof k (by rw [sw6_3]; show _ = insN Q E _; unfold insN; rw [if_pos c_1]; rfl)
      | exact pof k (by rw [sw6_4]; show _ = insN Q E _; unfold insN; rw [if_neg c_1]; rfl)
      | exact pof k (by rw [sw6_4]; show _ = insN Q E _; unfold insN; rw [if_pos c_1]; rfl)
      | exact pof k (by rw [sw6_5]; show _ = insN Q E _; unfold insN; rw [if_neg c_1]; rfl)
      | exact pof k (by rw [sw6_5]; show _ = insN Q E _; unfold insN; rw [if_pos c_1]; rfl)
      | exact pof k (by rw [sw6_6]; show _ = insN Q E _; unfold insN; rw [if_neg c_1]; rfl)
      | exact pof k (by rw [sw6_6]; show _ = insN Q E _; unfold insN; rw [if_pos c_1]; rfl)
      | exact pof k (by rw [sw6_7]; show _ = insN Q E _; unfold insN; rw [if_neg c_1]; rfl)
      | exact pof k (by rw [sw6_7]; show _ = insN Q E _; unfold insN; rw [if_pos c_1]; rfl)
    by_cases sw6_8 : y = 8
    · refine V_tableIn 6 100 (94) dX6_count_6 (by rw [sw6_8]; decide) (by rw [sw6_8]; decide) (by rw [sw6_8]; rfl) rfl ?_
      refine V_iload_n 100 dX6_count_100 rfl ?_
      refine V_if_eq 101 112 dX6_count_101 rfl (fun _ => ?_) (fun q => absurd q (by decide))
      refine V_iconstv 112 (-1) dX6_count_112 (by decide) ?_
      refine V_iret 113 dX6_count_113 ?_
      first | exact pof k (by rw [sw6_8]; rfl) | exact pof k (by rw [sw6_8]; exact (hR.hd0 c_1).symm)
    by_cases sw6_9 : y = 9
    · refine V_tableIn 6 114 (108) dX6_count_6 (by rw [sw6_9]; decide) (by rw [sw6_9]; decide) (by rw [sw6_9]; rfl) rfl ?_
      refine V_aload_n 114 dX6_count_114 rfl ?_
      refine V_get 115 dX6_count_115 fdX6_153 (by first | exact hM.1.1 | exact hM.1.2.1 | exact hM.1.2.2.1 | exact hM.1.2.2.2.1 | exact hM.1.2.2.2.2.1 | exact hM.1.2.2.2.2.2.1 | exact hM.1.2.2.2.2.2.2.1 | exact hM.1.2.2.2.2.2.2.2.1 | exact hM.1.2.2.2.2.2.2.2.2.1 | exact hM.1.2.2.2.2.2.2.2.2.2.1 | exact hM.1.2.2.2.2.2.2.2.2.2.2) rfl ?_
      refine V_iret 118 dX6_count_118 ?_
      exact pof k (by rw [sw6_9]; exact hR.2.2.2.1)
    by_cases sw6_10 : y = 10
    · refine V_tableIn 6 119 (113) dX6_count_6 (by rw [sw6_10]; decide) (by rw [sw6_10]; decide) (by rw [sw6_10]; rfl) rfl ?_
      refine V_aload_n 119 dX6_count_119 rfl ?_
      refine V_get 120 dX6_count_120 fdX6_162 (by first | exact hM.1.1 | exact hM.1.2.1 | exact hM.1.2.2.1 | exact hM.1.2.2.2.1 | exact hM.1.2.2.2.2.1 | exact hM.1.2.2.2.2.2.1 | exact hM.1.2.2.2.2.2.2.1 | exact hM.1.2.2.2.2.2.2.2.1 | exact hM.1.2.2.2.2.2.2.2.2.1 | exact hM.1.2.2.2.2.2.2.2.2.2.1 | exact hM.1.2.2.2.2.2.2.2.2.2.2) rfl ?_
      refine V_iret 123 dX6_count_123 ?_
      exact pof k (by rw [sw6_10]; exact hR.1.1)
    have tq0 : ¬ y.toInt = 0 := fun q => sw6_0 (Int32.toInt_inj.mp q)
    have tq1 : ¬ y.toInt = 1 := fun q => sw6_1 (Int32.toInt_inj.mp q)
    have tq2 : ¬ y.toInt = 2 := fun q => sw6_2 (Int32.toInt_inj.mp q)
    have tq3 : ¬ y.toInt = 3 := fun q => sw6_3 (Int32.toInt_inj.mp q)
    have tq4 : ¬ y.toInt = 4 := fun q => sw6_4 (Int32.toInt_inj.mp q)
    have tq5 : ¬ y.toInt = 5 := fun q => sw6_5 (Int32.toInt_inj.mp q)
    have tq6 : ¬ y.toInt = 6 := fun q => sw6_6 (Int32.toInt_inj.mp q)
    have tq7 : ¬ y.toInt = 7 := fun q => sw6_7 (Int32.toInt_inj.mp q)
    have tq8 : ¬ y.toInt = 8 := fun q => sw6_8 (Int32.toInt_inj.mp q)
    have tq9 : ¬ y.toInt = 9 := fun q => sw6_9 (Int32.toInt_inj.mp q)
    have tq10 : ¬ y.toInt = 10 := fun q => sw6_10 (Int32.toInt_inj.mp q)
    refine V_tableOut 6 124 dX6_count_6 (by omega) rfl ?_
    refine V_ldc 124 dX6_count_124 knX6_161 ?_
    refine V_iret 126 dX6_count_126 ?_
    exact pof k (by unfold cntR; rw [if_neg sw6_0, if_neg sw6_1, if_neg sw6_2, if_neg sw6_3, if_neg sw6_4, if_neg sw6_5, if_neg sw6_6, if_neg sw6_7, if_neg sw6_8, if_neg sw6_9, if_neg sw6_10])
set_option maxHeartbeats 1000000 in
set_option maxRecDepth 100000 in
theorem c_X6_run (hM : WM G h0 h m M) (hR : REL B X Q E nx hs K M) (hB : B < 2 ^ 28) {a b c : Int32} (k0 : ¬ (okOrd a b ∧ (0 ≤ c ∧ c ≤ 200)) → Post (some (.int (-1000002))) h sz) (k2 : (okOrd a b ∧ (0 ≤ c ∧ c ≤ 200)) → eW E = 0 → Post (some (.int (-1000003))) h sz) (k3 : (okOrd a b ∧ (0 ≤ c ∧ c ≤ 200)) → ¬ eW E = 0 → (c = 0 ∨ eN E = 0) → ∀ h1 M1, WM G h0 h1 m M1 → REL B X Q E nx hs K M1 → Post (some (.int 0)) h1 sz) (k1 : (okOrd a b ∧ (0 ≤ c ∧ c ≤ 200)) → ¬ eW E = 0 → ¬ eN E = 0 → ∀ N, c = nI N → 1 ≤ N → N ≤ 200 → ∀ f : Nat → Int32, ∀ h1 M1, WM G h0 h1 m M1 → REL (B + 300) X Q (dmE Q a N 0 b E).2 (kpN nx) (kpS hs) (va_up K nx (eH' E f)) M1 → Post (some (.int (nI (dmE Q a N 0 b E).1))) h1 sz) : Cn l G yX6_run cX6_run 5 (some .int) 8 0 0 [.ref m, .int a, .int b, .int c] h sz Post := by
  refine Cn.of RX6 false (by decide) rfl (fun q => by cases q) (Nat.le_of_ble_eq_true rfl) ?_
  have hn := hR.2.1.2.1
  have h20 := hR.2.2.2.2.1
  refine V_iload_n 0 dX6_run_0 rfl ?_
  refine V_iload_n 1 dX6_run_1 rfl ?_
  refine V_is2 2 dX6_run_2 ksX6_231 rfl rfl (c_X6_isOrder (fun c_2 => ?_) (fun c_2 => ?_))
  · refine V_if_eq 5 20 dX6_run_5 rfl (fun q => absurd q (by decide)) (fun _ => ?_)
    refine V_iload_n 8 dX6_run_8 rfl ?_
    refine V_i2l 9 dX6_run_9 ?_
    refine V_lconstv 10 0 dX6_run_10 (by decide) ?_
    refine V_ldc2 11 dX6_run_11 knX6_234 ?_
    refine V_is3 14 dX6_run_14 ksX6_45 rfl rfl (c_X6_inI (lo := 0) (hi := 200) rfl rfl (fun c_14 => ?_) (fun c_14 => ?_))
    · refine V_if_ne 17 23 dX6_run_17 rfl (fun _ => ?_) (fun q => absurd q (by decide))
      refine V_aload_n 23 dX6_run_23 rfl ?_
      refine V_iv0 24 dX6_run_24 kvX6_216 rfl (by first | exact hM.1.1 | exact hM.1.2.1 | exact hM.1.2.2.1 | exact hM.1.2.2.2.1 | exact hM.1.2.2.2.2.1 | exact hM.1.2.2.2.2.2.1 | exact hM.1.2.2.2.2.2.2.1 | exact hM.1.2.2.2.2.2.2.2.1 | exact hM.1.2.2.2.2.2.2.2.2.1 | exact hM.1.2.2.2.2.2.2.2.2.2.1 | exact hM.1.2.2.2.2.2.2.2.2.2.2 | exact hX.1.1.1 | exact hX.1.1.2.1 | exact hX.1.1.2.2.1 | exact hX.1.1.2.2.2.1 | exact hX.1.1.2.2.2.2.1 | exact hX.1.1.2.2.2.2.2.1 | exact hX.1.1.2.2.2.2.2.2.1 | exact hX.1.1.2.2.2.2.2.2.2.1 | exact hX.1.1.2.2.2.2.2.2.2.2.1 | exact hX.1.1.2.2.2.2.2.2.2.2.2.1 | exact hX.1.1.2.2.2.2.2.2.2.2.2.2) rfl rfl (c_X6_isBegunR hM hR (fun c_24 => ?_) (fun c_24 => ?_))
      · refine V_if_ne 27 33 dX6_run_27 rfl (fun _ => ?_) (fun q => absurd q (by decide))
        refine V_aload_n 33 dX6_run_33 rfl ?_
        refine V_iconstv 34 (0) dX6_run_34 (by decide) ?_
        refine V_bipushv 35 (21) dX6_run_35 (by decide) ?_
        refine V_iv2 37 dX6_run_37 kvX6_156 rfl (by first | exact hM.1.1 | exact hM.1.2.1 | exact hM.1.2.2.1 | exact hM.1.2.2.2.1 | exact hM.1.2.2.2.2.1 | exact hM.1.2.2.2.2.2.1 | exact hM.1.2.2.2.2.2.2.1 | exact hM.1.2.2.2.2.2.2.2.1 | exact hM.1.2.2.2.2.2.2.2.2.1 | exact hM.1.2.2.2.2.2.2.2.2.2.1 | exact hM.1.2.2.2.2.2.2.2.2.2.2 | exact hX.1.1.1 | exact hX.1.1.2.1 | exact hX.1.1.2.2.1 | exact hX.1.1.2.2.2.1 | exact hX.1.1.2.2.2.2.1 | exact hX.1.1.2.2.2.2.2.1 | exact hX.1.1.2.2.2.2.2.2.1 | exact hX.1.1.2.2.2.2.2.2.2.1 | exact hX.1.1.2.2.2.2.2.2.2.2.1 | exact hX.1.1.2.2.2.2.2.2.2.2.2.1 | exact hX.1.1.2.2.2.2.2.2.2.2.2.2) rfl rfl (c_X6_copies hM 0 21 (by omega) (by omega) (by omega) (fun h hM => ?_))
        have hI := (hR.bg.2 c_24).1
        obtain ⟨ho, s, s1, rfl⟩ := ord_of c_2
        obtain ⟨N, N1, rfl⟩ := nI_of2 (x := c) (M := 200) (n := 200) rfl (Int32.not_lt.mpr c_14.1) c_14.2
        have hX : WX G h0 h m _ _ 21 E Q := ⟨hM, MF.rf, hR.2.1.1, fun i hi => (hR.2.1.2.2.2 i hi).1, hR.2.2.1.cp hn, by omega, hn⟩
        have hR1 := hR.far (r := 21) (by omega) (MF.cp (a := 0))
        obtain ⟨b1, q1, q2, q3⟩ := dm_J (Inv.JC (Q := Q)) hn a N B 0 s E (by omega) (by omega) hI
        refine V_aload_n 40 dX6_run_40 rfl ?_
        refine V_bipushv 41 (21) dX6_run_41 (by decide) ?_
        refine V_iload_n 43 dX6_run_43 rfl ?_
        refine V_iload_n 44 dX6_run_44 rfl ?_
        refine V_iload_n 45 dX6_run_45 rfl ?_
        refine V_iv4 46 dX6_run_46 kvX6_236 rfl (by first | exact hM.1.1 | exact hM.1.2.1 | exact hM.1.2.2.1 | exact hM.1.2.2.2.1 | exact hM.1.2.2.2.2.1 | exact hM.1.2.2.2.2.2.1 | exact hM.1.2.2.2.2.2.2.1 | exact hM.1.2.2.2.2.2.2.2.1 | exact hM.1.2.2.2.2.2.2.2.2.1 | exact hM.1.2.2.2.2.2.2.2.2.2.1 | exact hM.1.2.2.2.2.2.2.2.2.2.2 | exact hX.1.1.1 | exact hX.1.1.2.1 | exact hX.1.1.2.2.1 | exact hX.1.1.2.2.2.1 | exact hX.1.1.2.2.2.2.1 | exact hX.1.1.2.2.2.2.2.1 | exact hX.1.1.2.2.2.2.2.2.1 | exact hX.1.1.2.2.2.2.2.2.2.1 | exact hX.1.1.2.2.2.2.2.2.2.2.1 | exact hX.1.1.2.2.2.2.2.2.2.2.2.1 | exact hX.1.1.2.2.2.2.2.2.2.2.2.2) rfl rfl (c_X6_runs hX (Inv.JC (Q := Q)) ho N B s (by omega) (by omega) hI (by omega) (fun h M1 y1 hX => ?_))
        have hR2 := (hR1.y y1).far (by omega) hX.2.1
        refine V_istore 49 dX6_run_49 rfl rfl ?_
        refine V_iload 51 dX6_run_51 rfl ?_
        refine V_if_le 53 67 dX6_run_53 rfl (fun c_53 => ?_) (fun c_53 => ?_)
        · have d0 : (dmE Q a N 0 (nI s) E).1 = 0 := Nat.eq_zero_of_not_pos (fun q => nI_nle q (by omega) c_53)
          have dn := dm_z d0
          rw [d0]
          refine V_iload 67 dX6_run_67 rfl ?_
          refine V_iret 69 dX6_run_69 ?_
          first
          | exact k3 ⟨c_2, c_14⟩ c_24 (dn.elim (fun q => Or.inl (by rw [q]; rfl)) Or.inr) h _ hX.1 hR2
          | exact k1 ⟨c_2, c_14⟩ c_24 dn.2 N rfl dn.1 N1 (fun _ => 0) h _ hM ((hR2.keep hN c_24).seg0 MF.cp (RowE.cp (hX.2.2.2.2.1.tr hn (fun t ht => hN.2.2.2.2.2.1 _ (Or.inr (by omega)))) hn) (PI.mono (by omega) (Nat.le_refl _) q2) (by omega) c_24)
        · have d0 : ¬ (dmE Q a N 0 (nI s) E).1 = 0 := fun q => c_53 (by rw [q]; decide)
          have dn := dm_0 d0
          refine V_aload_n 56 dX6_run_56 rfl ?_
          refine V_iv0 57 dX6_run_57 kvX6_220 rfl (by first | exact hM.1.1 | exact hM.1.2.1 | exact hM.1.2.2.1 | exact hM.1.2.2.2.1 | exact hM.1.2.2.2.2.1 | exact hM.1.2.2.2.2.2.1 | exact hM.1.2.2.2.2.2.2.1 | exact hM.1.2.2.2.2.2.2.2.1 | exact hM.1.2.2.2.2.2.2.2.2.1 | exact hM.1.2.2.2.2.2.2.2.2.2.1 | exact hM.1.2.2.2.2.2.2.2.2.2.2 | exact hX.1.1.1 | exact hX.1.1.2.1 | exact hX.1.1.2.2.1 | exact hX.1.1.2.2.2.1 | exact hX.1.1.2.2.2.2.1 | exact hX.1.1.2.2.2.2.2.1 | exact hX.1.1.2.2.2.2.2.2.1 | exact hX.1.1.2.2.2.2.2.2.2.1 | exact hX.1.1.2.2.2.2.2.2.2.2.1 | exact hX.1.1.2.2.2.2.2.2.2.2.2.1 | exact hX.1.1.2.2.2.2.2.2.2.2.2.2) rfl rfl (c_X6_notes hX.1 hs h20 hR2.2.2.2.1 (fun h M2 hM hN => ?_))
          refine V_aload_n 60 dX6_run_60 rfl ?_
          refine V_bipushv 61 (21) dX6_run_61 (by decide) ?_
          refine V_iconstv 63 (0) dX6_run_63 (by decide) ?_
          refine V_iv2 64 dX6_run_64 kvX6_156 rfl (by first | exact hM.1.1 | exact hM.1.2.1 | exact hM.1.2.2.1 | exact hM.1.2.2.2.1 | exact hM.1.2.2.2.2.1 | exact hM.1.2.2.2.2.2.1 | exact hM.1.2.2.2.2.2.2.1 | exact hM.1.2.2.2.2.2.2.2.1 | exact hM.1.2.2.2.2.2.2.2.2.1 | exact hM.1.2.2.2.2.2.2.2.2.2.1 | exact hM.1.2.2.2.2.2.2.2.2.2.2 | exact hX.1.1.1 | exact hX.1.1.2.1 | exact hX.1.1.2.2.1 | exact hX.1.1.2.2.2.1 | exact hX.1.1.2.2.2.2.1 | exact hX.1.1.2.2.2.2.2.1 | exact hX.1.1.2.2.2.2.2.2.1 | exact hX.1.1.2.2.2.2.2.2.2.1 | exact hX.1.1.2.2.2.2.2.2.2.2.1 | exact hX.1.1.2.2.2.2.2.2.2.2.2.1 | exact hX.1.1.2.2.2.2.2.2.2.2.2.2) rfl rfl (c_X6_copies hM 21 0 (by omega) (by omega) (by omega) (fun h hM => ?_))
          refine V_iload 67 dX6_run_67 rfl ?_
          refine V_iret 69 dX6_run_69 ?_
          first
          | exact k3 ⟨c_2, c_14⟩ c_24 (dn.elim (fun q => Or.inl (by rw [q]; rfl)) Or.inr) h _ hX.1 hR2
          | exact k1 ⟨c_2, c_14⟩ c_24 dn.2 N rfl dn.1 N1 (fun _ => 0) h _ hM ((hR2.keep hN c_24).seg0 MF.cp (RowE.cp (hX.2.2.2.2.1.tr hn (fun t ht => hN.2.2.2.2.2.1 _ (Or.inr (by omega)))) hn) (PI.mono (by omega) (Nat.le_refl _) q2) (by omega) c_24)
      · refine V_if_ne 27 33 dX6_run_27 rfl (fun q => absurd q (by decide)) (fun _ => ?_)
        refine V_ldc 30 dX6_run_30 knX6_211 ?_
        refine V_iret 32 dX6_run_32 ?_
        exact k2 ⟨c_2, c_14⟩ c_24
    · refine V_if_ne 17 23 dX6_run_17 rfl (fun q => absurd q (by decide)) (fun _ => ?_)
      refine V_ldc 20 dX6_run_20 knX6_161 ?_
      refine V_iret 22 dX6_run_22 ?_
      first | exact k0 (fun q => c_2 q.1) | exact k0 (fun q => c_14 q.2)
  · refine V_if_eq 5 20 dX6_run_5 rfl (fun _ => ?_) (fun q => absurd q (by decide))
    refine V_ldc 20 dX6_run_20 knX6_161 ?_
    refine V_iret 22 dX6_run_22 ?_
    first | exact k0 (fun q => c_2 q.1) | exact k0 (fun q => c_14 q.2)
set_option maxHeartbeats 1000000 in
set_option maxRecDepth 100000 in
theorem c_X6_would (hM : WM G h0 h m M) (hR : REL B X Q E nx hs K M) (hB : B < 2 ^ 28) {a b y : Int32} (f : Nat → Int32) (k0 : ¬ (okOrd a b ∧ (0 ≤ y ∧ y ≤ 4)) → Post (some (.int (-1000002))) h sz) (k2 : (okOrd a b ∧ (0 ≤ y ∧ y ≤ 4)) → eW E = 0 → Post (some (.int (-1000003))) h sz) (k1 : (okOrd a b ∧ (0 ≤ y ∧ y ≤ 4)) → ¬ eW E = 0 → ∀ h1 M1, WM G h0 h1 m M1 → REL B X Q E nx hs K M1 → Post (some (.int (wldR Q E (dmE Q a 300 0 b (eH' E f)).2 (dmE Q a 300 0 b (eH' E f)).1 y))) h1 sz) : Cn l G yX6_would cX6_would 5 (some .int) 8 0 0 [.ref m, .int a, .int b, .int y] h sz Post := by
  refine Cn.of RX6 false (by decide) rfl (fun q => by cases q) (Nat.le_of_ble_eq_true rfl) ?_
  have hn := hR.2.1.2.1
  refine V_iload_n 0 dX6_would_0 rfl ?_
  refine V_iload_n 1 dX6_would_1 rfl ?_
  refine V_is2 2 dX6_would_2 ksX6_231 rfl rfl (c_X6_isOrder (fun c_2 => ?_) (fun c_2 => ?_))
  · refine V_if_eq 5 20 dX6_would_5 rfl (fun q => absurd q (by decide)) (fun _ => ?_)
    refine V_iload_n 8 dX6_would_8 rfl ?_
    refine V_i2l 9 dX6_would_9 ?_
    refine V_lconstv 10 0 dX6_would_10 (by decide) ?_
    refine V_ldc2 11 dX6_would_11 knX6_205 ?_
    refine V_is3 14 dX6_would_14 ksX6_45 rfl rfl (c_X6_inI (lo := 0) (hi := 4) rfl rfl (fun c_14 => ?_) (fun c_14 => ?_))
    · refine V_if_ne 17 23 dX6_would_17 rfl (fun _ => ?_) (fun q => absurd q (by decide))
      refine V_aload_n 23 dX6_would_23 rfl ?_
      refine V_iv0 24 dX6_would_24 kvX6_216 rfl (by first | exact hM.1.1 | exact hM.1.2.1 | exact hM.1.2.2.1 | exact hM.1.2.2.2.1 | exact hM.1.2.2.2.2.1 | exact hM.1.2.2.2.2.2.1 | exact hM.1.2.2.2.2.2.2.1 | exact hM.1.2.2.2.2.2.2.2.1 | exact hM.1.2.2.2.2.2.2.2.2.1 | exact hM.1.2.2.2.2.2.2.2.2.2.1 | exact hM.1.2.2.2.2.2.2.2.2.2.2 | exact hX.1.1.1 | exact hX.1.1.2.1 | exact hX.1.1.2.2.1 | exact hX.1.1.2.2.2.1 | exact hX.1.1.2.2.2.2.1 | exact hX.1.1.2.2.2.2.2.1 | exact hX.1.1.2.2.2.2.2.2.1 | exact hX.1.1.2.2.2.2.2.2.2.1 | exact hX.1.1.2.2.2.2.2.2.2.2.1 | exact hX.1.1.2.2.2.2.2.2.2.2.2.1 | exact hX.1.1.2.2.2.2.2.2.2.2.2.2) rfl rfl (c_X6_isBegunR hM hR (fun c_24 => ?_) (fun c_24 => ?_))
      · refine V_if_ne 27 33 dX6_would_27 rfl (fun _ => ?_) (fun q => absurd q (by decide))
        refine V_aload_n 33 dX6_would_33 rfl ?_
        refine V_iconstv 34 (0) dX6_would_34 (by decide) ?_
        refine V_bipushv 35 (21) dX6_would_35 (by decide) ?_
        refine V_iv2 37 dX6_would_37 kvX6_156 rfl (by first | exact hM.1.1 | exact hM.1.2.1 | exact hM.1.2.2.1 | exact hM.1.2.2.2.1 | exact hM.1.2.2.2.2.1 | exact hM.1.2.2.2.2.2.1 | exact hM.1.2.2.2.2.2.2.1 | exact hM.1.2.2.2.2.2.2.2.1 | exact hM.1.2.2.2.2.2.2.2.2.1 | exact hM.1.2.2.2.2.2.2.2.2.2.1 | exact hM.1.2.2.2.2.2.2.2.2.2.2 | exact hX.1.1.1 | exact hX.1.1.2.1 | exact hX.1.1.2.2.1 | exact hX.1.1.2.2.2.1 | exact hX.1.1.2.2.2.2.1 | exact hX.1.1.2.2.2.2.2.1 | exact hX.1.1.2.2.2.2.2.2.1 | exact hX.1.1.2.2.2.2.2.2.2.1 | exact hX.1.1.2.2.2.2.2.2.2.2.1 | exact hX.1.1.2.2.2.2.2.2.2.2.2.1 | exact hX.1.1.2.2.2.2.2.2.2.2.2.2) rfl rfl (c_X6_copies hM 0 21 (by omega) (by omega) (by omega) (fun h hM => ?_))
        have hI : Inv Q B (eH' E f) := (hR.bg.2 c_24).1
        obtain ⟨ho, s, s1, rfl⟩ := ord_of c_2
        have hX : WX G h0 h m _ _ 21 (eH' E f) Q := ⟨hM, MF.rf, hR.2.1.1, fun i hi => (hR.2.1.2.2.2 i hi).1, RowE.cp (r := 21) (E := eH' E f) hR.2.2.1 hn, by omega, hn⟩
        have hR1 := hR.far (r := 21) (by omega) (MF.cp (a := 0))
        have eb : ¬ eW (dmE Q a 300 0 (nI s) (eH' E f)).2 = 0 := (dm_J (Inv.JC (Q := Q)) hn a 300 B 0 s (eH' E f) (by omega) (by omega) hI).elim (fun b1 q => q.2.1.nz)
        refine V_aload_n 40 dX6_would_40 rfl ?_
        refine V_bipushv 41 (21) dX6_would_41 (by decide) ?_
        refine V_iload_n 43 dX6_would_43 rfl ?_
        refine V_iload_n 44 dX6_would_44 rfl ?_
        refine V_sipushv 45 (300) dX6_would_45 (by decide) ?_
        refine V_iv4 48 dX6_would_48 kvX6_236 rfl (by first | exact hM.1.1 | exact hM.1.2.1 | exact hM.1.2.2.1 | exact hM.1.2.2.2.1 | exact hM.1.2.2.2.2.1 | exact hM.1.2.2.2.2.2.1 | exact hM.1.2.2.2.2.2.2.1 | exact hM.1.2.2.2.2.2.2.2.1 | exact hM.1.2.2.2.2.2.2.2.2.1 | exact hM.1.2.2.2.2.2.2.2.2.2.1 | exact hM.1.2.2.2.2.2.2.2.2.2.2 | exact hX.1.1.1 | exact hX.1.1.2.1 | exact hX.1.1.2.2.1 | exact hX.1.1.2.2.2.1 | exact hX.1.1.2.2.2.2.1 | exact hX.1.1.2.2.2.2.2.1 | exact hX.1.1.2.2.2.2.2.2.1 | exact hX.1.1.2.2.2.2.2.2.2.1 | exact hX.1.1.2.2.2.2.2.2.2.2.1 | exact hX.1.1.2.2.2.2.2.2.2.2.2.1 | exact hX.1.1.2.2.2.2.2.2.2.2.2.2) rfl rfl (c_X6_runs hX (Inv.JC (Q := Q)) ho 300 B s (by omega) (by omega) hI (by omega) (fun h M1 y1 hX => ?_))
        have hR2 := (hR1.y y1).far (by omega) hX.2.1
        have KK := k1 ⟨c_2, c_14⟩ c_24 h _ hX.1 hR2
        clear k1
        generalize dmE Q a 300 0 (nI s) (eH' E f) = D at hX KK eb
        refine V_istore 51 dX6_would_51 rfl rfl ?_
        refine V_iload_n 53 dX6_would_53 rfl ?_
        by_cases sw54_0 : y = 0
        · refine V_tableIn 54 84 (30) dX6_would_54 (by rw [sw54_0]; decide) (by rw [sw54_0]; decide) (by rw [sw54_0]; rfl) rfl ?_
          refine V_iload 84 dX6_would_84 rfl ?_
          refine V_iret 86 dX6_would_86 ?_
          exact pof KK (by rw [sw54_0]; rfl)
        by_cases sw54_1 : y = 1
        · refine V_tableIn 54 87 (33) dX6_would_54 (by rw [sw54_1]; decide) (by rw [sw54_1]; decide) (by rw [sw54_1]; rfl) rfl ?_
          refine V_aload_n 87 dX6_would_87 rfl ?_
          refine V_get 88 dX6_would_88 fdX6_16 (by first | exact hM.1.1 | exact hM.1.2.1 | exact hM.1.2.2.1 | exact hM.1.2.2.2.1 | exact hM.1.2.2.2.2.1 | exact hM.1.2.2.2.2.2.1 | exact hM.1.2.2.2.2.2.2.1 | exact hM.1.2.2.2.2.2.2.2.1 | exact hM.1.2.2.2.2.2.2.2.2.1 | exact hM.1.2.2.2.2.2.2.2.2.2.1 | exact hM.1.2.2.2.2.2.2.2.2.2.2 | exact hX.1.1.1 | exact hX.1.1.2.1 | exact hX.1.1.2.2.1 | exact hX.1.1.2.2.2.1 | exact hX.1.1.2.2.2.2.1 | exact hX.1.1.2.2.2.2.2.1 | exact hX.1.1.2.2.2.2.2.2.1 | exact hX.1.1.2.2.2.2.2.2.2.1 | exact hX.1.1.2.2.2.2.2.2.2.2.1 | exact hX.1.1.2.2.2.2.2.2.2.2.2.1 | exact hX.1.1.2.2.2.2.2.2.2.2.2.2) rfl ?_
          refine V_sipushv 91 (3531) dX6_would_91 (by decide) ?_
          refine V_ialdk 94 3531 rfl dX6_would_94 (by first | exact hM.1.1 | exact hM.1.2.1 | exact hM.1.2.2.1 | exact hM.1.2.2.2.1 | exact hM.1.2.2.2.2.1 | exact hM.1.2.2.2.2.2.1 | exact hM.1.2.2.2.2.2.2.1 | exact hM.1.2.2.2.2.2.2.2.1 | exact hM.1.2.2.2.2.2.2.2.2.1 | exact hM.1.2.2.2.2.2.2.2.2.2.1 | exact hM.1.2.2.2.2.2.2.2.2.2.2 | exact hX.1.1.1 | exact hX.1.1.2.1 | exact hX.1.1.2.2.1 | exact hX.1.1.2.2.2.1 | exact hX.1.1.2.2.2.2.1 | exact hX.1.1.2.2.2.2.2.1 | exact hX.1.1.2.2.2.2.2.2.1 | exact hX.1.1.2.2.2.2.2.2.2.1 | exact hX.1.1.2.2.2.2.2.2.2.2.1 | exact hX.1.1.2.2.2.2.2.2.2.2.2.1 | exact hX.1.1.2.2.2.2.2.2.2.2.2.2) (inb_in (by decide)) ?_
          refine V_aload_n 95 dX6_would_95 rfl ?_
          refine V_get 96 dX6_would_96 fdX6_16 (by first | exact hM.1.1 | exact hM.1.2.1 | exact hM.1.2.2.1 | exact hM.1.2.2.2.1 | exact hM.1.2.2.2.2.1 | exact hM.1.2.2.2.2.2.1 | exact hM.1.2.2.2.2.2.2.1 | exact hM.1.2.2.2.2.2.2.2.1 | exact hM.1.2.2.2.2.2.2.2.2.1 | exact hM.1.2.2.2.2.2.2.2.2.2.1 | exact hM.1.2.2.2.2.2.2.2.2.2.2 | exact hX.1.1.1 | exact hX.1.1.2.1 | exact hX.1.1.2.2.1 | exact hX.1.1.2.2.2.1 | exact hX.1.1.2.2.2.2.1 | exact hX.1.1.2.2.2.2.2.1 | exact hX.1.1.2.2.2.2.2.2.1 | exact hX.1.1.2.2.2.2.2.2.2.1 | exact hX.1.1.2.2.2.2.2.2.2.2.1 | exact hX.1.1.2.2.2.2.2.2.2.2.2.1 | exact hX.1.1.2.2.2.2.2.2.2.2.2.2) rfl ?_
          refine V_iconstv 99 (3) dX6_would_99 (by decide) ?_
          refine V_ialdk 100 3 rfl dX6_would_100 (by first | exact hM.1.1 | exact hM.1.2.1 | exact hM.1.2.2.1 | exact hM.1.2.2.2.1 | exact hM.1.2.2.2.2.1 | exact hM.1.2.2.2.2.2.1 | exact hM.1.2.2.2.2.2.2.1 | exact hM.1.2.2.2.2.2.2.2.1 | exact hM.1.2.2.2.2.2.2.2.2.1 | exact hM.1.2.2.2.2.2.2.2.2.2.1 | exact hM.1.2.2.2.2.2.2.2.2.2.2 | exact hX.1.1.1 | exact hX.1.1.2.1 | exact hX.1.1.2.2.1 | exact hX.1.1.2.2.2.1 | exact hX.1.1.2.2.2.2.1 | exact hX.1.1.2.2.2.2.2.1 | exact hX.1.1.2.2.2.2.2.2.1 | exact hX.1.1.2.2.2.2.2.2.2.1 | exact hX.1.1.2.2.2.2.2.2.2.2.1 | exact hX.1.1.2.2.2.2.2.2.2.2.2.1 | exact hX.1.1.2.2.2.2.2.2.2.2.2.2) (inb_in (by decide)) ?_
          refine V_isub 101 dX6_would_101 ?_
          refine V_iret 102 dX6_would_102 ?_
          exact pof KK (by rw [sw54_1]; show M1.2.2.1 3 (168 * 21 + 3 + 0) - M1.2.2.1 3 (168 * 0 + 3 + 0) = eS D.2 0 - eS E 0; rw [hX.2.2.2.2.1.2.2.2.1 0 (by omega), hR2.2.2.1.2.2.2.1 0 (by omega)])
        by_cases sw54_2 : y = 2
        · refine V_tableIn 54 103 (49) dX6_would_54 (by rw [sw54_2]; decide) (by rw [sw54_2]; decide) (by rw [sw54_2]; rfl) rfl ?_
          refine V_aload_n 103 dX6_would_103 rfl ?_
          refine V_bipushv 104 (21) dX6_would_104 (by decide) ?_
          refine V_iv1 106 dX6_would_106 kvX6_242 rfl (by first | exact hM.1.1 | exact hM.1.2.1 | exact hM.1.2.2.1 | exact hM.1.2.2.2.1 | exact hM.1.2.2.2.2.1 | exact hM.1.2.2.2.2.2.1 | exact hM.1.2.2.2.2.2.2.1 | exact hM.1.2.2.2.2.2.2.2.1 | exact hM.1.2.2.2.2.2.2.2.2.1 | exact hM.1.2.2.2.2.2.2.2.2.2.1 | exact hM.1.2.2.2.2.2.2.2.2.2.2 | exact hX.1.1.1 | exact hX.1.1.2.1 | exact hX.1.1.2.2.1 | exact hX.1.1.2.2.2.1 | exact hX.1.1.2.2.2.2.1 | exact hX.1.1.2.2.2.2.2.1 | exact hX.1.1.2.2.2.2.2.2.1 | exact hX.1.1.2.2.2.2.2.2.2.1 | exact hX.1.1.2.2.2.2.2.2.2.2.1 | exact hX.1.1.2.2.2.2.2.2.2.2.2.1 | exact hX.1.1.2.2.2.2.2.2.2.2.2.2) rfl rfl (c_X6_headOf hX ?_)
          refine V_iret 109 dX6_would_109 ?_
          exact pof KK (by rw [sw54_2]; rfl)
        by_cases sw54_3 : y = 3
        · refine V_tableIn 54 110 (56) dX6_would_54 (by rw [sw54_3]; decide) (by rw [sw54_3]; decide) (by rw [sw54_3]; rfl) rfl ?_
          refine V_aload_n 110 dX6_would_110 rfl ?_
          refine V_bipushv 111 (21) dX6_would_111 (by decide) ?_
          refine V_iconstv 113 (3) dX6_would_113 (by decide) ?_
          refine V_iv2 114 dX6_would_114 kvX6_245 rfl (by first | exact hM.1.1 | exact hM.1.2.1 | exact hM.1.2.2.1 | exact hM.1.2.2.2.1 | exact hM.1.2.2.2.2.1 | exact hM.1.2.2.2.2.2.1 | exact hM.1.2.2.2.2.2.2.1 | exact hM.1.2.2.2.2.2.2.2.1 | exact hM.1.2.2.2.2.2.2.2.2.1 | exact hM.1.2.2.2.2.2.2.2.2.2.1 | exact hM.1.2.2.2.2.2.2.2.2.2.2 | exact hX.1.1.1 | exact hX.1.1.2.1 | exact hX.1.1.2.2.1 | exact hX.1.1.2.2.2.1 | exact hX.1.1.2.2.2.2.1 | exact hX.1.1.2.2.2.2.2.1 | exact hX.1.1.2.2.2.2.2.2.1 | exact hX.1.1.2.2.2.2.2.2.2.1 | exact hX.1.1.2.2.2.2.2.2.2.2.1 | exact hX.1.1.2.2.2.2.2.2.2.2.2.1 | exact hX.1.1.2.2.2.2.2.2.2.2.2.2) rfl rfl (c_X6_manyAre hX ?_)
          refine V_aload_n 117 dX6_would_117 rfl ?_
          refine V_bipushv 118 (21) dX6_would_118 (by decide) ?_
          refine V_iconstv 120 (4) dX6_would_120 (by decide) ?_
          refine V_iv2 121 dX6_would_121 kvX6_245 rfl (by first | exact hM.1.1 | exact hM.1.2.1 | exact hM.1.2.2.1 | exact hM.1.2.2.2.1 | exact hM.1.2.2.2.2.1 | exact hM.1.2.2.2.2.2.1 | exact hM.1.2.2.2.2.2.2.1 | exact hM.1.2.2.2.2.2.2.2.1 | exact hM.1.2.2.2.2.2.2.2.2.1 | exact hM.1.2.2.2.2.2.2.2.2.2.1 | exact hM.1.2.2.2.2.2.2.2.2.2.2 | exact hX.1.1.1 | exact hX.1.1.2.1 | exact hX.1.1.2.2.1 | exact hX.1.1.2.2.2.1 | exact hX.1.1.2.2.2.2.1 | exact hX.1.1.2.2.2.2.2.1 | exact hX.1.1.2.2.2.2.2.2.1 | exact hX.1.1.2.2.2.2.2.2.2.1 | exact hX.1.1.2.2.2.2.2.2.2.2.1 | exact hX.1.1.2.2.2.2.2.2.2.2.2.1 | exact hX.1.1.2.2.2.2.2.2.2.2.2.2) rfl rfl (c_X6_manyAre hX ?_)
          refine V_iadd 124 dX6_would_124 ?_
          refine V_iret 125 dX6_would_125 ?_
          exact pof KK (by rw [sw54_3]; show _ = insN Q D.2 3 + insN Q D.2 4; unfold insN; rw [if_neg eb])
        have tq0 : ¬ y.toInt = 0 := fun q => sw54_0 (Int32.toInt_inj.mp q)
        have tq1 : ¬ y.toInt = 1 := fun q => sw54_1 (Int32.toInt_inj.mp q)
        have tq2 : ¬ y.toInt = 2 := fun q => sw54_2 (Int32.toInt_inj.mp q)
        have tq3 : ¬ y.toInt = 3 := fun q => sw54_3 (Int32.toInt_inj.mp q)
        refine V_tableOut 54 126 dX6_would_54 (by omega) rfl ?_
        refine V_aload_n 126 dX6_would_126 rfl ?_
        refine V_get 127 dX6_would_127 fdX6_16 (by first | exact hM.1.1 | exact hM.1.2.1 | exact hM.1.2.2.1 | exact hM.1.2.2.2.1 | exact hM.1.2.2.2.2.1 | exact hM.1.2.2.2.2.2.1 | exact hM.1.2.2.2.2.2.2.1 | exact hM.1.2.2.2.2.2.2.2.1 | exact hM.1.2.2.2.2.2.2.2.2.1 | exact hM.1.2.2.2.2.2.2.2.2.2.1 | exact hM.1.2.2.2.2.2.2.2.2.2.2 | exact hX.1.1.1 | exact hX.1.1.2.1 | exact hX.1.1.2.2.1 | exact hX.1.1.2.2.2.1 | exact hX.1.1.2.2.2.2.1 | exact hX.1.1.2.2.2.2.2.1 | exact hX.1.1.2.2.2.2.2.2.1 | exact hX.1.1.2.2.2.2.2.2.2.1 | exact hX.1.1.2.2.2.2.2.2.2.2.1 | exact hX.1.1.2.2.2.2.2.2.2.2.2.1 | exact hX.1.1.2.2.2.2.2.2.2.2.2.2) rfl ?_
        refine V_sipushv 130 (3530) dX6_would_130 (by decide) ?_
        refine V_ialdk 133 3530 rfl dX6_would_133 (by first | exact hM.1.1 | exact hM.1.2.1 | exact hM.1.2.2.1 | exact hM.1.2.2.2.1 | exact hM.1.2.2.2.2.1 | exact hM.1.2.2.2.2.2.1 | exact hM.1.2.2.2.2.2.2.1 | exact hM.1.2.2.2.2.2.2.2.1 | exact hM.1.2.2.2.2.2.2.2.2.1 | exact hM.1.2.2.2.2.2.2.2.2.2.1 | exact hM.1.2.2.2.2.2.2.2.2.2.2 | exact hX.1.1.1 | exact hX.1.1.2.1 | exact hX.1.1.2.2.1 | exact hX.1.1.2.2.2.1 | exact hX.1.1.2.2.2.2.1 | exact hX.1.1.2.2.2.2.2.1 | exact hX.1.1.2.2.2.2.2.2.1 | exact hX.1.1.2.2.2.2.2.2.2.1 | exact hX.1.1.2.2.2.2.2.2.2.2.1 | exact hX.1.1.2.2.2.2.2.2.2.2.2.1 | exact hX.1.1.2.2.2.2.2.2.2.2.2.2) (inb_in (by decide)) ?_
        refine V_if_ne 134 141 dX6_would_134 rfl (fun c_134 => ?_) (fun c_134 => ?_)
        · refine V_iconstv 141 (0) dX6_would_141 (by decide) ?_
          refine V_iret 142 dX6_would_142 ?_
          exact pof KK (by unfold wldR; rw [if_neg sw54_0, if_neg sw54_1, if_neg sw54_2, if_neg sw54_3]; first | rw [if_pos ((hX.2.2.2.2.1.2.2.1).symm.trans c_134)] | rw [if_neg (fun q => c_134 ((hX.2.2.2.2.1.2.2.1).trans q))])
        · refine V_iconstv 137 (1) dX6_would_137 (by decide) ?_
          refine V_goto 138 142 dX6_would_138 rfl ?_
          refine V_iret 142 dX6_would_142 ?_
          exact pof KK (by unfold wldR; rw [if_neg sw54_0, if_neg sw54_1, if_neg sw54_2, if_neg sw54_3]; first | rw [if_pos ((hX.2.2.2.2.1.2.2.1).symm.trans c_134)] | rw [if_neg (fun q => c_134 ((hX.2.2.2.2.1.2.2.1).trans q))])
      · refine V_if_ne 27 33 dX6_would_27 rfl (fun q => absurd q (by decide)) (fun _ => ?_)
        refine V_ldc 30 dX6_would_30 knX6_211 ?_
        refine V_iret 32 dX6_would_32 ?_
        exact k2 ⟨c_2, c_14⟩ c_24
    · refine V_if_ne 17 23 dX6_would_17 rfl (fun q => absurd q (by decide)) (fun _ => ?_)
      refine V_ldc 20 dX6_would_20 knX6_161 ?_
      refine V_iret 22 dX6_would_22 ?_
      first | exact k0 (fun q => c_2 q.1) | exact k0 (fun q => c_14 q.2)
  · refine V_if_eq 5 20 dX6_would_5 rfl (fun _ => ?_) (fun q => absurd q (by decide))
    refine V_ldc 20 dX6_would_20 knX6_161 ?_
    refine V_iret 22 dX6_would_22 ?_
    first | exact k0 (fun q => c_2 q.1) | exact k0 (fun q => c_14 q.2)
end M38
