theorem la_first {p : Nat → Bool} {n : Nat} (hn : n < 1000) (hx : ∃ i, i < n ∧ p i = true) : laN (fun k => p k && decide (nI (ctN p k) = 0)) n = if fiN p n < n then nI (fiN p n) else -1 := by
  have hlt : fiN p n < n := by
    by_cases h : fiN p n < n
    · exact h
    · obtain ⟨i, hi, hp⟩ := hx
      exact absurd hp (fiN_ge h i hi)
  obtain ⟨h1, h2⟩ := fiN_lt hlt
  have h0 : ctN p (fiN p n) = 0 := by
    have : ∀ m, m ≤ fiN p n → ctN p m = 0 := by
      intro m
      induction m with
      | zero => intro _; rfl
      | succ m ih => intro hm; rw [ctN_f (h2 m (by omega))]; exact ih (by omega)
    exact this _ (Nat.le_refl _)
  have h3 : (fun k => p k && decide (nI (ctN p k) = 0)) (fiN p n) = true := by
    show (p (fiN p n) && decide (nI (ctN p (fiN p n)) = 0)) = true
    rw [h1, h0]
    rfl
  rw [if_pos hlt]
  refine laN_some h3 hlt (fun j hj hj2 q => ?_)
  have b := Bool.and_eq_true_iff.mp q
  have := ct_uniq (t := 0) hn hlt hj2 h1 b.1 (by rw [h0]; rfl) (by simpa using b.2)
  omega
theorem la_last {p : Nat → Bool} {n : Nat} (hn : n < 1000) : laN (fun k => p k && decide (nI (ctN p k) = nI (ctN p n) - 1)) n = laN p n := by
  have key : ∀ m, m ≤ n → (∀ j, m ≤ j → j < n → ¬ p j = true) → laN (fun k => p k && decide (nI (ctN p k) = nI (ctN p n) - 1)) m = laN p m := by
    intro m
    induction m with
    | zero => intro _ _; rfl
    | succ m ih =>
      intro hm hj
      rw [laN, laN]
      by_cases hp : p m = true
      · have e : ∀ q, m + 1 ≤ q → q ≤ n → ctN p q = ctN p m + 1 := by
          intro q
          induction q with
          | zero => intro h; omega
          | succ q ih2 =>
            intro h1 h2
            by_cases hq : q = m
            · rw [hq, ctN_t hp]
            · rw [ctN_f (hj q (by omega) (by omega))]; exact ih2 (by omega) (by omega)
        have e2 := e n hm (Nat.le_refl _)
        rw [if_pos hp, if_pos]
        show (p m && decide (nI (ctN p m) = nI (ctN p n) - 1)) = true
        rw [hp, e2, nI_pred]
        simp
      · rw [if_neg hp, if_neg (fun q => hp (Bool.and_eq_true_iff.mp q).1)]
        refine ih (by omega) (fun j h1 h2 => ?_)
        by_cases hq : j = m
        · rw [hq]; exact hp
        · exact hj j (by omega) h2
  exact key n (Nat.le_refl _) (fun j h1 h2 => absurd h2 (by omega))
def bzB (E : ET) : Nat → Bool := fun j => bsy E (nI j)
theorem lb0 (E : ET) (n : Nat) : lbE E n 0 = if fiN (bzB E) (2 * n) < 2 * n then nI (fiN (bzB E) (2 * n)) else -1 := by
  unfold lbE
  rw [show fiN (lbB E 0) (2 * n) = fiN (bzB E) (2 * n) from fiN_cong (fun k _ => by unfold lbB bzB; simp)]
theorem ln_0 {E : ET} {n : Nat} (hn : n ≤ 6) (hx : ∃ i, i < 2 * n ∧ bsy E (nI i) = true) : laN (bnB E 0) (2 * n) = lbE E n 0 := by
  rw [lb0]
  exact la_first (p := bzB E) (by omega) hx
theorem ln_1 {E : ET} {n : Nat} (hn : n ≤ 6) : laN (bnB E (nI (blE E n) - 1)) (2 * n) = gbE E n := la_last (p := bzB E) (by omega)
theorem blE_pos {E : ET} {n : Nat} (hx : ∃ i, i < 2 * n ∧ bsy E (nI i) = true) : 0 < blE E n := by
  obtain ⟨i, hi, hp⟩ := hx
  have := ctN_mono (bzB E) (show i + 1 ≤ 2 * n from hi)
  rw [ctN_t (p := bzB E) hp] at this
  unfold blE
  show 0 < ctN (bzB E) (2 * n)
  omega
theorem blE_le (E : ET) (n : Nat) : blE E n ≤ 2 * n := ctN_le _ _
theorem ln_3 {E : ET} {n a : Nat} (hn : n ≤ 6) (hx : ∃ i, i < 2 * n ∧ bsy E (nI i) = true) (ha : a < 2 ^ 31) : laN (bnB E (lN a - lN a / (nI (blE E n)).toInt64 * (nI (blE E n)).toInt64).toInt32) (2 * n) = bnE E n (nI a) := by
  have h0 := blE_pos hx
  have h1 := blE_le E n
  have e : (lN a - lN a / (nI (blE E n)).toInt64 * (nI (blE E n)).toInt64).toInt32 = bnT E n (nI a) := by
    unfold bnT
    rw [if_neg (nI_nle h0 (by omega)), nI_l (by omega), pk_lRem (by omega) (by omega) (by omega), pk_rem (by omega) (by omega) (by omega), lN_i]
  rw [e]
  unfold bnE
  exact la_fi (p := bzB E) (t := bnT E n (nI a)) (by omega)
section M32
variable {l : Launch} {G : zGT} {h h0 : hpT} {sz : Nat} {Post : Option Value → hpT → Nat → Prop} {m r : Nat} {M M0 : MT} {Q : RG} {E : ET}
theorem i32_2 (n : Nat) : 2 * nI n = nI (2 * n) := pk_mul 2 n
theorem is_bsy {E : ET} {x : Int32} (c : ¬ nI (loE E x) ≤ 0) : bsy E x = true := (lo_bsy E x).mpr (Nat.pos_of_ne_zero (fun q => c (by rw [q]; decide)))
theorem ne_bsy {G : zGT} {h0 h : hpT} {m r : Nat} {M0 M : MT} {E : ET} {Q : RG} (hX : WX G h0 h m M0 M r E Q) {x : Int32} (c : nI (loE E x) ≤ 0) (q : bsy E x = true) : False := by
  have h1 := (lo_bsy E x).mp q
  have h2 : loE E x ≤ eN E := ctN_le _ _
  have h3 := hX.2.2.2.2.1.2.2.2.2.2.2
  exact nI_nle h1 (by omega) c
set_option maxHeartbeats 1000000 in
set_option maxRecDepth 100000 in
theorem lp_X6_manyLinks (hX : WX G h0 h m M0 M r E Q) (k : Post (some (.int (nI (blE E Q.1)))) h sz) : ∀ i, i ≤ 2 * Q.1 → V l G RX6 cX6_manyLinks 4 (some .int) false 2 0 0 Post 4 [some (.ref m), some (.int (nI r)), some (.int (nI (ctN (bzB E) i))), some (.int (nI i))] [] h sz := by
  have hn := hX.2.2.2.2.2.2
  refine up_ind (2 * Q.1) (fun i hi ih => ?_)
  refine V_iload_n 4 dX6_manyLinks_4 rfl ?_
  refine V_iconstv 5 (2) dX6_manyLinks_5 (by decide) ?_
  refine V_aload_n 6 dX6_manyLinks_6 rfl ?_
  refine V_get 7 dX6_manyLinks_7 fdX6_41 (by first | exact hX.1.1.1 | exact hX.1.1.2.1 | exact hX.1.1.2.2.1 | exact hX.1.1.2.2.2.1 | exact hX.1.1.2.2.2.2.1 | exact hX.1.1.2.2.2.2.2.1 | exact hX.1.1.2.2.2.2.2.2.1 | exact hX.1.1.2.2.2.2.2.2.2.1 | exact hX.1.1.2.2.2.2.2.2.2.2.1 | exact hX.1.1.2.2.2.2.2.2.2.2.2.1 | exact hX.1.1.2.2.2.2.2.2.2.2.2.2) rfl ?_
  refine V_imul 10 dX6_manyLinks_10 ?_
  refine V_topi (nI (2 * Q.1)) (by rw [hX.2.2.1]; exact pk_mul 2 Q.1) ?_
  refine V_icmp_ge 11 37 dX6_manyLinks_11 rfl (fun c_11 => ?_) (fun c_11 => ?_)
  · have e_9 : i = 2 * Q.1 := Nat.le_antisymm hi ((nI_leI (by omega) (by omega)).mp c_11)
    subst e_9
    refine V_iload_n 37 dX6_manyLinks_37 rfl ?_
    refine V_iret 38 dX6_manyLinks_38 ?_
    exact k
  · have e_9 : i < 2 * Q.1 := Nat.lt_of_not_le (fun q => c_11 (nI_le q (by omega)))
    refine V_iload_n 14 dX6_manyLinks_14 rfl ?_
    refine V_aload_n 15 dX6_manyLinks_15 rfl ?_
    refine V_iload_n 16 dX6_manyLinks_16 rfl ?_
    refine V_iload_n 17 dX6_manyLinks_17 rfl ?_
    refine V_iv2 18 dX6_manyLinks_18 kvX6_133 rfl (by first | exact hX.1.1.1 | exact hX.1.1.2.1 | exact hX.1.1.2.2.1 | exact hX.1.1.2.2.2.1 | exact hX.1.1.2.2.2.2.1 | exact hX.1.1.2.2.2.2.2.1 | exact hX.1.1.2.2.2.2.2.2.1 | exact hX.1.1.2.2.2.2.2.2.2.1 | exact hX.1.1.2.2.2.2.2.2.2.2.1 | exact hX.1.1.2.2.2.2.2.2.2.2.2.1 | exact hX.1.1.2.2.2.2.2.2.2.2.2.2) rfl rfl (c_X6_manyOn hX ?_)
    refine V_if_le 21 28 dX6_manyLinks_21 rfl (fun c_21 => ?_) (fun c_21 => ?_)
    · have e_20 : nI (ctN (bzB E) i) + 0 = nI (ctN (bzB E) (i + 1)) := by rw [show (0 : Int32) = nI 0 from rfl, nI_add, ctN_f (p := bzB E) (fun q => ne_bsy hX c_21 q)]; rfl
      refine V_iconstv 28 (0) dX6_manyLinks_28 (by decide) ?_
      refine V_iadd 29 dX6_manyLinks_29 ?_
      refine V_topi _ e_20 ?_
      refine V_istore_n 30 dX6_manyLinks_30 rfl rfl ?_
      refine V_iinc 31 (nI (i + 1)) dX6_manyLinks_31 rfl (nI_inc i) rfl rfl ?_
      refine V_goto 34 4 dX6_manyLinks_34 rfl ?_
      exact ih (i + 1) rfl (by omega)
    · have e_20 : nI (ctN (bzB E) i) + 1 = nI (ctN (bzB E) (i + 1)) := by rw [nI_1, ctN_t (p := bzB E) (is_bsy c_21)]
      refine V_iconstv 24 (1) dX6_manyLinks_24 (by decide) ?_
      refine V_goto 25 29 dX6_manyLinks_25 rfl ?_
      refine V_iadd 29 dX6_manyLinks_29 ?_
      refine V_topi _ e_20 ?_
      refine V_istore_n 30 dX6_manyLinks_30 rfl rfl ?_
      refine V_iinc 31 (nI (i + 1)) dX6_manyLinks_31 rfl (nI_inc i) rfl rfl ?_
      refine V_goto 34 4 dX6_manyLinks_34 rfl ?_
      exact ih (i + 1) rfl (by omega)
set_option maxHeartbeats 1000000 in
set_option maxRecDepth 100000 in
theorem c_X6_manyLinks (hX : WX G h0 h m M0 M r E Q) (k : Post (some (.int (nI (blE E Q.1)))) h sz) : Cn l G yX6_manyLinks cX6_manyLinks 4 (some .int) 2 0 0 [.ref m, .int (nI r)] h sz Post := by
  refine Cn.of RX6 false (by decide) rfl (fun q => by cases q) (Nat.le_of_ble_eq_true rfl) ?_
  refine V_iconstv 0 (0) dX6_manyLinks_0 (by decide) ?_
  refine V_istore_n 1 dX6_manyLinks_1 rfl rfl ?_
  refine V_iconstv 2 (0) dX6_manyLinks_2 (by decide) ?_
  refine V_istore_n 3 dX6_manyLinks_3 rfl rfl ?_
  exact lp_X6_manyLinks hX k 0 (Nat.zero_le _)
set_option maxHeartbeats 1000000 in
set_option maxRecDepth 100000 in
theorem lp_X6_linkBy (hX : WX G h0 h m M0 M r E Q) {z : Int32} (k : Post (some (.int (laN (bnB E z) (2 * Q.1)))) h sz) : ∀ i, i ≤ 2 * Q.1 → ∀ (v6 : Option Value), (v6 = none ∨ ∃ q : Int32, v6 = some (.int q)) → V l G RX6 cX6_linkBy 7 (some .int) false 2 0 0 Post 8 [some (.ref m), some (.int (nI r)), some (.int z), some (.int (z - nI (ctN (bzB E) i))), some (.int (laN (bnB E z) i)), some (.int (nI i)), v6] [] h sz := by
  have hn := hX.2.2.2.2.2.2
  refine up_ind (2 * Q.1) (fun i hi ih v6 hv6 => ?_)
  refine V_iload 8 dX6_linkBy_8 rfl ?_
  refine V_iconstv 10 (2) dX6_linkBy_10 (by decide) ?_
  refine V_aload_n 11 dX6_linkBy_11 rfl ?_
  refine V_get 12 dX6_linkBy_12 fdX6_41 (by first | exact hX.1.1.1 | exact hX.1.1.2.1 | exact hX.1.1.2.2.1 | exact hX.1.1.2.2.2.1 | exact hX.1.1.2.2.2.2.1 | exact hX.1.1.2.2.2.2.2.1 | exact hX.1.1.2.2.2.2.2.2.1 | exact hX.1.1.2.2.2.2.2.2.2.1 | exact hX.1.1.2.2.2.2.2.2.2.2.1 | exact hX.1.1.2.2.2.2.2.2.2.2.2.1 | exact hX.1.1.2.2.2.2.2.2.2.2.2.2) rfl ?_
  refine V_imul 15 dX6_linkBy_15 ?_
  refine V_topi (nI (2 * Q.1)) (by rw [hX.2.2.1]; exact pk_mul 2 Q.1) ?_
  refine V_icmp_ge 16 73 dX6_linkBy_16 rfl (fun c_16 => ?_) (fun c_16 => ?_)
  · have e_9 : i = 2 * Q.1 := Nat.le_antisymm hi ((nI_leI (by omega) (by omega)).mp c_16)
    subst e_9
    refine V_iload 73 dX6_linkBy_73 rfl ?_
    refine V_iret 75 dX6_linkBy_75 ?_
    exact k
  · have e_9 : i < 2 * Q.1 := Nat.lt_of_not_le (fun q => c_16 (nI_le q (by omega)))
    refine V_aload_n 19 dX6_linkBy_19 rfl ?_
    refine V_iload_n 20 dX6_linkBy_20 rfl ?_
    refine V_iload 21 dX6_linkBy_21 rfl ?_
    refine V_iv2 23 dX6_linkBy_23 kvX6_133 rfl (by first | exact hX.1.1.1 | exact hX.1.1.2.1 | exact hX.1.1.2.2.1 | exact hX.1.1.2.2.2.1 | exact hX.1.1.2.2.2.2.1 | exact hX.1.1.2.2.2.2.2.1 | exact hX.1.1.2.2.2.2.2.2.1 | exact hX.1.1.2.2.2.2.2.2.2.1 | exact hX.1.1.2.2.2.2.2.2.2.2.1 | exact hX.1.1.2.2.2.2.2.2.2.2.2.1 | exact hX.1.1.2.2.2.2.2.2.2.2.2.2) rfl rfl (c_X6_manyOn hX ?_)
    refine V_if_le 26 33 dX6_linkBy_26 rfl (fun c_26 => ?_) (fun c_26 => ?_)
    · have e_39 : ¬ bzB E i = true := fun q => ne_bsy hX c_26 q
      have e_p : ¬ bnB E z i = true := fun q => e_39 (Bool.and_eq_true_iff.mp q).1
      have e_l : laN (bnB E z) i = laN (bnB E z) (i + 1) := by rw [laN, if_neg e_p]
      have e_c : z - nI (ctN (bzB E) i) - 0 = z - nI (ctN (bzB E) (i + 1)) := by rw [ctN_f e_39]; simp
      refine V_iconstv 33 (0) dX6_linkBy_33 (by decide) ?_
      refine V_istore 34 dX6_linkBy_34 rfl rfl ?_
      refine V_iload 36 dX6_linkBy_36 rfl ?_
      refine V_if_eq 38 50 dX6_linkBy_38 rfl (fun _ => ?_) (fun q => absurd q (by decide))
      refine V_iload 50 dX6_linkBy_50 rfl ?_
      refine V_topi _ e_l ?_
      refine V_istore 52 dX6_linkBy_52 rfl rfl ?_
      refine V_iload_n 54 dX6_linkBy_54 rfl ?_
      refine V_iload 55 dX6_linkBy_55 rfl ?_
      refine V_if_eq 57 64 dX6_linkBy_57 rfl (fun _ => ?_) (fun q => absurd q (by decide))
      refine V_iconstv 64 (0) dX6_linkBy_64 (by decide) ?_
      refine V_isub 65 dX6_linkBy_65 ?_
      refine V_topi _ e_c ?_
      refine V_istore_n 66 dX6_linkBy_66 rfl rfl ?_
      refine V_iinc 67 (nI (i + 1)) dX6_linkBy_67 rfl (nI_inc i) rfl rfl ?_
      refine V_goto 70 8 dX6_linkBy_70 rfl ?_
      exact ih (i + 1) rfl (by omega) _ (Or.inr ⟨_, rfl⟩)
    · have e_39 : bzB E i = true := is_bsy c_26
      have e_c : z - nI (ctN (bzB E) i) - 1 = z - nI (ctN (bzB E) (i + 1)) := by rw [ctN_t e_39, ← i32_dec, i32_sub_inc]
      refine V_iconstv 29 (1) dX6_linkBy_29 (by decide) ?_
      refine V_goto 30 34 dX6_linkBy_30 rfl ?_
      refine V_istore 34 dX6_linkBy_34 rfl rfl ?_
      refine V_iload 36 dX6_linkBy_36 rfl ?_
      refine V_if_eq 38 50 dX6_linkBy_38 rfl (fun q => absurd q (by decide)) (fun _ => ?_)
      refine V_iload_n 41 dX6_linkBy_41 rfl ?_
      refine V_if_ne 42 50 dX6_linkBy_42 rfl (fun c_42 => ?_) (fun c_42 => ?_)
      · have e_p : ¬ bnB E z i = true := fun q => c_42 (i32_sub0.mpr (by have := (Bool.and_eq_true_iff.mp q).2; exact (of_decide_eq_true this).symm))
        have e_l : laN (bnB E z) i = laN (bnB E z) (i + 1) := by rw [laN, if_neg e_p]
        refine V_iload 50 dX6_linkBy_50 rfl ?_
        refine V_topi _ e_l ?_
        refine V_istore 52 dX6_linkBy_52 rfl rfl ?_
        refine V_iload_n 54 dX6_linkBy_54 rfl ?_
        refine V_iload 55 dX6_linkBy_55 rfl ?_
        refine V_if_eq 57 64 dX6_linkBy_57 rfl (fun q => absurd q (by decide)) (fun _ => ?_)
        refine V_iconstv 60 (1) dX6_linkBy_60 (by decide) ?_
        refine V_goto 61 65 dX6_linkBy_61 rfl ?_
        refine V_isub 65 dX6_linkBy_65 ?_
        refine V_topi _ e_c ?_
        refine V_istore_n 66 dX6_linkBy_66 rfl rfl ?_
        refine V_iinc 67 (nI (i + 1)) dX6_linkBy_67 rfl (nI_inc i) rfl rfl ?_
        refine V_goto 70 8 dX6_linkBy_70 rfl ?_
        exact ih (i + 1) rfl (by omega) _ (Or.inr ⟨_, rfl⟩)
      · have e_p : bnB E z i = true := Bool.and_eq_true_iff.mpr ⟨e_39, decide_eq_true (i32_sub0.mp c_42).symm⟩
        have e_l : nI i = laN (bnB E z) (i + 1) := by rw [laN, if_pos e_p]
        refine V_iload 45 dX6_linkBy_45 rfl ?_
        refine V_goto 47 52 dX6_linkBy_47 rfl ?_
        refine V_topi _ e_l ?_
        refine V_istore 52 dX6_linkBy_52 rfl rfl ?_
        refine V_iload_n 54 dX6_linkBy_54 rfl ?_
        refine V_iload 55 dX6_linkBy_55 rfl ?_
        refine V_if_eq 57 64 dX6_linkBy_57 rfl (fun q => absurd q (by decide)) (fun _ => ?_)
        refine V_iconstv 60 (1) dX6_linkBy_60 (by decide) ?_
        refine V_goto 61 65 dX6_linkBy_61 rfl ?_
        refine V_isub 65 dX6_linkBy_65 ?_
        refine V_topi _ e_c ?_
        refine V_istore_n 66 dX6_linkBy_66 rfl rfl ?_
        refine V_iinc 67 (nI (i + 1)) dX6_linkBy_67 rfl (nI_inc i) rfl rfl ?_
        refine V_goto 70 8 dX6_linkBy_70 rfl ?_
        exact ih (i + 1) rfl (by omega) _ (Or.inr ⟨_, rfl⟩)
set_option maxHeartbeats 1000000 in
set_option maxRecDepth 100000 in
theorem c_X6_linkBy (hX : WX G h0 h m M0 M r E Q) {z : Int32} (k : Post (some (.int (laN (bnB E z) (2 * Q.1)))) h sz) : Cn l G yX6_linkBy cX6_linkBy 7 (some .int) 2 0 0 [.ref m, .int (nI r), .int z] h sz Post := by
  refine Cn.of RX6 false (by decide) rfl (fun q => by cases q) (Nat.le_of_ble_eq_true rfl) ?_
  refine V_iload_n 0 dX6_linkBy_0 rfl ?_
  refine V_istore_n 1 dX6_linkBy_1 rfl rfl ?_
  refine V_iconstv 2 (-1) dX6_linkBy_2 (by decide) ?_
  refine V_istore 3 dX6_linkBy_3 rfl rfl ?_
  refine V_iconstv 5 (0) dX6_linkBy_5 (by decide) ?_
  refine V_istore 6 dX6_linkBy_6 rfl rfl ?_
  have K := lp_X6_linkBy (l := l) hX k 0 (Nat.zero_le _) none (Or.inl rfl)
  have e0 : z - nI (ctN (bzB E) 0) = z := by show z - nI 0 = z; rw [nI_0]; simp
  rw [e0] at K
  exact V_lvw (zget_pad _) K
theorem lo_nb {E : ET} {x : Int32} (h : ¬ bsy E x = true) : loE E x = 0 := Nat.eq_zero_of_not_pos (fun q => h ((lo_bsy E x).mpr q))
theorem nI_z {n : Nat} (h : n = 0) : nI n = 0 := by rw [h]; rfl
set_option maxHeartbeats 1000000 in
set_option maxRecDepth 100000 in
theorem lp_X6_nextLink (hX : WX G h0 h m M0 M r E Q) {x b v4 : Int32} (t : Nat) (ht2 : t < 2 * Q.1) (ht : bsy E (nI t) = true) (k : Post (some (.int (nI t))) h sz) : ∀ i, i ≤ t → (∀ q, i ≤ q → q < t → ¬ bsy E (nI q) = true) → V l G RX6 cX6_nextLink 6 (some .int) false 3 0 0 Post 81 [some (.ref m), some (.int (nI r)), some (.int x), some (.int b), some (.int v4), some (.int (nI i))] [] h sz := by
  have hn := hX.2.2.2.2.2.2
  have hN := hX.2.2.2.2.1.2.2.2.2.2.2
  refine up_ind t (fun i hi ih hb => ?_)
  refine V_aload_n 81 dX6_nextLink_81 rfl ?_
  refine V_iload_n 82 dX6_nextLink_82 rfl ?_
  refine V_iload 83 dX6_nextLink_83 rfl ?_
  refine V_iv2 85 dX6_nextLink_85 kvX6_133 rfl (by first | exact hX.1.1.1 | exact hX.1.1.2.1 | exact hX.1.1.2.2.1 | exact hX.1.1.2.2.2.1 | exact hX.1.1.2.2.2.2.1 | exact hX.1.1.2.2.2.2.2.1 | exact hX.1.1.2.2.2.2.2.2.1 | exact hX.1.1.2.2.2.2.2.2.2.1 | exact hX.1.1.2.2.2.2.2.2.2.2.1 | exact hX.1.1.2.2.2.2.2.2.2.2.2.1 | exact hX.1.1.2.2.2.2.2.2.2.2.2.2) rfl rfl (c_X6_manyOn hX ?_)
  refine V_if_ne 88 107 dX6_nextLink_88 rfl (fun c_88 => ?_) (fun c_88 => ?_)
  · have e1 : i = t := Nat.le_antisymm hi (Nat.le_of_not_lt (fun q => c_88 (nI_z (lo_nb (hb i (Nat.le_refl _) q)))))
    subst e1
    refine V_iload 107 dX6_nextLink_107 rfl ?_
    refine V_iret 109 dX6_nextLink_109 ?_
    exact k
  · have e1 : i < t := Nat.lt_of_le_of_ne hi (fun q => nI_ne0 ((lo_bsy E _).mp ht) (by have : loE E (nI t) ≤ eN E := ctN_le _ _; omega) (by rw [← q]; exact c_88))
    refine V_iload 91 dX6_nextLink_91 rfl ?_
    refine V_iconstv 93 (1) dX6_nextLink_93 (by decide) ?_
    refine V_iadd 94 dX6_nextLink_94 ?_
    refine V_topi (nI (i + 1)) (nI_1 i) ?_
    refine V_iconstv 95 (2) dX6_nextLink_95 (by decide) ?_
    refine V_aload_n 96 dX6_nextLink_96 rfl ?_
    refine V_get 97 dX6_nextLink_97 fdX6_41 (by first | exact hX.1.1.1 | exact hX.1.1.2.1 | exact hX.1.1.2.2.1 | exact hX.1.1.2.2.2.1 | exact hX.1.1.2.2.2.2.1 | exact hX.1.1.2.2.2.2.2.1 | exact hX.1.1.2.2.2.2.2.2.1 | exact hX.1.1.2.2.2.2.2.2.2.1 | exact hX.1.1.2.2.2.2.2.2.2.2.1 | exact hX.1.1.2.2.2.2.2.2.2.2.2.1 | exact hX.1.1.2.2.2.2.2.2.2.2.2.2) rfl ?_
    refine V_imul 100 dX6_nextLink_100 ?_
    refine V_irem 101 dX6_nextLink_101 (by rw [hX.2.2.1, i32_2]; exact nI_ne0 (by omega) (by omega)) ?_
    refine V_topi (nI (i + 1)) (by rw [hX.2.2.1, i32_2, pk_rem (by omega) (by omega) (by omega), Nat.mod_eq_of_lt (by omega)]) ?_
    refine V_istore 102 dX6_nextLink_102 rfl rfl ?_
    refine V_goto 104 81 dX6_nextLink_104 rfl ?_
    exact ih (i + 1) rfl (by omega) (fun q h1 h2 => hb q (by omega) h2)
set_option maxHeartbeats 1000000 in
set_option maxRecDepth 100000 in
theorem lw_X6_nextLink (hX : WX G h0 h m M0 M r E Q) {x b v4 : Int32} (t : Nat) (ht2 : t < 2 * Q.1) (ht : bsy E (nI t) = true) (hf : ∀ q, q < t → ¬ bsy E (nI q) = true) (k : Post (some (.int (nI t))) h sz) : ∀ i, i ≤ 2 * Q.1 - 1 → (∀ q, i ≤ q → q < 2 * Q.1 → ¬ bsy E (nI q) = true) → V l G RX6 cX6_nextLink 6 (some .int) false 3 0 0 Post 81 [some (.ref m), some (.int (nI r)), some (.int x), some (.int b), some (.int v4), some (.int (nI i))] [] h sz := by
  have hn := hX.2.2.2.2.2.2
  have hN := hX.2.2.2.2.1.2.2.2.2.2.2
  refine up_ind (2 * Q.1 - 1) (fun i hi ih hb => ?_)
  refine V_aload_n 81 dX6_nextLink_81 rfl ?_
  refine V_iload_n 82 dX6_nextLink_82 rfl ?_
  refine V_iload 83 dX6_nextLink_83 rfl ?_
  refine V_iv2 85 dX6_nextLink_85 kvX6_133 rfl (by first | exact hX.1.1.1 | exact hX.1.1.2.1 | exact hX.1.1.2.2.1 | exact hX.1.1.2.2.2.1 | exact hX.1.1.2.2.2.2.1 | exact hX.1.1.2.2.2.2.2.1 | exact hX.1.1.2.2.2.2.2.2.1 | exact hX.1.1.2.2.2.2.2.2.2.1 | exact hX.1.1.2.2.2.2.2.2.2.2.1 | exact hX.1.1.2.2.2.2.2.2.2.2.2.1 | exact hX.1.1.2.2.2.2.2.2.2.2.2.2) rfl rfl (c_X6_manyOn hX ?_)
  refine V_if_ne 88 107 dX6_nextLink_88 rfl (fun c_88 => absurd (nI_z (lo_nb (hb i (Nat.le_refl _) (by omega)))) c_88) (fun _ => ?_)
  refine V_iload 91 dX6_nextLink_91 rfl ?_
  refine V_iconstv 93 (1) dX6_nextLink_93 (by decide) ?_
  refine V_iadd 94 dX6_nextLink_94 ?_
  refine V_topi (nI (i + 1)) (nI_1 i) ?_
  refine V_iconstv 95 (2) dX6_nextLink_95 (by decide) ?_
  refine V_aload_n 96 dX6_nextLink_96 rfl ?_
  refine V_get 97 dX6_nextLink_97 fdX6_41 (by first | exact hX.1.1.1 | exact hX.1.1.2.1 | exact hX.1.1.2.2.1 | exact hX.1.1.2.2.2.1 | exact hX.1.1.2.2.2.2.1 | exact hX.1.1.2.2.2.2.2.1 | exact hX.1.1.2.2.2.2.2.2.1 | exact hX.1.1.2.2.2.2.2.2.2.1 | exact hX.1.1.2.2.2.2.2.2.2.2.1 | exact hX.1.1.2.2.2.2.2.2.2.2.2.1 | exact hX.1.1.2.2.2.2.2.2.2.2.2.2) rfl ?_
  refine V_imul 100 dX6_nextLink_100 ?_
  refine V_irem 101 dX6_nextLink_101 (by rw [hX.2.2.1, i32_2]; exact nI_ne0 (by omega) (by omega)) ?_
  refine V_topi (nI ((i + 1) % (2 * Q.1))) (by rw [hX.2.2.1, i32_2, pk_rem (by omega) (by omega) (by omega)]) ?_
  refine V_istore 102 dX6_nextLink_102 rfl rfl ?_
  refine V_goto 104 81 dX6_nextLink_104 rfl ?_
  by_cases e2 : i + 1 = 2 * Q.1
  · rw [e2, Nat.mod_self]
    exact lp_X6_nextLink hX t ht2 ht k 0 (Nat.zero_le _) (fun q _ h2 => hf q h2)
  · rw [Nat.mod_eq_of_lt (by omega)]
    exact ih (i + 1) rfl (by omega) (fun q h1 h2 => hb q (by omega) h2)
theorem lb_lt {E : ET} {n j : Nat} (h : ¬ lbE E n j = -1) : ∃ t, lbE E n j = nI t ∧ t < 2 * n ∧ bsy E (nI t) = true ∧ j ≤ t ∧ ∀ q, j ≤ q → q < t → ¬ bsy E (nI q) = true := by
  unfold lbE at h ⊢
  by_cases c : fiN (lbB E j) (2 * n) < 2 * n
  · rw [if_pos c] at h ⊢
    obtain ⟨h1, h2⟩ := fiN_lt c
    have a := Bool.and_eq_true_iff.mp h1
    refine ⟨_, rfl, c, a.2, of_decide_eq_true a.1, fun q hq hq2 hz => h2 q hq2 (Bool.and_eq_true_iff.mpr ⟨decide_eq_true hq, hz⟩)⟩
  · rw [if_neg c] at h
    exact absurd rfl h
theorem lb_no {E : ET} {n j : Nat} (hn : n ≤ 6) (h : lbE E n j = -1) : ∀ q, j ≤ q → q < 2 * n → ¬ bsy E (nI q) = true := by
  unfold lbE at h
  by_cases c : fiN (lbB E j) (2 * n) < 2 * n
  · rw [if_pos c] at h
    exact absurd h (nI_ne_m1 (by omega))
  · intro q h1 h2 h3
    exact fiN_ge c q h2 (Bool.and_eq_true_iff.mpr ⟨decide_eq_true h1, h3⟩)
theorem WX.y (hX : WX G h0 h m M0 M r E Q) {h1 : hpT} {y : Int64} (hM : WM G h0 h1 m (mY M y)) : WX G h0 h1 m (mY M0 y) (mY M y) r E Q := by
  obtain ⟨-, h2, h3⟩ := hX
  exact ⟨hM, ⟨h2.1, rfl, h2.2.2⟩, h3⟩
theorem fo_lN {a : Nat} (ha : a < 2 ^ 31) : lN a * 16807 - lN a * 16807 / 2147483647 * 2147483647 = lN (a * 16807 % 2147483647) := by
  rw [← nI_l ha]
  exact fo_nI ha
set_option maxHeartbeats 1000000 in
set_option maxRecDepth 100000 in
theorem c_X6_nextLink (hX : WX G h0 h m M0 M r E Q) {x b y : Int32} (hord : x = 0 ∨ x = 1 ∨ x = 2 ∨ x = 3) (hx : ∃ i, i < 2 * Q.1 ∧ bsy E (nI i) = true) (j : Nat) (hj : b + 1 = nI j) (hj2 : j ≤ 2 * Q.1) (a : Nat) (ha : a < 2 ^ 31) (hy : x = 3 → M.2.1 = lN a) (k0 : ¬ x = 3 → Post (some (.int (chE E Q.1 x j y))) h sz) (k3 : x = 3 → ∀ h, WX G h0 h m (mY M0 (lN (a * 16807 % 2147483647))) (mY M (lN (a * 16807 % 2147483647))) r E Q → Post (some (.int (bnE E Q.1 (nI (a * 16807 % 2147483647))))) h sz) : Cn l G yX6_nextLink cX6_nextLink 6 (some .int) 3 0 0 [.ref m, .int (nI r), .int x, .int b] h sz Post := by
  refine Cn.of RX6 false (by decide) rfl (fun q => by cases q) (Nat.le_of_ble_eq_true rfl) ?_
  have hn := hX.2.2.2.2.2.2
  have hn0 : 0 < Q.1 := hx.elim (fun i hi => by omega)
  refine V_aload_n 0 dX6_nextLink_0 rfl ?_
  refine V_iload_n 1 dX6_nextLink_1 rfl ?_
  refine V_iv1 2 dX6_nextLink_2 kvX6_136 rfl (by first | exact hX.1.1.1 | exact hX.1.1.2.1 | exact hX.1.1.2.2.1 | exact hX.1.1.2.2.2.1 | exact hX.1.1.2.2.2.2.1 | exact hX.1.1.2.2.2.2.2.1 | exact hX.1.1.2.2.2.2.2.2.1 | exact hX.1.1.2.2.2.2.2.2.2.1 | exact hX.1.1.2.2.2.2.2.2.2.2.1 | exact hX.1.1.2.2.2.2.2.2.2.2.2.1 | exact hX.1.1.2.2.2.2.2.2.2.2.2.2) rfl rfl (c_X6_manyLinks hX ?_)
  refine V_istore 5 dX6_nextLink_5 rfl rfl ?_
  refine V_iload_n 7 dX6_nextLink_7 rfl ?_
  refine V_if_ne 8 18 dX6_nextLink_8 rfl (fun c_8 => ?_) (fun c_8 => ?_)
  · refine V_iload_n 18 dX6_nextLink_18 rfl ?_
    refine V_iconstv 19 (1) dX6_nextLink_19 (by decide) ?_
    refine V_icmp_ne 20 33 dX6_nextLink_20 rfl (fun c_20 => ?_) (fun c_20 => ?_)
    · refine V_iload_n 33 dX6_nextLink_33 rfl ?_
      refine V_iconstv 34 (3) dX6_nextLink_34 (by decide) ?_
      refine V_icmp_ne 35 69 dX6_nextLink_35 rfl (fun c_35 => ?_) (fun c_35 => ?_)
      · refine V_iload_n 69 dX6_nextLink_69 rfl ?_
        refine V_iconstv 70 (1) dX6_nextLink_70 (by decide) ?_
        refine V_iadd 71 dX6_nextLink_71 ?_
        refine V_topi (nI j) hj ?_
        refine V_iconstv 72 (2) dX6_nextLink_72 (by decide) ?_
        refine V_aload_n 73 dX6_nextLink_73 rfl ?_
        refine V_get 74 dX6_nextLink_74 fdX6_41 (by first | exact hX.1.1.1 | exact hX.1.1.2.1 | exact hX.1.1.2.2.1 | exact hX.1.1.2.2.2.1 | exact hX.1.1.2.2.2.2.1 | exact hX.1.1.2.2.2.2.2.1 | exact hX.1.1.2.2.2.2.2.2.1 | exact hX.1.1.2.2.2.2.2.2.2.1 | exact hX.1.1.2.2.2.2.2.2.2.2.1 | exact hX.1.1.2.2.2.2.2.2.2.2.2.1 | exact hX.1.1.2.2.2.2.2.2.2.2.2.2) rfl ?_
        refine V_imul 77 dX6_nextLink_77 ?_
        refine V_irem 78 dX6_nextLink_78 (by rw [hX.2.2.1, i32_2]; exact nI_ne0 (by omega) (by omega)) ?_
        refine V_topi (nI (j % (2 * Q.1))) (by rw [hX.2.2.1, i32_2, pk_rem (by omega) (by omega) (by omega)]) ?_
        refine V_istore 79 dX6_nextLink_79 rfl rfl ?_
        have h2 : x = 2 := by
          rcases hord with q | q | q | q
          · exact absurd q c_8
          · exact absurd q c_20
          · exact q
          · exact absurd q c_35
        replace k0 := k0 c_35
        unfold chE at k0
        rw [if_neg c_8, if_neg c_20, if_pos h2] at k0
        by_cases c : lbE E Q.1 j = -1
        · rw [if_pos c] at k0
          have hne : ¬ lbE E Q.1 0 = -1 := fun q => (hx.elim (fun i hi => lb_no hn q i (Nat.zero_le _) hi.1 hi.2))
          obtain ⟨t, e1, e2, e3, e4, e5⟩ := lb_lt hne
          rw [e1] at k0
          by_cases e : j = 2 * Q.1
          · rw [e, Nat.mod_self]
            exact lp_X6_nextLink hX t e2 e3 k0 0 (Nat.zero_le _) (fun q h1 h2 => e5 q h1 h2)
          · rw [Nat.mod_eq_of_lt (by omega)]
            exact lw_X6_nextLink hX t e2 e3 (fun q h2 => e5 q (Nat.zero_le _) h2) k0 j (by omega) (lb_no hn c)
        · rw [if_neg c] at k0
          obtain ⟨t, e1, e2, e3, e4, e5⟩ := lb_lt c
          rw [e1] at k0
          rw [Nat.mod_eq_of_lt (by omega)]
          exact lp_X6_nextLink hX t e2 e3 k0 j e4 e5
      · refine V_aload_n 38 dX6_nextLink_38 rfl ?_
        refine V_aload_n 39 dX6_nextLink_39 rfl ?_
        refine V_get 40 dX6_nextLink_40 fdX6_143 (by first | exact hX.1.1.1 | exact hX.1.1.2.1 | exact hX.1.1.2.2.1 | exact hX.1.1.2.2.2.1 | exact hX.1.1.2.2.2.2.1 | exact hX.1.1.2.2.2.2.2.1 | exact hX.1.1.2.2.2.2.2.2.1 | exact hX.1.1.2.2.2.2.2.2.2.1 | exact hX.1.1.2.2.2.2.2.2.2.2.1 | exact hX.1.1.2.2.2.2.2.2.2.2.2.1 | exact hX.1.1.2.2.2.2.2.2.2.2.2.2) rfl ?_
        refine V_topl (lN a) (hy c_35) ?_
        refine V_ldc2 43 dX6_nextLink_43 knX6_67 ?_
        refine V_lmul 46 dX6_nextLink_46 ?_
        refine V_ldc2 47 dX6_nextLink_47 knX6_69 ?_
        refine V_lrem 50 dX6_nextLink_50 (by decide) ?_
        refine V_topl (lN (a * 16807 % 2147483647)) (fo_lN ha) ?_
        refine V_putY 51 dX6_nextLink_51 fpX6_143 hX.1 (fun h hM => ?_)
        replace hX := hX.y hM
        refine V_aload_n 54 dX6_nextLink_54 rfl ?_
        refine V_iload_n 55 dX6_nextLink_55 rfl ?_
        refine V_aload_n 56 dX6_nextLink_56 rfl ?_
        refine V_get 57 dX6_nextLink_57 fdX6_143 (by first | exact hX.1.1.1 | exact hX.1.1.2.1 | exact hX.1.1.2.2.1 | exact hX.1.1.2.2.2.1 | exact hX.1.1.2.2.2.2.1 | exact hX.1.1.2.2.2.2.2.1 | exact hX.1.1.2.2.2.2.2.2.1 | exact hX.1.1.2.2.2.2.2.2.2.1 | exact hX.1.1.2.2.2.2.2.2.2.2.1 | exact hX.1.1.2.2.2.2.2.2.2.2.2.1 | exact hX.1.1.2.2.2.2.2.2.2.2.2.2) rfl ?_
        refine V_topl (lN (a * 16807 % 2147483647)) rfl ?_
        refine V_iload 60 dX6_nextLink_60 rfl ?_
        refine V_i2l 62 dX6_nextLink_62 ?_
        refine V_lrem 63 dX6_nextLink_63 (nI_l0 (blE_pos hx) (by have := blE_le E Q.1; omega)) ?_
        refine V_l2i 64 dX6_nextLink_64 ?_
        refine V_iv2 65 dX6_nextLink_65 kvX6_140 rfl (by first | exact hX.1.1.1 | exact hX.1.1.2.1 | exact hX.1.1.2.2.1 | exact hX.1.1.2.2.2.1 | exact hX.1.1.2.2.2.2.1 | exact hX.1.1.2.2.2.2.2.1 | exact hX.1.1.2.2.2.2.2.2.1 | exact hX.1.1.2.2.2.2.2.2.2.1 | exact hX.1.1.2.2.2.2.2.2.2.2.1 | exact hX.1.1.2.2.2.2.2.2.2.2.2.1 | exact hX.1.1.2.2.2.2.2.2.2.2.2.2) rfl rfl (c_X6_linkBy hX ?_)
        refine V_iret 68 dX6_nextLink_68 ?_
        rw [ln_3 hn hx (by omega)]
        exact k3 c_35 h hX
    · refine V_aload_n 23 dX6_nextLink_23 rfl ?_
      refine V_iload_n 24 dX6_nextLink_24 rfl ?_
      refine V_iload 25 dX6_nextLink_25 rfl ?_
      refine V_iconstv 27 (1) dX6_nextLink_27 (by decide) ?_
      refine V_isub 28 dX6_nextLink_28 ?_
      refine V_iv2 29 dX6_nextLink_29 kvX6_140 rfl (by first | exact hX.1.1.1 | exact hX.1.1.2.1 | exact hX.1.1.2.2.1 | exact hX.1.1.2.2.2.1 | exact hX.1.1.2.2.2.2.1 | exact hX.1.1.2.2.2.2.2.1 | exact hX.1.1.2.2.2.2.2.2.1 | exact hX.1.1.2.2.2.2.2.2.2.1 | exact hX.1.1.2.2.2.2.2.2.2.2.1 | exact hX.1.1.2.2.2.2.2.2.2.2.2.1 | exact hX.1.1.2.2.2.2.2.2.2.2.2.2) rfl rfl (c_X6_linkBy hX ?_)
      refine V_iret 32 dX6_nextLink_32 ?_
      rw [ln_1 hn]
      have e : chE E Q.1 x j y = gbE E Q.1 := by unfold chE; rw [if_neg c_8, if_pos c_20]
      rw [← e]
      exact k0 (fun q => absurd (c_20.symm.trans q) (by decide))
  · refine V_aload_n 11 dX6_nextLink_11 rfl ?_
    refine V_iload_n 12 dX6_nextLink_12 rfl ?_
    refine V_iconstv 13 (0) dX6_nextLink_13 (by decide) ?_
    refine V_iv2 14 dX6_nextLink_14 kvX6_140 rfl (by first | exact hX.1.1.1 | exact hX.1.1.2.1 | exact hX.1.1.2.2.1 | exact hX.1.1.2.2.2.1 | exact hX.1.1.2.2.2.2.1 | exact hX.1.1.2.2.2.2.2.1 | exact hX.1.1.2.2.2.2.2.2.1 | exact hX.1.1.2.2.2.2.2.2.2.1 | exact hX.1.1.2.2.2.2.2.2.2.2.1 | exact hX.1.1.2.2.2.2.2.2.2.2.2.1 | exact hX.1.1.2.2.2.2.2.2.2.2.2.2) rfl rfl (c_X6_linkBy hX ?_)
    refine V_iret 17 dX6_nextLink_17 ?_
    rw [ln_0 hn hx]
    have e : chE E Q.1 x j y = lbE E Q.1 0 := if_pos c_8
    rw [← e]
    exact k0 (fun q => absurd (c_8.symm.trans q) (by decide))
end M32
