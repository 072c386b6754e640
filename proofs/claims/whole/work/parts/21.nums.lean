def pwN (v : Int64) : Nat → Int64
  | 0 => 1
  | n + 1 => pwN v n * v
def chN (a b : Nat) : Nat → Int64
  | 0 => 1
  | i + 1 => chN a b i * (nI (a - b + (i + 1))).toInt64 / (nI (i + 1)).toInt64
def cdE : Nat → Int64 → Int64 → Int64
  | 0, x, _ => x
  | m + 1, x, y => if y = 0 then x else cdE m y (x - x / y * y)
def lwP (num den : Int64) (f : Int32) : Int64 := if f = 0 then den else num
def lwE (num den : Int64) (f : Int32) : Int64 := if cdE 200 num den = 0 then lwP num den f else lwP num den f / cdE 200 num den
def wlS (a b : Nat) : Nat → Int64
  | 0 => 0
  | i + 1 => wlS a b i + pwN (nI i).toInt64 (a - b)
def wlN (a b c : Nat) : Int64 := wlS a b c * chN a b b
def smN (n : Nat) : Nat → Int64
  | 0 => 0
  | i + 1 => smN n i + (if nI n < nI (i + 1) then 0 else (nI n * 60 / nI (i + 1)).toInt64)
/-- the inner sum of a draw -/
def w1S (f : Nat → Int64) (j c : Nat) : Nat → Int64
  | 0 => 0
  | i + 1 => w1S f j c i + wlN j (i + 1) c * f (i + 1)
def w1V (f : Nat → Int64) (c j : Nat) : Int64 := w1S f j c j * pwN (nI c).toInt64 (5 - j)
def w1A (f : Nat → Int64) (c : Nat) : Nat → (Nat → Int64)
  | 0 => fun _ => 0
  | i + 1 => vp_updL (w1A f c i) (i + 1) (w1V f c (i + 1))
def w1B : Nat → Int64 := vp_updL (vp_updL (vp_updL (vp_updL (vp_updL (vp_updL (fun _ => 0) 0 0) 1 1) 2 0) 3 0) 4 0) 5 0
def w1N (c : Nat) : Nat → (Nat → Int64)
  | 0 => w1B
  | t + 1 => w1A (w1N c t) c 5
theorem nI_l0 {n : Nat} (h : 0 < n) (h2 : n < 1000) : ¬ (nI n).toInt64 = 0 := by
  rw [nI_l (by omega)]
  intro q
  have := (lN_eq (a := n) (b := 0) (by omega) (by omega)).mp q
  omega
section M21
variable {l : Launch} {G : zGT} {h h0 : hpT} {sz : Nat} {Post : Option Value → hpT → Nat → Prop}
theorem V_bud {own : String} {cc : ByteArray} {nL : Nat} {rt : Option FieldType} {ini : Bool} {d kc ks kc' ks' pc : Nat} {lv : List (Option Value)} {st : List Value} (h1 : kc ≤ kc') (h2 : ks ≤ ks') (k : V l G own cc nL rt ini d kc ks Post pc lv st h sz) : V l G own cc nL rt ini d kc' ks' Post pc lv st h sz := fun p e R s m args below meth c A B H locs cells slots ls hH hl g1 g2 => k p e R s m args below meth c A B H locs cells slots ls hH hl (by omega) (by omega)
theorem V_lastk {own : String} {cc : ByteArray} {nL : Nat} {rt : Option FieldType} {ini : Bool} {d kc ks : Nat} {lv : List (Option Value)} {st : List Value} (pc j : Nat) {a n : Nat} {f : Nat → Int64} {i : Int32} {x : Int64} (hj : i.toNatClampNeg = j) (hd : decode cc pc = .ok (.lastore, 1)) (ha : h a = some (aJ G n f)) (hin : vp_in i n) (kk : ∀ h1, h1 a = some (aJ G n (vp_updL f j x)) → Fr a 1 h h1 → V l G own cc nL rt ini d kc ks Post (pc + 1) lv st h1 sz) : V l G own cc nL rt ini d kc ks Post pc lv (.long x :: .int i :: .ref a :: st) h sz := by
  subst hj
  exact V_last pc hd ha hin (kk _ (hpS_self _ _ _) (Fr1 _ _ _))
set_option maxHeartbeats 1000000 in
set_option maxRecDepth 100000 in
theorem lp_X5_power {v : Int64} (n : Nat) (hn : n < 1000) (k : Post (some (.long (pwN v n))) h sz) : ∀ i, i ≤ n → V l G RX5 cX5_power 6 (some .long) false 0 0 0 Post 5 [some (.long v), none, some (.int (nI n)), some (.long (pwN v i)), none, some (.int (nI i))] [] h sz := by
  refine up_ind n (fun i hi ih => ?_)
  refine V_iload 5 dX5_power_5 rfl ?_
  refine V_iload_n 7 dX5_power_7 rfl ?_
  refine V_icmp_ge 8 21 dX5_power_8 rfl (fun c_8 => ?_) (fun c_8 => ?_)
  · have e_8 : i = n := Nat.le_antisymm hi ((nI_leI (by omega) (by omega)).mp c_8)
    subst e_8
    refine V_lload_n 21 dX5_power_21 rfl ?_
    refine V_lret 22 dX5_power_22 ?_
    exact k
  · have e_8 : i < n := Nat.lt_of_not_le (fun q => c_8 (nI_le q (by omega)))
    refine V_lload_n 11 dX5_power_11 rfl ?_
    refine V_lload_n 12 dX5_power_12 rfl ?_
    refine V_lmul 13 dX5_power_13 ?_
    refine V_lstore_n 14 dX5_power_14 rfl rfl ?_
    refine V_iinc 15 (nI (i + 1)) dX5_power_15 rfl (nI_inc i) rfl rfl ?_
    refine V_goto 18 5 dX5_power_18 rfl ?_
    exact ih (i + 1) rfl (by omega)
set_option maxHeartbeats 1000000 in
set_option maxRecDepth 100000 in
theorem c_X5_power {v : Int64} (n : Nat) (hn : n < 1000) (k : Post (some (.long (pwN v n))) h sz) : Cn l G yX5_power cX5_power 6 (some .long) 0 0 0 [.long v, .int (nI n)] h sz Post := by
  refine Cn.of RX5 false (by decide) rfl (fun q => by cases q) (Nat.le_of_ble_eq_true rfl) ?_
  refine V_lconstv 0 1 dX5_power_0 (by decide) ?_
  refine V_lstore_n 1 dX5_power_1 rfl rfl ?_
  refine V_iconstv 2 (0) dX5_power_2 (by decide) ?_
  refine V_istore 3 dX5_power_3 rfl rfl ?_
  exact lp_X5_power n hn k 0 (Nat.zero_le _)
set_option maxHeartbeats 1000000 in
set_option maxRecDepth 100000 in
theorem lp_X5_choices (a b : Nat) (hb : b ≤ a) (ha : a < 100) (k : Post (some (.long (chN a b b))) h sz) : ∀ i, i ≤ b → V l G RX5 cX5_choices 5 (some .long) false 0 0 0 Post 5 [some (.int (nI a)), some (.int (nI b)), some (.long (chN a b i)), none, some (.int (nI (i + 1)))] [] h sz := by
  refine up_ind b (fun i hi ih => ?_)
  refine V_iload 5 dX5_choices_5 rfl ?_
  refine V_iload_n 7 dX5_choices_7 rfl ?_
  refine V_icmp_gt 8 31 dX5_choices_8 rfl (fun c_8 => ?_) (fun c_8 => ?_)
  · have e_8 : i = b := by
      have := (nI_ltI (by omega) (by omega)).mp c_8
      omega
    subst e_8
    refine V_lload_n 31 dX5_choices_31 rfl ?_
    refine V_lret 32 dX5_choices_32 ?_
    exact k
  · have e_8 : i < b := by
      rcases Nat.lt_or_ge i b with q | q
      · exact q
      · exact absurd (nI_lt (by omega) (by omega)) c_8
    refine V_lload_n 11 dX5_choices_11 rfl ?_
    refine V_iload_n 12 dX5_choices_12 rfl ?_
    refine V_iload_n 13 dX5_choices_13 rfl ?_
    refine V_isub 14 dX5_choices_14 ?_
    refine V_topi (nI (a - b)) (pk_sub hb) ?_
    refine V_iload 15 dX5_choices_15 rfl ?_
    refine V_iadd 17 dX5_choices_17 ?_
    refine V_topi (nI (a - b + (i + 1))) (nI_add _ _) ?_
    refine V_i2l 18 dX5_choices_18 ?_
    refine V_lmul 19 dX5_choices_19 ?_
    refine V_iload 20 dX5_choices_20 rfl ?_
    refine V_i2l 22 dX5_choices_22 ?_
    refine V_ldiv 23 dX5_choices_23 (nI_l0 (by omega) (by omega)) ?_
    refine V_lstore_n 24 dX5_choices_24 rfl rfl ?_
    refine V_iinc 25 (nI (i + 1 + 1)) dX5_choices_25 rfl (nI_inc (i + 1)) rfl rfl ?_
    refine V_goto 28 5 dX5_choices_28 rfl ?_
    exact ih (i + 1) rfl (by omega)
set_option maxHeartbeats 1000000 in
set_option maxRecDepth 100000 in
theorem c_X5_choices (a b : Nat) (hb : b ≤ a) (ha : a < 100) (k : Post (some (.long (chN a b b))) h sz) : Cn l G yX5_choices cX5_choices 5 (some .long) 0 0 0 [.int (nI a), .int (nI b)] h sz Post := by
  refine Cn.of RX5 false (by decide) rfl (fun q => by cases q) (Nat.le_of_ble_eq_true rfl) ?_
  refine V_lconstv 0 1 dX5_choices_0 (by decide) ?_
  refine V_lstore_n 1 dX5_choices_1 rfl rfl ?_
  refine V_iconstv 2 (1) dX5_choices_2 (by decide) ?_
  refine V_istore 3 dX5_choices_3 rfl rfl ?_
  exact lp_X5_choices a b hb ha k 0 (Nat.zero_le _)
set_option maxHeartbeats 1000000 in
set_option maxRecDepth 100000 in
theorem lp_X5_commonDivisor {a b : Int64} : ∀ (m i : Nat) (x y : Int64) (v9 : Option Value), i + m = 200 → Post (some (.long (cdE m x y))) h sz → V l G RX5 cX5_commonDivisor 11 (some .long) false 0 0 0 Post 9 [some (.long a), none, some (.long b), none, some (.long x), none, some (.long y), none, some (.int (nI i)), v9, none] [] h sz := by
  intro m
  induction m with
  | zero =>
    intro i x y v9 hi k
    have e : i = 200 := by omega
    subst e
    refine V_iload 9 dX5_commonDivisor_9 rfl ?_
    refine V_sipushv 11 (200) dX5_commonDivisor_11 (by decide) ?_
    refine V_icmp_ge 14 45 dX5_commonDivisor_14 rfl (fun _ => ?_) (fun q => absurd (show (200 : Int32) ≤ nI 200 by decide) q)
    refine V_lload 45 dX5_commonDivisor_45 rfl ?_
    refine V_lret 47 dX5_commonDivisor_47 ?_
    exact k
  | succ m ih =>
    intro i x y v9 hi k
    rw [cdE] at k
    refine V_iload 9 dX5_commonDivisor_9 rfl ?_
    refine V_sipushv 11 (200) dX5_commonDivisor_11 (by decide) ?_
    refine V_icmp_ge 14 45 dX5_commonDivisor_14 rfl (fun q => absurd q (nI_ge (b := 200) (by omega) (by omega))) (fun _ => ?_)
    refine V_lload 17 dX5_commonDivisor_17 rfl ?_
    refine V_lconstv 19 0 dX5_commonDivisor_19 (by decide) ?_
    refine V_lcmp 20 dX5_commonDivisor_20 ?_
    refine V_if_eq 21 45 dX5_commonDivisor_21 rfl (fun c_21 => ?_) (fun c_21 => ?_)
    · rw [if_pos ((lg_cmp_eq _ _).mp c_21)] at k
      refine V_lload 45 dX5_commonDivisor_45 rfl ?_
      refine V_lret 47 dX5_commonDivisor_47 ?_
      exact k
    · have e_21 : ¬ y = 0 := fun q => c_21 ((lg_cmp_eq _ _).mpr q)
      rw [if_neg e_21] at k
      refine V_lload 24 dX5_commonDivisor_24 rfl ?_
      refine V_lload 26 dX5_commonDivisor_26 rfl ?_
      refine V_lrem 28 dX5_commonDivisor_28 e_21 ?_
      refine V_lstore 29 dX5_commonDivisor_29 rfl rfl ?_
      refine V_lload 31 dX5_commonDivisor_31 rfl ?_
      refine V_lstore 33 dX5_commonDivisor_33 rfl rfl ?_
      refine V_lload 35 dX5_commonDivisor_35 rfl ?_
      refine V_lstore 37 dX5_commonDivisor_37 rfl rfl ?_
      refine V_iinc 39 (nI (i + 1)) dX5_commonDivisor_39 rfl (nI_inc i) rfl rfl ?_
      refine V_goto 42 9 dX5_commonDivisor_42 rfl ?_
      exact ih (i + 1) y _ _ (by omega) k
set_option maxHeartbeats 1000000 in
set_option maxRecDepth 100000 in
theorem c_X5_commonDivisor {a b : Int64} (k : Post (some (.long (cdE 200 a b))) h sz) : Cn l G yX5_commonDivisor cX5_commonDivisor 11 (some .long) 0 0 0 [.long a, .long b] h sz Post := by
  refine Cn.of RX5 false (by decide) rfl (fun q => by cases q) (Nat.le_of_ble_eq_true rfl) ?_
  refine V_lload_n 0 dX5_commonDivisor_0 rfl ?_
  refine V_lstore 1 dX5_commonDivisor_1 rfl rfl ?_
  refine V_lload_n 3 dX5_commonDivisor_3 rfl ?_
  refine V_lstore 4 dX5_commonDivisor_4 rfl rfl ?_
  refine V_iconstv 6 (0) dX5_commonDivisor_6 (by decide) ?_
  refine V_istore 7 dX5_commonDivisor_7 rfl rfl ?_
  exact V_lvw (zget_pad _) (V_lvw (zget_pad _) (lp_X5_commonDivisor 200 0 a b none (by omega) k))
set_option maxHeartbeats 1000000 in
set_option maxRecDepth 100000 in
theorem c_X5_lowest {a b : Int64} {f : Int32} (k : Post (some (.long (lwE a b f))) h sz) : Cn l G yX5_lowest cX5_lowest 9 (some .long) 1 0 0 [.long a, .long b, .int f] h sz Post := by
  refine Cn.of RX5 false (by decide) rfl (fun q => by cases q) (Nat.le_of_ble_eq_true rfl) ?_
  refine V_lload_n 0 dX5_lowest_0 rfl ?_
  refine V_lload_n 1 dX5_lowest_1 rfl ?_
  refine V_is2 2 dX5_lowest_2 ksX5_213 rfl rfl (c_X5_commonDivisor ?_)
  refine V_lstore 5 dX5_lowest_5 rfl rfl ?_
  refine V_iload 7 dX5_lowest_7 rfl ?_
  refine V_if_eq 9 16 dX5_lowest_9 rfl (fun c_9 => ?_) (fun c_9 => ?_)
  · refine V_lload_n 16 dX5_lowest_16 rfl ?_
    refine V_topl (lwP a b f) (by first | exact (if_pos c_9).symm | exact (if_neg c_9).symm) ?_
    refine V_lstore 17 dX5_lowest_17 rfl rfl ?_
    refine V_lload 19 dX5_lowest_19 rfl ?_
    refine V_lconstv 21 0 dX5_lowest_21 (by decide) ?_
    refine V_lcmp 22 dX5_lowest_22 ?_
    refine V_if_ne 23 31 dX5_lowest_23 rfl (fun c_23 => ?_) (fun c_23 => ?_)
    · refine V_lload 31 dX5_lowest_31 rfl ?_
      refine V_lload 33 dX5_lowest_33 rfl ?_
      refine V_ldiv 35 dX5_lowest_35 (fun q => c_23 ((lg_cmp_eq _ _).mpr q)) ?_
      refine V_lret 36 dX5_lowest_36 ?_
      unfold lwE at k
      first | (rw [if_pos ((lg_cmp_eq _ _).mp c_23)] at k; exact k) | (rw [if_neg (fun q => c_23 ((lg_cmp_eq _ _).mpr q))] at k; exact k)
    · refine V_lload 26 dX5_lowest_26 rfl ?_
      refine V_goto 28 36 dX5_lowest_28 rfl ?_
      refine V_lret 36 dX5_lowest_36 ?_
      unfold lwE at k
      first | (rw [if_pos ((lg_cmp_eq _ _).mp c_23)] at k; exact k) | (rw [if_neg (fun q => c_23 ((lg_cmp_eq _ _).mpr q))] at k; exact k)
  · refine V_lload_n 12 dX5_lowest_12 rfl ?_
    refine V_goto 13 17 dX5_lowest_13 rfl ?_
    refine V_topl (lwP a b f) (by first | exact (if_pos c_9).symm | exact (if_neg c_9).symm) ?_
    refine V_lstore 17 dX5_lowest_17 rfl rfl ?_
    refine V_lload 19 dX5_lowest_19 rfl ?_
    refine V_lconstv 21 0 dX5_lowest_21 (by decide) ?_
    refine V_lcmp 22 dX5_lowest_22 ?_
    refine V_if_ne 23 31 dX5_lowest_23 rfl (fun c_23 => ?_) (fun c_23 => ?_)
    · refine V_lload 31 dX5_lowest_31 rfl ?_
      refine V_lload 33 dX5_lowest_33 rfl ?_
      refine V_ldiv 35 dX5_lowest_35 (fun q => c_23 ((lg_cmp_eq _ _).mpr q)) ?_
      refine V_lret 36 dX5_lowest_36 ?_
      unfold lwE at k
      first | (rw [if_pos ((lg_cmp_eq _ _).mp c_23)] at k; exact k) | (rw [if_neg (fun q => c_23 ((lg_cmp_eq _ _).mpr q))] at k; exact k)
    · refine V_lload 26 dX5_lowest_26 rfl ?_
      refine V_goto 28 36 dX5_lowest_28 rfl ?_
      refine V_lret 36 dX5_lowest_36 ?_
      unfold lwE at k
      first | (rw [if_pos ((lg_cmp_eq _ _).mp c_23)] at k; exact k) | (rw [if_neg (fun q => c_23 ((lg_cmp_eq _ _).mpr q))] at k; exact k)
set_option maxHeartbeats 1000000 in
set_option maxRecDepth 100000 in
theorem lp_X5_waysToLeave (a b c : Nat) (hb : b ≤ a) (ha : a < 100) (hc : c < 100) (k : Post (some (.long (wlN a b c))) h sz) : ∀ i, i ≤ c → V l G RX5 cX5_waysToLeave 6 (some .long) false 1 0 0 Post 5 [some (.int (nI a)), some (.int (nI b)), some (.int (nI c)), some (.long (wlS a b i)), none, some (.int (nI (i + 1)))] [] h sz := by
  refine up_ind c (fun i hi ih => ?_)
  refine V_iload 5 dX5_waysToLeave_5 rfl ?_
  refine V_iload_n 7 dX5_waysToLeave_7 rfl ?_
  refine V_icmp_gt 8 31 dX5_waysToLeave_8 rfl (fun c_8 => ?_) (fun c_8 => ?_)
  · have e_8 : i = c := by
      have := (nI_ltI (by omega) (by omega)).mp c_8
      omega
    subst e_8
    refine V_lload_n 31 dX5_waysToLeave_31 rfl ?_
    refine V_iload_n 32 dX5_waysToLeave_32 rfl ?_
    refine V_iload_n 33 dX5_waysToLeave_33 rfl ?_
    refine V_is2 34 dX5_waysToLeave_34 ksX5_209 rfl rfl (c_X5_choices a b hb ha ?_)
    refine V_lmul 37 dX5_waysToLeave_37 ?_
    refine V_lret 38 dX5_waysToLeave_38 ?_
    exact k
  · have e_8 : i < c := by
      rcases Nat.lt_or_ge i c with q | q
      · exact q
      · exact absurd (nI_lt (by omega) (by omega)) c_8
    refine V_lload_n 11 dX5_waysToLeave_11 rfl ?_
    refine V_iload 12 dX5_waysToLeave_12 rfl ?_
    refine V_iconstv 14 (1) dX5_waysToLeave_14 (by decide) ?_
    refine V_isub 15 dX5_waysToLeave_15 ?_
    refine V_topi (nI i) (nI_pred i) ?_
    refine V_i2l 16 dX5_waysToLeave_16 ?_
    refine V_iload_n 17 dX5_waysToLeave_17 rfl ?_
    refine V_iload_n 18 dX5_waysToLeave_18 rfl ?_
    refine V_isub 19 dX5_waysToLeave_19 ?_
    refine V_topi (nI (a - b)) (pk_sub hb) ?_
    refine V_is2 20 dX5_waysToLeave_20 ksX5_195 rfl rfl (c_X5_power (a - b) (by omega) ?_)
    refine V_ladd 23 dX5_waysToLeave_23 ?_
    refine V_lstore_n 24 dX5_waysToLeave_24 rfl rfl ?_
    refine V_iinc 25 (nI (i + 1 + 1)) dX5_waysToLeave_25 rfl (nI_inc (i + 1)) rfl rfl ?_
    refine V_goto 28 5 dX5_waysToLeave_28 rfl ?_
    exact ih (i + 1) rfl (by omega)
set_option maxHeartbeats 1000000 in
set_option maxRecDepth 100000 in
theorem c_X5_waysToLeave (a b c : Nat) (hb : b ≤ a) (ha : a < 100) (hc : c < 100) (k : Post (some (.long (wlN a b c))) h sz) : Cn l G yX5_waysToLeave cX5_waysToLeave 6 (some .long) 1 0 0 [.int (nI a), .int (nI b), .int (nI c)] h sz Post := by
  refine Cn.of RX5 false (by decide) rfl (fun q => by cases q) (Nat.le_of_ble_eq_true rfl) ?_
  refine V_lconstv 0 0 dX5_waysToLeave_0 (by decide) ?_
  refine V_lstore_n 1 dX5_waysToLeave_1 rfl rfl ?_
  refine V_iconstv 2 (1) dX5_waysToLeave_2 (by decide) ?_
  refine V_istore 3 dX5_waysToLeave_3 rfl rfl ?_
  exact lp_X5_waysToLeave a b c hb ha hc k 0 (Nat.zero_le _)
set_option maxHeartbeats 1000000 in
set_option maxRecDepth 100000 in
theorem lp_X5_sixtiethsOfMean (n : Nat) (k : Post (some (.long (smN n 6))) h sz) : ∀ i, i ≤ 6 → V l G RX5 cX5_sixtiethsOfMean 4 (some .long) false 0 0 0 Post 4 [some (.int (nI n)), some (.long (smN n i)), none, some (.int (nI (i + 1)))] [] h sz := by
  refine up_ind 6 (fun i hi ih => ?_)
  refine V_iload_n 4 dX5_sixtiethsOfMean_4 rfl ?_
  refine V_bipushv 5 (6) dX5_sixtiethsOfMean_5 (by decide) ?_
  refine V_icmp_gt 7 35 dX5_sixtiethsOfMean_7 rfl (fun c_7 => ?_) (fun c_7 => ?_)
  · have e_7 : i = 6 := by
      have := (nI_ltI (a := 6) (by omega) (by omega)).mp c_7
      omega
    subst e_7
    refine V_lload_n 35 dX5_sixtiethsOfMean_35 rfl ?_
    refine V_lret 36 dX5_sixtiethsOfMean_36 ?_
    exact k
  · have e_7 : i < 6 := by
      rcases Nat.lt_or_ge i 6 with q | q
      · exact q
      · exact absurd (nI_lt (a := 6) (b := i + 1) (by omega) (by omega)) c_7
    refine V_lload_n 10 dX5_sixtiethsOfMean_10 rfl ?_
    refine V_iload_n 11 dX5_sixtiethsOfMean_11 rfl ?_
    refine V_iload_n 12 dX5_sixtiethsOfMean_12 rfl ?_
    refine V_icmp_gt 13 26 dX5_sixtiethsOfMean_13 rfl (fun c_13 => ?_) (fun c_13 => ?_)
    · refine V_lconstv 26 0 dX5_sixtiethsOfMean_26 (by decide) ?_
      refine V_ladd 27 dX5_sixtiethsOfMean_27 ?_
      refine V_topl (smN n (i + 1)) (by rw [smN]; first | rw [if_pos c_13] | rw [if_neg c_13]) ?_
      refine V_lstore_n 28 dX5_sixtiethsOfMean_28 rfl rfl ?_
      refine V_iinc 29 (nI (i + 1 + 1)) dX5_sixtiethsOfMean_29 rfl (nI_inc (i + 1)) rfl rfl ?_
      refine V_goto 32 4 dX5_sixtiethsOfMean_32 rfl ?_
      exact ih (i + 1) rfl (by omega)
    · refine V_iload_n 16 dX5_sixtiethsOfMean_16 rfl ?_
      refine V_bipushv 17 (60) dX5_sixtiethsOfMean_17 (by decide) ?_
      refine V_imul 19 dX5_sixtiethsOfMean_19 ?_
      refine V_iload_n 20 dX5_sixtiethsOfMean_20 rfl ?_
      refine V_idiv 21 dX5_sixtiethsOfMean_21 (nI_ne0 (by omega) (by omega)) ?_
      refine V_i2l 22 dX5_sixtiethsOfMean_22 ?_
      refine V_goto 23 27 dX5_sixtiethsOfMean_23 rfl ?_
      refine V_ladd 27 dX5_sixtiethsOfMean_27 ?_
      refine V_topl (smN n (i + 1)) (by rw [smN]; first | rw [if_pos c_13] | rw [if_neg c_13]) ?_
      refine V_lstore_n 28 dX5_sixtiethsOfMean_28 rfl rfl ?_
      refine V_iinc 29 (nI (i + 1 + 1)) dX5_sixtiethsOfMean_29 rfl (nI_inc (i + 1)) rfl rfl ?_
      refine V_goto 32 4 dX5_sixtiethsOfMean_32 rfl ?_
      exact ih (i + 1) rfl (by omega)
set_option maxHeartbeats 1000000 in
set_option maxRecDepth 100000 in
theorem c_X5_sixtiethsOfMean (n : Nat) (k : Post (some (.long (smN n 6))) h sz) : Cn l G yX5_sixtiethsOfMean cX5_sixtiethsOfMean 4 (some .long) 0 0 0 [.int (nI n)] h sz Post := by
  refine Cn.of RX5 false (by decide) rfl (fun q => by cases q) (Nat.le_of_ble_eq_true rfl) ?_
  refine V_lconstv 0 0 dX5_sixtiethsOfMean_0 (by decide) ?_
  refine V_lstore_n 1 dX5_sixtiethsOfMean_1 rfl rfl ?_
  refine V_iconstv 2 (1) dX5_sixtiethsOfMean_2 (by decide) ?_
  refine V_istore_n 3 dX5_sixtiethsOfMean_3 rfl rfl ?_
  exact lp_X5_sixtiethsOfMean n k 0 (Nat.zero_le _)
set_option maxHeartbeats 1000000 in
set_option maxRecDepth 100000 in
theorem lp_X5_waysToOne_3 {kc ks b a : Nat} {x0 x2 x4 : Int32} {f : Nat → Int64} (c j : Nat) (hc : c < 100) (hj : j ≤ 5) (hb : h b = some (aJ G 6 f)) (k : V l G RX5 cX5_waysToOne 10 (some .long) false 2 kc ks Post 90 [some (.int x0), some (.int (nI c)), some (.int x2), some (.ref b), some (.int x4), some (.ref a), some (.int (nI j)), some (.long (w1S f j c j)), none, some (.int (nI (j + 1)))] [] h sz) : ∀ i, i ≤ j → V l G RX5 cX5_waysToOne 10 (some .long) false 2 kc ks Post 59 [some (.int x0), some (.int (nI c)), some (.int x2), some (.ref b), some (.int x4), some (.ref a), some (.int (nI j)), some (.long (w1S f j c i)), none, some (.int (nI (i + 1)))] [] h sz := by
  refine up_ind j (fun i hi ih => ?_)
  refine V_iload 59 dX5_waysToOne_59 rfl ?_
  refine V_iload 61 dX5_waysToOne_61 rfl ?_
  refine V_icmp_gt 63 90 dX5_waysToOne_63 rfl (fun c_63 => ?_) (fun c_63 => ?_)
  · have e_63 : i = j := by
      have := (nI_ltI (by omega) (by omega)).mp c_63
      omega
    subst e_63
    exact k
  · have e_63 : i < j := by
      rcases Nat.lt_or_ge i j with q | q
      · exact q
      · exact absurd (nI_lt (by omega) (by omega)) c_63
    refine V_lload 66 dX5_waysToOne_66 rfl ?_
    refine V_iload 68 dX5_waysToOne_68 rfl ?_
    refine V_iload 70 dX5_waysToOne_70 rfl ?_
    refine V_iload_n 72 dX5_waysToOne_72 rfl ?_
    refine V_is3 73 dX5_waysToOne_73 ksX5_206 rfl rfl (c_X5_waysToLeave j (i + 1) c (by omega) (by omega) hc ?_)
    refine V_aload_n 76 dX5_waysToOne_76 rfl ?_
    refine V_iload 77 dX5_waysToOne_77 rfl ?_
    refine V_lald 79 dX5_waysToOne_79 (by exact hb) (vp_in_nI (by omega) (by decide)) ?_
    rw [nI_clamp (by omega)]
    refine V_lmul 80 dX5_waysToOne_80 ?_
    refine V_ladd 81 dX5_waysToOne_81 ?_
    refine V_lstore 82 dX5_waysToOne_82 rfl rfl ?_
    refine V_iinc 84 (nI (i + 1 + 1)) dX5_waysToOne_84 rfl (nI_inc (i + 1)) rfl rfl ?_
    refine V_goto 87 59 dX5_waysToOne_87 rfl ?_
    exact ih (i + 1) rfl (by omega)
set_option maxHeartbeats 1000000 in
set_option maxRecDepth 100000 in
theorem lp_X5_waysToOne_2 {kc ks b a s0 : Nat} {x0 x2 x4 : Int32} {f : Nat → Int64} (c : Nat) (hc : c < 100) (hab : ¬ b = a) (hsa : s0 ≤ a) (k : ∀ h, h a = some (aJ G 6 (w1A f c 5)) → (∀ q, q < s0 → h q = h0 q) → V l G RX5 cX5_waysToOne 10 (some .long) false 2 kc ks Post 113 [some (.int x0), some (.int (nI c)), some (.int x2), some (.ref b), some (.int x4), some (.ref a)] [] h sz) : ∀ i, i ≤ 5 → ∀ (h : hpT) (v7 v9 : Option Value), h b = some (aJ G 6 f) → h a = some (aJ G 6 (w1A f c i)) → (∀ q, q < s0 → h q = h0 q) → V l G RX5 cX5_waysToOne 10 (some .long) false 2 kc ks Post 47 [some (.int x0), some (.int (nI c)), some (.int x2), some (.ref b), some (.int x4), some (.ref a), some (.int (nI (i + 1))), v7, none, v9] [] h sz := by
  refine up_ind 5 (fun i hi ih h v7 v9 hb ha hF => ?_)
  refine V_iload 47 dX5_waysToOne_47 rfl ?_
  refine V_iconstv 49 (5) dX5_waysToOne_49 (by decide) ?_
  refine V_icmp_gt 50 113 dX5_waysToOne_50 rfl (fun c_50 => ?_) (fun c_50 => ?_)
  · have e_50 : i = 5 := by
      have := (nI_ltI (a := 5) (by omega) (by omega)).mp c_50
      omega
    subst e_50
    exact V_lvw (fun i v hi => by match i, hi with | 0, hi => exact hi | 1, hi => exact hi | 2, hi => exact hi | 3, hi => exact hi | 4, hi => exact hi | 5, hi => exact hi | n + 6, hi => cases hi) (k h ha hF)
  · have e_50 : i < 5 := by
      rcases Nat.lt_or_ge i 5 with q | q
      · exact q
      · exact absurd (nI_lt (a := 5) (b := i + 1) (by omega) (by omega)) c_50
    refine V_lconstv 53 0 dX5_waysToOne_53 (by decide) ?_
    refine V_lstore 54 dX5_waysToOne_54 rfl rfl ?_
    refine V_iconstv 56 (1) dX5_waysToOne_56 (by decide) ?_
    refine V_istore 57 dX5_waysToOne_57 rfl rfl ?_
    refine lp_X5_waysToOne_3 c (i + 1) hc (by omega) hb ?_ 0 (Nat.zero_le _)
    refine V_aload 90 dX5_waysToOne_90 rfl ?_
    refine V_iload 92 dX5_waysToOne_92 rfl ?_
    refine V_lload 94 dX5_waysToOne_94 rfl ?_
    refine V_iload_n 96 dX5_waysToOne_96 rfl ?_
    refine V_i2l 97 dX5_waysToOne_97 ?_
    refine V_iconstv 98 (5) dX5_waysToOne_98 (by decide) ?_
    refine V_iload 99 dX5_waysToOne_99 rfl ?_
    refine V_isub 101 dX5_waysToOne_101 ?_
    refine V_topi (nI (5 - (i + 1))) (pk_sub (a := 5) (by omega)) ?_
    refine V_is2 102 dX5_waysToOne_102 ksX5_195 rfl rfl (c_X5_power (5 - (i + 1)) (by omega) ?_)
    refine V_lmul 105 dX5_waysToOne_105 ?_
    refine V_lastk 106 (i + 1) (nI_clamp (by omega)) dX5_waysToOne_106 ha (vp_in_nI (by omega) (by decide)) (fun h1 ha1 hF1 => ?_)
    refine V_iinc 107 (nI (i + 1 + 1)) dX5_waysToOne_107 rfl (nI_inc (i + 1)) rfl rfl ?_
    refine V_goto 110 47 dX5_waysToOne_110 rfl ?_
    exact ih (i + 1) rfl (by omega) h1 _ _ (by rw [hF1 b (by omega)]; exact hb) ha1 (fun q hq => by rw [hF1 q (by omega)]; exact hF q hq)
set_option maxHeartbeats 1000000 in
set_option maxRecDepth 100000 in
theorem lp_X5_waysToOne_1 {s0 : Nat} {x0 : Int32} (c M : Nat) (hc : c < 100) (hM : M < 100) (k : ∀ (h : hpT) (b sz : Nat), h b = some (aJ G 6 (w1N c M)) → (∀ q, q < s0 → h q = h0 q) → V l G RX5 cX5_waysToOne 10 (some .long) false 2 0 0 Post 122 [some (.int x0), some (.int (nI c)), some (.int (nI M)), some (.ref b), some (.int (nI (M + 1)))] [] h sz) : ∀ (m i : Nat) (h : hpT) (b sz : Nat) (v5 v6 v7 v9 : Option Value), i + m = M → s0 ≤ sz → b < sz → h b = some (aJ G 6 (w1N c i)) → (∀ q, q < s0 → h q = h0 q) → V l G RX5 cX5_waysToOne 10 (some .long) false 2 m (6 * m) Post 32 [some (.int x0), some (.int (nI c)), some (.int (nI M)), some (.ref b), some (.int (nI (i + 1))), v5, v6, v7, none, v9] [] h sz := by
  intro m
  induction m with
  | zero =>
    intro i h b sz v5 v6 v7 v9 hi hs hb0 hb hF
    have e : i = M := by omega
    subst e
    refine V_iload 32 dX5_waysToOne_32 rfl ?_
    refine V_iload_n 34 dX5_waysToOne_34 rfl ?_
    refine V_icmp_gt 35 122 dX5_waysToOne_35 rfl (fun _ => ?_) (fun q => absurd (nI_lt (by omega) (by omega)) q)
    exact V_lvw (fun i v hi => by match i, hi with | 0, hi => exact hi | 1, hi => exact hi | 2, hi => exact hi | 3, hi => exact hi | 4, hi => exact hi | n + 5, hi => cases hi) (k h b sz hb hF)
  | succ m ih =>
    intro i h b sz v5 v6 v7 v9 hi hs hb0 hb hF
    refine V_iload 32 dX5_waysToOne_32 rfl ?_
    refine V_iload_n 34 dX5_waysToOne_34 rfl ?_
    refine V_icmp_gt 35 122 dX5_waysToOne_35 rfl (fun q => absurd q (nI_nlt (by omega) (by omega))) (fun _ => ?_)
    refine V_bipushv 38 (6) dX5_waysToOne_38 (by decide) ?_
    refine V_newJ 40 6 dX5_waysToOne_40 arr_long (by decide) (by decide) rfl ?_
    refine V_astore 42 dX5_waysToOne_42 rfl rfl ?_
    refine V_iconstv 44 (1) dX5_waysToOne_44 (by decide) ?_
    refine V_istore 45 dX5_waysToOne_45 rfl rfl ?_
    refine lp_X5_waysToOne_2 (h0 := h0) (s0 := s0) c hc (by omega) (by omega) (fun h ha hF => ?_) 0 (by omega) _ _ _ (by rw [hpS_ne _ _ (by omega)]; exact hb) (hpS_self _ _ _) (fun q hq => by rw [hpS_ne _ _ (by omega)]; exact hF q hq)
    refine V_aload 113 dX5_waysToOne_113 rfl ?_
    refine V_astore_n 115 dX5_waysToOne_115 rfl rfl ?_
    refine V_iinc 116 (nI (i + 1 + 1)) dX5_waysToOne_116 rfl (nI_inc (i + 1)) rfl rfl ?_
    refine V_goto 119 32 dX5_waysToOne_119 rfl ?_
    exact V_lvw (zget_pad _) (V_lvw (zget_pad _) (V_lvw (zget_pad _) (V_lvw (zget_pad _) (ih (i + 1) h sz (sz + 1) _ none none none (by omega) (by omega) (by omega) ha hF))))
set_option maxHeartbeats 1000000 in
set_option maxRecDepth 100000 in
theorem c_X5_waysToOne {x0 : Int32} (c M : Nat) (hc : c < 100) (hM : M ≤ 4) (k : ∀ h1 sz1, (∀ q, q < sz → h1 q = h q) → Post (some (.long (if inb x0 6 = true ∧ 1 ≤ x0 then w1N c M x0.toNatClampNeg else 0))) h1 sz1) : Cn l G yX5_waysToOne cX5_waysToOne 10 (some .long) 2 5 30 [.int x0, .int (nI c), .int (nI M)] h sz Post := by
  refine Cn.of RX5 false (by decide) rfl (fun q => by cases q) (Nat.le_of_ble_eq_true rfl) ?_
  refine V_bud (kc := M + 1) (ks := 6 * M + 6) (by omega) (by omega) ?_
  refine V_bipushv 0 (6) dX5_waysToOne_0 (by decide) ?_
  refine V_newJ 2 6 dX5_waysToOne_2 arr_long (by decide) (by decide) rfl ?_
  have ha : hpS h sz (aJ G 6 (fun _ => 0)) sz = some (aJ G 6 (fun _ => 0)) := hpS_self _ _ _
  have hF : ∀ q, q < sz → hpS h sz (aJ G 6 (fun _ => 0)) q = h q := fun q hq => hpS_ne _ _ (by omega)
  refine V_dupr 4 dX5_waysToOne_4 ?_
  refine V_iconstv 5 (0) dX5_waysToOne_5 (by decide) ?_
  refine V_lconstv 6 0 dX5_waysToOne_6 (by decide) ?_
  refine V_lastk 7 0 rfl dX5_waysToOne_7 ha (inb_in (by decide)) (fun h1 ha1 hF1 => ?_)
  replace hF : ∀ q, q < sz → h1 q = h q := fun q hq => by rw [hF1 q (by omega)]; exact hF q hq
  replace ha := ha1
  clear ha1 hF1
  refine V_dupr 8 dX5_waysToOne_8 ?_
  refine V_iconstv 9 (1) dX5_waysToOne_9 (by decide) ?_
  refine V_lconstv 10 1 dX5_waysToOne_10 (by decide) ?_
  refine V_lastk 11 1 rfl dX5_waysToOne_11 ha (inb_in (by decide)) (fun h1 ha1 hF1 => ?_)
  replace hF : ∀ q, q < sz → h1 q = h q := fun q hq => by rw [hF1 q (by omega)]; exact hF q hq
  replace ha := ha1
  clear ha1 hF1
  refine V_dupr 12 dX5_waysToOne_12 ?_
  refine V_iconstv 13 (2) dX5_waysToOne_13 (by decide) ?_
  refine V_lconstv 14 0 dX5_waysToOne_14 (by decide) ?_
  refine V_lastk 15 2 rfl dX5_waysToOne_15 ha (inb_in (by decide)) (fun h1 ha1 hF1 => ?_)
  replace hF : ∀ q, q < sz → h1 q = h q := fun q hq => by rw [hF1 q (by omega)]; exact hF q hq
  replace ha := ha1
  clear ha1 hF1
  refine V_dupr 16 dX5_waysToOne_16 ?_
  refine V_iconstv 17 (3) dX5_waysToOne_17 (by decide) ?_
  refine V_lconstv 18 0 dX5_waysToOne_18 (by decide) ?_
  refine V_lastk 19 3 rfl dX5_waysToOne_19 ha (inb_in (by decide)) (fun h1 ha1 hF1 => ?_)
  replace hF : ∀ q, q < sz → h1 q = h q := fun q hq => by rw [hF1 q (by omega)]; exact hF q hq
  replace ha := ha1
  clear ha1 hF1
  refine V_dupr 20 dX5_waysToOne_20 ?_
  refine V_iconstv 21 (4) dX5_waysToOne_21 (by decide) ?_
  refine V_lconstv 22 0 dX5_waysToOne_22 (by decide) ?_
  refine V_lastk 23 4 rfl dX5_waysToOne_23 ha (inb_in (by decide)) (fun h1 ha1 hF1 => ?_)
  replace hF : ∀ q, q < sz → h1 q = h q := fun q hq => by rw [hF1 q (by omega)]; exact hF q hq
  replace ha := ha1
  clear ha1 hF1
  refine V_dupr 24 dX5_waysToOne_24 ?_
  refine V_iconstv 25 (5) dX5_waysToOne_25 (by decide) ?_
  refine V_lconstv 26 0 dX5_waysToOne_26 (by decide) ?_
  refine V_lastk 27 5 rfl dX5_waysToOne_27 ha (inb_in (by decide)) (fun h1 ha1 hF1 => ?_)
  replace hF : ∀ q, q < sz → h1 q = h q := fun q hq => by rw [hF1 q (by omega)]; exact hF q hq
  replace ha := ha1
  clear ha1 hF1
  refine V_astore_n 28 dX5_waysToOne_28 rfl rfl ?_
  refine V_iconstv 29 (1) dX5_waysToOne_29 (by decide) ?_
  refine V_istore 30 dX5_waysToOne_30 rfl rfl ?_
  refine V_lvw (zget_pad _) (V_lvw (zget_pad _) (V_lvw (zget_pad _) (V_lvw (zget_pad _) (V_lvw (zget_pad _) (lp_X5_waysToOne_1 (h0 := h) (s0 := sz) c M hc (by omega) (fun h2 b2 sz2 hb2 hF2 => ?_) M 0 _ sz (sz + 1) none none none none (by omega) (by omega) (by omega) ha hF)))))
  have K := k h2 sz2 hF2
  refine V_iload_n 122 dX5_waysToOne_122 rfl ?_
  refine V_iconstv 123 (1) dX5_waysToOne_123 (by decide) ?_
  refine V_icmp_lt 124 139 dX5_waysToOne_124 rfl (fun c_124 => ?_) (fun c_124 => ?_)
  · refine V_lconstv 139 0 dX5_waysToOne_139 (by decide) ?_
    refine V_lret 140 dX5_waysToOne_140 ?_
    first | (rw [if_pos ⟨inb_of (N := 6) (by decide) (fun q => c_124 (Int32.lt_trans q (by decide))) c_130, Int32.not_lt.mp c_124⟩] at K; exact K) | (rw [if_neg (fun q => Int32.not_le.mpr c_124 q.2)] at K; exact K) | (rw [if_neg (fun q => by have := q.1; rw [inb_f2 (N := 6) (by decide) c_130] at this; cases this)] at K; exact K)
  · refine V_iload_n 127 dX5_waysToOne_127 rfl ?_
    refine V_aload_n 128 dX5_waysToOne_128 rfl ?_
    refine V_alenJ 129 6 dX5_waysToOne_129 (by exact hb2) rfl ?_
    refine V_icmp_ge 130 139 dX5_waysToOne_130 rfl (fun c_130 => ?_) (fun c_130 => ?_)
    · refine V_lconstv 139 0 dX5_waysToOne_139 (by decide) ?_
      refine V_lret 140 dX5_waysToOne_140 ?_
      first | (rw [if_pos ⟨inb_of (N := 6) (by decide) (fun q => c_124 (Int32.lt_trans q (by decide))) c_130, Int32.not_lt.mp c_124⟩] at K; exact K) | (rw [if_neg (fun q => Int32.not_le.mpr c_124 q.2)] at K; exact K) | (rw [if_neg (fun q => by have := q.1; rw [inb_f2 (N := 6) (by decide) c_130] at this; cases this)] at K; exact K)
    · refine V_aload_n 133 dX5_waysToOne_133 rfl ?_
      refine V_iload_n 134 dX5_waysToOne_134 rfl ?_
      refine V_lald 135 dX5_waysToOne_135 (by exact hb2) (inb_in (inb_of (by decide) (fun q => absurd c_124 (fun w => w (Int32.lt_trans q (by decide)))) c_130)) ?_
      refine V_goto 136 140 dX5_waysToOne_136 rfl ?_
      refine V_lret 140 dX5_waysToOne_140 ?_
      first | (rw [if_pos ⟨inb_of (N := 6) (by decide) (fun q => c_124 (Int32.lt_trans q (by decide))) c_130, Int32.not_lt.mp c_124⟩] at K; exact K) | (rw [if_neg (fun q => Int32.not_le.mpr c_124 q.2)] at K; exact K) | (rw [if_neg (fun q => by have := q.1; rw [inb_f2 (N := 6) (by decide) c_130] at this; cases this)] at K; exact K)
set_option maxHeartbeats 1000000 in
set_option maxRecDepth 100000 in
theorem c_X5_chance {ob : Nat} {m dd kk w : Int32} (k0 : ¬ ((1 ≤ m ∧ m ≤ 5) ∧ (1 ≤ dd ∧ dd ≤ 3) ∧ (0 ≤ kk ∧ kk ≤ 4) ∧ (0 ≤ w ∧ w ≤ 1)) → Post (some (.long (-1000002))) h sz) (k1 : ∀ c M, dd = nI c → kk = nI M → 1 ≤ c → c ≤ 3 → M ≤ 4 → (1 ≤ m ∧ m ≤ 5) → (0 ≤ w ∧ w ≤ 1) → ∀ h1 sz1, (∀ q, q < sz → h1 q = h q) → Post (some (.long (lwE (w1N c M m.toNatClampNeg) (pwN (nI c).toInt64 (5 * M)) (if w = 0 then 1 else 0)))) h1 sz1) : Cn l G yX5_chance cX5_chance 5 (some .long) 3 5 30 [.ref ob, .int m, .int dd, .int kk, .int w] h sz Post := by
  refine Cn.of RX5 false (by decide) rfl (fun q => by cases q) (Nat.le_of_ble_eq_true rfl) ?_
  refine V_iload_n 0 dX5_chance_0 rfl ?_
  refine V_iconstv 1 (1) dX5_chance_1 (by decide) ?_
  refine V_iconstv 2 (5) dX5_chance_2 (by decide) ?_
  refine V_is3 3 dX5_chance_3 ksX5_52 rfl rfl (c_X5_within (fun c_3 => ?_) (fun c_3 => ?_))
  · refine V_if_eq 6 37 dX5_chance_6 rfl (fun q => absurd q (by decide)) (fun _ => ?_)
    refine V_iload_n 9 dX5_chance_9 rfl ?_
    refine V_iconstv 10 (1) dX5_chance_10 (by decide) ?_
    refine V_iconstv 11 (3) dX5_chance_11 (by decide) ?_
    refine V_is3 12 dX5_chance_12 ksX5_52 rfl rfl (c_X5_within (fun c_12 => ?_) (fun c_12 => ?_))
    · refine V_if_eq 15 37 dX5_chance_15 rfl (fun q => absurd q (by decide)) (fun _ => ?_)
      refine V_iload_n 18 dX5_chance_18 rfl ?_
      refine V_iconstv 19 (0) dX5_chance_19 (by decide) ?_
      refine V_iconstv 20 (4) dX5_chance_20 (by decide) ?_
      refine V_is3 21 dX5_chance_21 ksX5_52 rfl rfl (c_X5_within (fun c_21 => ?_) (fun c_21 => ?_))
      · refine V_if_eq 24 37 dX5_chance_24 rfl (fun q => absurd q (by decide)) (fun _ => ?_)
        refine V_iload 27 dX5_chance_27 rfl ?_
        refine V_iconstv 29 (0) dX5_chance_29 (by decide) ?_
        refine V_iconstv 30 (1) dX5_chance_30 (by decide) ?_
        refine V_is3 31 dX5_chance_31 ksX5_52 rfl rfl (c_X5_within (fun c_31 => ?_) (fun c_31 => ?_))
        · refine V_if_ne 34 41 dX5_chance_34 rfl (fun _ => ?_) (fun q => absurd q (by decide))
          obtain ⟨M, hM, rfl⟩ := nI_of2 (M := 4) (n := 4) rfl (Int32.not_lt.mpr c_21.1) c_21.2
          obtain ⟨c, hc, rfl⟩ := nI_of2 (M := 3) (n := 3) rfl (fun q => absurd c_12.1 (Int32.not_le.mpr (Int32.lt_trans q (by decide)))) c_12.2
          have hc1 : 1 ≤ c := (nI_leI (a := 1) (by decide) (by omega)).mp c_12.1
          have hmi : inb m 6 = true ∧ 1 ≤ m := ⟨(inb_le (M := 5) (by decide)).mpr ⟨Int32.le_trans (by decide) c_3.1, c_3.2⟩, c_3.1⟩
          have K := k1 c M rfl rfl hc1 hc hM c_3 c_31
          refine V_iload_n 41 dX5_chance_41 rfl ?_
          refine V_iload_n 42 dX5_chance_42 rfl ?_
          refine V_iload_n 43 dX5_chance_43 rfl ?_
          refine V_callS (kc1 := 5) (ks1 := 30) (kc := 0) (ks := 0) 44 (As := [.int m, .int (nI c), .int (nI M)]) (rest := []) dX5_chance_44 ksX5_191 rfl rfl rfl rfl (c_X5_waysToOne c M (by omega) hM (fun h1 sz1 hF => ?_))
          refine V_topl (w1N c M m.toNatClampNeg) (if_pos hmi) ?_
          replace K := K h1 sz1 hF
          refine V_iload_n 47 dX5_chance_47 rfl ?_
          refine V_i2l 48 dX5_chance_48 ?_
          refine V_iconstv 49 (5) dX5_chance_49 (by decide) ?_
          refine V_iload_n 50 dX5_chance_50 rfl ?_
          refine V_imul 51 dX5_chance_51 ?_
          refine V_topi (nI (5 * M)) (pk_mul 5 M) ?_
          refine V_is2 52 dX5_chance_52 ksX5_195 rfl rfl (c_X5_power (5 * M) (by omega) ?_)
          refine V_iload 55 dX5_chance_55 rfl ?_
          refine V_if_ne 57 64 dX5_chance_57 rfl (fun c_57 => ?_) (fun c_57 => ?_)
          · refine V_iconstv 64 (0) dX5_chance_64 (by decide) ?_
            refine V_is3 65 dX5_chance_65 ksX5_185 rfl rfl (c_X5_lowest ?_)
            refine V_lret 68 dX5_chance_68 ?_
            first | (rw [if_pos c_57] at K; exact K) | (rw [if_neg c_57] at K; exact K)
          · refine V_iconstv 60 (1) dX5_chance_60 (by decide) ?_
            refine V_goto 61 65 dX5_chance_61 rfl ?_
            refine V_is3 65 dX5_chance_65 ksX5_185 rfl rfl (c_X5_lowest ?_)
            refine V_lret 68 dX5_chance_68 ?_
            first | (rw [if_pos c_57] at K; exact K) | (rw [if_neg c_57] at K; exact K)
        · refine V_if_ne 34 41 dX5_chance_34 rfl (fun q => absurd q (by decide)) (fun _ => ?_)
          refine V_ldc2 37 dX5_chance_37 knX5_189 ?_
          refine V_lret 40 dX5_chance_40 ?_
          first | exact k0 (fun q => c_3 q.1) | exact k0 (fun q => c_12 q.2.1) | exact k0 (fun q => c_21 q.2.2.1) | exact k0 (fun q => c_31 q.2.2.2)
      · refine V_if_eq 24 37 dX5_chance_24 rfl (fun _ => ?_) (fun q => absurd q (by decide))
        refine V_ldc2 37 dX5_chance_37 knX5_189 ?_
        refine V_lret 40 dX5_chance_40 ?_
        first | exact k0 (fun q => c_3 q.1) | exact k0 (fun q => c_12 q.2.1) | exact k0 (fun q => c_21 q.2.2.1) | exact k0 (fun q => c_31 q.2.2.2)
    · refine V_if_eq 15 37 dX5_chance_15 rfl (fun _ => ?_) (fun q => absurd q (by decide))
      refine V_ldc2 37 dX5_chance_37 knX5_189 ?_
      refine V_lret 40 dX5_chance_40 ?_
      first | exact k0 (fun q => c_3 q.1) | exact k0 (fun q => c_12 q.2.1) | exact k0 (fun q => c_21 q.2.2.1) | exact k0 (fun q => c_31 q.2.2.2)
  · refine V_if_eq 6 37 dX5_chance_6 rfl (fun _ => ?_) (fun q => absurd q (by decide))
    refine V_ldc2 37 dX5_chance_37 knX5_189 ?_
    refine V_lret 40 dX5_chance_40 ?_
    first | exact k0 (fun q => c_3 q.1) | exact k0 (fun q => c_12 q.2.1) | exact k0 (fun q => c_21 q.2.2.1) | exact k0 (fun q => c_31 q.2.2.2)
end M21
