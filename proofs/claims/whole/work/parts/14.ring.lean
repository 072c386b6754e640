theorem up_ind {P : Nat → Prop} (N : Nat) (hs : ∀ i, i ≤ N → (∀ j, j = i + 1 → j ≤ N → P j) → P i) : ∀ i, i ≤ N → P i := by
  have key : ∀ m i, i ≤ N → N ≤ i + m → P i := by
    intro m
    induction m with
    | zero => exact fun i h1 h2 => hs i h1 (fun j hj hN => by omega)
    | succ m ih => exact fun i h1 h2 => hs i h1 (fun j hj hN => ih j hN (by omega))
  exact fun i h => key N i h (by omega)
theorem nI_inc (a : Nat) : nI a + Int32.ofInt 1 = nI (a + 1) := nI_1 a
theorem nI_lit {v : Int32} {n : Nat} (h : v.toInt = n) : v = nI n := by
  apply Int32.toInt_inj.mp
  rw [h, nI_toInt]
  have := Int32.toInt_lt v
  omega
theorem nI_sub1 {n : Nat} (h : n ≤ 1000) : (nI n - 1).toInt + 1 = n := by
  have e : (1 : Int32) = nI 1 := rfl
  rw [e, pk_sub_toInt (by omega) (by omega)]
  omega
theorem inb_sub1 {n : Nat} (h : n ≤ 1000) {w : Int32} : inb w n = true ↔ (0 ≤ w ∧ w ≤ nI n - 1) := inb_le (nI_sub1 h)
def fo (x : Int32) : Int32 := (x.toInt64 * 16807 - x.toInt64 * 16807 / 2147483647 * 2147483647).toInt32
def nmR (Q : RG) (w : Int32) : Int32 := if inb w 6 = true then Q.2.1 w.toNatClampNeg else -1
def snR (Q : RG) (w : Int32) : Int32 := if inb w 6 = true then Q.2.2 w.toNatClampNeg else 0
def rcv (n : Nat) (x : Int32) : Int32 := if x &&& 1 = 0 then (if nI n ≤ x / 2 + 1 then 0 else x / 2 + 1) else (if x / 2 ≤ 0 then nI n - 1 else x / 2 - 1)
section M14
variable {l : Launch} {G : zGT} {h h0 : hpT} {sz : Nat} {Post : Option Value → hpT → Nat → Prop} {r : Nat} {Q : RG}
set_option maxHeartbeats 1000000 in
set_option maxRecDepth 100000 in
theorem c_X5_within {v lo hi : Int32} (k1 : (lo ≤ v ∧ v ≤ hi) → Post (some (.int 1)) h sz) (k0 : ¬ (lo ≤ v ∧ v ≤ hi) → Post (some (.int 0)) h sz) : Cn l G yX5_within cX5_within 3 (some .boolean) 0 0 0 [.int v, .int lo, .int hi] h sz Post := by
  refine Cn.of RX5 false (by decide) rfl (fun q => by cases q) (Nat.le_of_ble_eq_true rfl) ?_
  refine V_iload_n 0 dX5_within_0 rfl ?_
  refine V_iload_n 1 dX5_within_1 rfl ?_
  refine V_icmp_lt 2 14 dX5_within_2 rfl (fun c_2 => ?_) (fun c_2 => ?_)
  · refine V_iconstv 14 (0) dX5_within_14 (by decide) ?_
    refine V_zret 15 dX5_within_15 (Or.inl rfl) ?_
    first | exact k0 (fun q => Int32.not_le.mpr c_2 q.1) | exact k0 (fun q => Int32.not_le.mpr c_7 q.2)
  · refine V_iload_n 5 dX5_within_5 rfl ?_
    refine V_iload_n 6 dX5_within_6 rfl ?_
    refine V_icmp_gt 7 14 dX5_within_7 rfl (fun c_7 => ?_) (fun c_7 => ?_)
    · refine V_iconstv 14 (0) dX5_within_14 (by decide) ?_
      refine V_zret 15 dX5_within_15 (Or.inl rfl) ?_
      first | exact k0 (fun q => Int32.not_le.mpr c_2 q.1) | exact k0 (fun q => Int32.not_le.mpr c_7 q.2)
    · refine V_iconstv 10 (1) dX5_within_10 (by decide) ?_
      refine V_goto 11 15 dX5_within_11 rfl ?_
      refine V_zret 15 dX5_within_15 (Or.inr rfl) ?_
      exact k1 ⟨Int32.not_lt.mp c_2, Int32.not_lt.mp c_7⟩
set_option maxHeartbeats 1000000 in
set_option maxRecDepth 100000 in
theorem c_X5_following {x : Int32} (k : Post (some (.int (fo x))) h sz) : Cn l G yX5_following cX5_following 1 (some .int) 0 0 0 [.int x] h sz Post := by
  refine Cn.of RX5 false (by decide) rfl (fun q => by cases q) (Nat.le_of_ble_eq_true rfl) ?_
  refine V_iload_n 0 dX5_following_0 rfl ?_
  refine V_i2l 1 dX5_following_1 ?_
  refine V_ldc2 2 dX5_following_2 knX5_202 ?_
  refine V_lmul 5 dX5_following_5 ?_
  refine V_ldc2 6 dX5_following_6 knX5_204 ?_
  refine V_lrem 9 dX5_following_9 (by decide) ?_
  refine V_l2i 10 dX5_following_10 ?_
  refine V_iret 11 dX5_following_11 ?_
  exact k
set_option maxHeartbeats 1000000 in
set_option maxRecDepth 100000 in
theorem c_X3_directionOf {x : Int32} (k : Post (some (.int (x &&& 1))) h sz) : Cn l G yX3_directionOf cX3_directionOf 1 (some .int) 0 0 0 [.int x] h sz Post := by
  refine Cn.of RX3 false (by decide) rfl (fun q => by cases q) (Nat.le_of_ble_eq_true rfl) ?_
  refine V_iload_n 0 dX3_directionOf_0 rfl ?_
  refine V_iconstv 1 (1) dX3_directionOf_1 (by decide) ?_
  refine V_iand 2 dX3_directionOf_2 ?_
  refine V_iret 3 dX3_directionOf_3 ?_
  exact k
set_option maxHeartbeats 1000000 in
set_option maxRecDepth 100000 in
theorem c_X3_lineFrom {x y : Int32} (k : Post (some (.int (2 * x + y))) h sz) : Cn l G yX3_lineFrom cX3_lineFrom 2 (some .int) 0 0 0 [.int x, .int y] h sz Post := by
  refine Cn.of RX3 false (by decide) rfl (fun q => by cases q) (Nat.le_of_ble_eq_true rfl) ?_
  refine V_iconstv 0 (2) dX3_lineFrom_0 (by decide) ?_
  refine V_iload_n 1 dX3_lineFrom_1 rfl ?_
  refine V_imul 2 dX3_lineFrom_2 ?_
  refine V_iload_n 3 dX3_lineFrom_3 rfl ?_
  refine V_iadd 4 dX3_lineFrom_4 ?_
  refine V_iret 5 dX3_lineFrom_5 ?_
  exact k
set_option maxHeartbeats 1000000 in
set_option maxRecDepth 100000 in
theorem c_X3_isFull (hR : RA G h r Q) (k1 : 6 ≤ Q.1 → Post (some (.int 1)) h sz) (k0 : ¬ 6 ≤ Q.1 → Post (some (.int 0)) h sz) : Cn l G yX3_isFull cX3_isFull 1 (some .boolean) 0 0 0 [.ref r] h sz Post := by
  refine Cn.of RX3 false (by decide) rfl (fun q => by cases q) (Nat.le_of_ble_eq_true rfl) ?_
  refine V_aload_n 0 dX3_isFull_0 rfl ?_
  refine V_get 1 dX3_isFull_1 fdX3_9 (by first | exact hR.1 | exact hR.2.1 | exact hR.2.2.1) rfl ?_
  refine V_bipushv 4 (6) dX3_isFull_4 (by decide) ?_
  refine V_icmp_lt 6 13 dX3_isFull_6 rfl (fun c_6 => ?_) (fun c_6 => ?_)
  · refine V_iconstv 13 (0) dX3_isFull_13 (by decide) ?_
    refine V_zret 14 dX3_isFull_14 (Or.inl rfl) ?_
    exact k0 (fun q => Int32.not_le.mpr c_6 (nI_le q (by have := hR.2.2.2.1; omega)))
  · refine V_iconstv 9 (1) dX3_isFull_9 (by decide) ?_
    refine V_goto 10 14 dX3_isFull_10 rfl ?_
    refine V_zret 14 dX3_isFull_14 (Or.inr rfl) ?_
    exact k1 ((nI_leI (by decide) (by have := hR.2.2.2.1; omega)).mp (Int32.not_lt.mp c_6))
set_option maxHeartbeats 1000000 in
set_option maxRecDepth 100000 in
theorem c_X3_hasContender (hR : RA G h r Q) {w : Int32} (k1 : inb w Q.1 = true → Post (some (.int 1)) h sz) (k0 : inb w Q.1 = false → Post (some (.int 0)) h sz) : Cn l G yX3_hasContender cX3_hasContender 2 (some .boolean) 1 0 0 [.ref r, .int w] h sz Post := by
  refine Cn.of RX3 false (by decide) rfl (fun q => by cases q) (Nat.le_of_ble_eq_true rfl) ?_
  refine V_iload_n 0 dX3_hasContender_0 rfl ?_
  refine V_iconstv 1 (0) dX3_hasContender_1 (by decide) ?_
  refine V_aload_n 2 dX3_hasContender_2 rfl ?_
  refine V_get 3 dX3_hasContender_3 fdX3_9 (by first | exact hR.1 | exact hR.2.1 | exact hR.2.2.1) rfl ?_
  refine V_iconstv 6 (1) dX3_hasContender_6 (by decide) ?_
  refine V_isub 7 dX3_hasContender_7 ?_
  refine V_is3 8 dX3_hasContender_8 ksX3_28 rfl rfl (c_X5_within (fun c_8 => ?_) (fun c_8 => ?_))
  · refine V_zret 11 dX3_hasContender_11 (Or.inr rfl) ?_
    exact k1 ((inb_sub1 (by have := hR.2.2.2.1; omega)).mpr c_8)
  · refine V_zret 11 dX3_hasContender_11 (Or.inl rfl) ?_
    exact k0 (Bool.eq_false_iff.mpr (fun q => c_8 ((inb_sub1 (by have := hR.2.2.2.1; omega)).mp q)))
set_option maxHeartbeats 1000000 in
set_option maxRecDepth 100000 in
theorem c_X3_hasLink (hR : RA G h r Q) {w : Int32} (k1 : inb w (2 * Q.1) = true → Post (some (.int 1)) h sz) (k0 : inb w (2 * Q.1) = false → Post (some (.int 0)) h sz) : Cn l G yX3_hasLink cX3_hasLink 2 (some .boolean) 1 0 0 [.ref r, .int w] h sz Post := by
  refine Cn.of RX3 false (by decide) rfl (fun q => by cases q) (Nat.le_of_ble_eq_true rfl) ?_
  refine V_iload_n 0 dX3_hasLink_0 rfl ?_
  refine V_iconstv 1 (0) dX3_hasLink_1 (by decide) ?_
  refine V_iconstv 2 (2) dX3_hasLink_2 (by decide) ?_
  refine V_aload_n 3 dX3_hasLink_3 rfl ?_
  refine V_get 4 dX3_hasLink_4 fdX3_9 (by first | exact hR.1 | exact hR.2.1 | exact hR.2.2.1) rfl ?_
  refine V_imul 7 dX3_hasLink_7 ?_
  refine V_topi (nI (2 * Q.1)) (pk_mul 2 Q.1) ?_
  refine V_iconstv 8 (1) dX3_hasLink_8 (by decide) ?_
  refine V_isub 9 dX3_hasLink_9 ?_
  refine V_is3 10 dX3_hasLink_10 ksX3_28 rfl rfl (c_X5_within (fun c_10 => ?_) (fun c_10 => ?_))
  · refine V_zret 13 dX3_hasLink_13 (Or.inr rfl) ?_
    exact k1 ((inb_sub1 (by have := hR.2.2.2.1; omega)).mpr c_10)
  · refine V_zret 13 dX3_hasLink_13 (Or.inl rfl) ?_
    exact k0 (Bool.eq_false_iff.mpr (fun q => c_10 ((inb_sub1 (by have := hR.2.2.2.1; omega)).mp q)))
set_option maxHeartbeats 1000000 in
set_option maxRecDepth 100000 in
theorem c_X3_nameOf (hR : RA G h r Q) {w : Int32} (k : Post (some (.int (nmR Q w))) h sz) : Cn l G yX3_nameOf cX3_nameOf 2 (some .int) 1 0 0 [.ref r, .int w] h sz Post := by
  refine Cn.of RX3 false (by decide) rfl (fun q => by cases q) (Nat.le_of_ble_eq_true rfl) ?_
  refine V_iload_n 0 dX3_nameOf_0 rfl ?_
  refine V_iconstv 1 (0) dX3_nameOf_1 (by decide) ?_
  refine V_iconstv 2 (5) dX3_nameOf_2 (by decide) ?_
  refine V_is3 3 dX3_nameOf_3 ksX3_28 rfl rfl (c_X5_within (fun c_3 => ?_) (fun c_3 => ?_))
  · refine V_if_eq 6 18 dX3_nameOf_6 rfl (fun q => absurd q (by decide)) (fun _ => ?_)
    refine V_aload_n 9 dX3_nameOf_9 rfl ?_
    refine V_get 10 dX3_nameOf_10 fdX3_15 (by first | exact hR.1 | exact hR.2.1 | exact hR.2.2.1) rfl ?_
    refine V_iload_n 13 dX3_nameOf_13 rfl ?_
    refine V_iald 14 dX3_nameOf_14 (by first | exact hR.1 | exact hR.2.1 | exact hR.2.2.1) (inb_in ((inb_le (by decide)).mpr c_3)) ?_
    refine V_goto 15 19 dX3_nameOf_15 rfl ?_
    refine V_iret 19 dX3_nameOf_19 ?_
    unfold nmR at k
    first | (rw [if_pos ((inb_le (by decide)).mpr c_3)] at k; exact k) | (rw [if_neg (fun q => c_3 ((inb_le (by decide)).mp q))] at k; exact k)
  · refine V_if_eq 6 18 dX3_nameOf_6 rfl (fun _ => ?_) (fun q => absurd q (by decide))
    refine V_iconstv 18 (-1) dX3_nameOf_18 (by decide) ?_
    refine V_iret 19 dX3_nameOf_19 ?_
    unfold nmR at k
    first | (rw [if_pos ((inb_le (by decide)).mpr c_3)] at k; exact k) | (rw [if_neg (fun q => c_3 ((inb_le (by decide)).mp q))] at k; exact k)
set_option maxHeartbeats 1000000 in
set_option maxRecDepth 100000 in
theorem c_X3_senseOf (hR : RA G h r Q) {w : Int32} (k : Post (some (.int (snR Q w))) h sz) : Cn l G yX3_senseOf cX3_senseOf 2 (some .int) 1 0 0 [.ref r, .int w] h sz Post := by
  refine Cn.of RX3 false (by decide) rfl (fun q => by cases q) (Nat.le_of_ble_eq_true rfl) ?_
  refine V_iload_n 0 dX3_senseOf_0 rfl ?_
  refine V_iconstv 1 (0) dX3_senseOf_1 (by decide) ?_
  refine V_iconstv 2 (5) dX3_senseOf_2 (by decide) ?_
  refine V_is3 3 dX3_senseOf_3 ksX3_28 rfl rfl (c_X5_within (fun c_3 => ?_) (fun c_3 => ?_))
  · refine V_if_eq 6 18 dX3_senseOf_6 rfl (fun q => absurd q (by decide)) (fun _ => ?_)
    refine V_aload_n 9 dX3_senseOf_9 rfl ?_
    refine V_get 10 dX3_senseOf_10 fdX3_19 (by first | exact hR.1 | exact hR.2.1 | exact hR.2.2.1) rfl ?_
    refine V_iload_n 13 dX3_senseOf_13 rfl ?_
    refine V_iald 14 dX3_senseOf_14 (by first | exact hR.1 | exact hR.2.1 | exact hR.2.2.1) (inb_in ((inb_le (by decide)).mpr c_3)) ?_
    refine V_goto 15 19 dX3_senseOf_15 rfl ?_
    refine V_iret 19 dX3_senseOf_19 ?_
    unfold snR at k
    first | (rw [if_pos ((inb_le (by decide)).mpr c_3)] at k; exact k) | (rw [if_neg (fun q => c_3 ((inb_le (by decide)).mp q))] at k; exact k)
  · refine V_if_eq 6 18 dX3_senseOf_6 rfl (fun _ => ?_) (fun q => absurd q (by decide))
    refine V_iconstv 18 (0) dX3_senseOf_18 (by decide) ?_
    refine V_iret 19 dX3_senseOf_19 ?_
    unfold snR at k
    first | (rw [if_pos ((inb_le (by decide)).mpr c_3)] at k; exact k) | (rw [if_neg (fun q => c_3 ((inb_le (by decide)).mp q))] at k; exact k)
set_option maxHeartbeats 1000000 in
set_option maxRecDepth 100000 in
theorem c_X3_receiverOf (hR : RA G h r Q) {x : Int32} (k : Post (some (.int (rcv Q.1 x))) h sz) : Cn l G yX3_receiverOf cX3_receiverOf 3 (some .int) 1 0 0 [.ref r, .int x] h sz Post := by
  refine Cn.of RX3 false (by decide) rfl (fun q => by cases q) (Nat.le_of_ble_eq_true rfl) ?_
  refine V_iload_n 0 dX3_receiverOf_0 rfl ?_
  refine V_iconstv 1 (2) dX3_receiverOf_1 (by decide) ?_
  refine V_idiv 2 dX3_receiverOf_2 (by decide) ?_
  refine V_istore_n 3 dX3_receiverOf_3 rfl rfl ?_
  refine V_iload_n 4 dX3_receiverOf_4 rfl ?_
  refine V_is1 5 dX3_receiverOf_5 ksX3_32 rfl rfl (c_X3_directionOf ?_)
  refine V_if_ne 8 29 dX3_receiverOf_8 rfl (fun c_8 => ?_) (fun c_8 => ?_)
  · refine V_iload_n 29 dX3_receiverOf_29 rfl ?_
    refine V_if_le 30 39 dX3_receiverOf_30 rfl (fun c_30 => ?_) (fun c_30 => ?_)
    · refine V_aload_n 39 dX3_receiverOf_39 rfl ?_
      refine V_get 40 dX3_receiverOf_40 fdX3_9 (by first | exact hR.1 | exact hR.2.1 | exact hR.2.2.1) rfl ?_
      refine V_iconstv 43 (1) dX3_receiverOf_43 (by decide) ?_
      refine V_isub 44 dX3_receiverOf_44 ?_
      refine V_iret 45 dX3_receiverOf_45 ?_
      unfold rcv at k
      first | (rw [if_pos c_8, if_pos c_18] at k; exact k) | (rw [if_pos c_8, if_neg c_18] at k; exact k) | (rw [if_neg c_8, if_pos c_30] at k; exact k) | (rw [if_neg c_8, if_neg c_30] at k; exact k)
    · refine V_iload_n 33 dX3_receiverOf_33 rfl ?_
      refine V_iconstv 34 (1) dX3_receiverOf_34 (by decide) ?_
      refine V_isub 35 dX3_receiverOf_35 ?_
      refine V_goto 36 45 dX3_receiverOf_36 rfl ?_
      refine V_iret 45 dX3_receiverOf_45 ?_
      unfold rcv at k
      first | (rw [if_pos c_8, if_pos c_18] at k; exact k) | (rw [if_pos c_8, if_neg c_18] at k; exact k) | (rw [if_neg c_8, if_pos c_30] at k; exact k) | (rw [if_neg c_8, if_neg c_30] at k; exact k)
  · refine V_iload_n 11 dX3_receiverOf_11 rfl ?_
    refine V_iconstv 12 (1) dX3_receiverOf_12 (by decide) ?_
    refine V_iadd 13 dX3_receiverOf_13 ?_
    refine V_aload_n 14 dX3_receiverOf_14 rfl ?_
    refine V_get 15 dX3_receiverOf_15 fdX3_9 (by first | exact hR.1 | exact hR.2.1 | exact hR.2.2.1) rfl ?_
    refine V_icmp_ge 18 27 dX3_receiverOf_18 rfl (fun c_18 => ?_) (fun c_18 => ?_)
    · refine V_iconstv 27 (0) dX3_receiverOf_27 (by decide) ?_
      refine V_iret 28 dX3_receiverOf_28 ?_
      unfold rcv at k
      first | (rw [if_pos c_8, if_pos c_18] at k; exact k) | (rw [if_pos c_8, if_neg c_18] at k; exact k) | (rw [if_neg c_8, if_pos c_30] at k; exact k) | (rw [if_neg c_8, if_neg c_30] at k; exact k)
    · refine V_iload_n 21 dX3_receiverOf_21 rfl ?_
      refine V_iconstv 22 (1) dX3_receiverOf_22 (by decide) ?_
      refine V_iadd 23 dX3_receiverOf_23 ?_
      refine V_goto 24 28 dX3_receiverOf_24 rfl ?_
      refine V_iret 28 dX3_receiverOf_28 ?_
      unfold rcv at k
      first | (rw [if_pos c_8, if_pos c_18] at k; exact k) | (rw [if_pos c_8, if_neg c_18] at k; exact k) | (rw [if_neg c_8, if_pos c_30] at k; exact k) | (rw [if_neg c_8, if_neg c_30] at k; exact k)
set_option maxHeartbeats 1000000 in
set_option maxRecDepth 100000 in
theorem lp_X3_hasName (hR : RA G h r Q) {x : Int32} (k1 : (∃ i, i < Q.1 ∧ Q.2.1 i = x) → Post (some (.int 1)) h sz) (k0 : (∀ i, i < Q.1 → ¬ Q.2.1 i = x) → Post (some (.int 0)) h sz) : ∀ i, i ≤ Q.1 → (∀ j, j < i → ¬ Q.2.1 j = x) → V l G RX3 cX3_hasName 3 (some .boolean) false 0 0 0 Post 2 [some (.ref r), some (.int x), some (.int (nI i))] [] h sz := by
  have hn := hR.2.2.2.1
  refine up_ind Q.1 (fun i hi ih hinv => ?_)
  refine V_iload_n 2 dX3_hasName_2 rfl ?_
  refine V_aload_n 3 dX3_hasName_3 rfl ?_
  refine V_get 4 dX3_hasName_4 fdX3_9 (by first | exact hR.1 | exact hR.2.1 | exact hR.2.2.1) rfl ?_
  refine V_icmp_ge 7 34 dX3_hasName_7 rfl (fun c_7 => ?_) (fun c_7 => ?_)
  · have e_7 : i = Q.1 := Nat.le_antisymm hi ((nI_leI (by omega) (by omega)).mp c_7)
    refine V_iconstv 34 (0) dX3_hasName_34 (by decide) ?_
    refine V_zret 35 dX3_hasName_35 (Or.inl rfl) ?_
    exact k0 (fun j hj => hinv j (by omega))
  · have e_7 : i < Q.1 := Nat.lt_of_not_le (fun q => c_7 (nI_le q (by omega)))
    refine V_iload_n 10 dX3_hasName_10 rfl ?_
    refine V_bipushv 11 (6) dX3_hasName_11 (by decide) ?_
    refine V_icmp_ge 13 34 dX3_hasName_13 rfl (fun c_13 => ?_) (fun c_13 => ?_)
    · exact absurd ((nI_leI (a := 6) (by decide) (by omega)).mp c_13) (by omega) --end
    · refine V_aload_n 16 dX3_hasName_16 rfl ?_
      refine V_get 17 dX3_hasName_17 fdX3_15 (by first | exact hR.1 | exact hR.2.1 | exact hR.2.2.1) rfl ?_
      refine V_iload_n 20 dX3_hasName_20 rfl ?_
      refine V_iald 21 dX3_hasName_21 (by first | exact hR.1 | exact hR.2.1 | exact hR.2.2.1) (vp_in_nI (by omega) (by decide)) ?_
      rw [nI_clamp (by omega)]
      refine V_iload_n 22 dX3_hasName_22 rfl ?_
      refine V_icmp_ne 23 28 dX3_hasName_23 rfl (fun c_23 => ?_) (fun c_23 => ?_)
      · have e_23 : ¬ Q.2.1 i = x := c_23
        refine V_iinc 28 (nI (i + 1)) dX3_hasName_28 rfl (nI_inc i) rfl rfl ?_
        refine V_goto 31 2 dX3_hasName_31 rfl ?_
        exact ih (i + 1) rfl (by omega) (fun j hj => by rcases Nat.lt_or_ge j i with q | q; exact hinv j q; exact (show j = i by omega) ▸ e_23)
      · have e_23 : Q.2.1 i = x := c_23
        refine V_iconstv 26 (1) dX3_hasName_26 (by decide) ?_
        refine V_zret 27 dX3_hasName_27 (Or.inr rfl) ?_
        exact k1 ⟨i, e_7, e_23⟩
set_option maxHeartbeats 1000000 in
set_option maxRecDepth 100000 in
theorem c_X3_hasName (hR : RA G h r Q) {x : Int32} (k1 : (∃ i, i < Q.1 ∧ Q.2.1 i = x) → Post (some (.int 1)) h sz) (k0 : (∀ i, i < Q.1 → ¬ Q.2.1 i = x) → Post (some (.int 0)) h sz) : Cn l G yX3_hasName cX3_hasName 3 (some .boolean) 0 0 0 [.ref r, .int x] h sz Post := by
  refine Cn.of RX3 false (by decide) rfl (fun q => by cases q) (Nat.le_of_ble_eq_true rfl) ?_
  refine V_iconstv 0 (0) dX3_hasName_0 (by decide) ?_
  refine V_istore_n 1 dX3_hasName_1 rfl rfl ?_
  exact lp_X3_hasName hR k1 k0 0 (Nat.zero_le _) (fun j hj => absurd hj (Nat.not_lt_zero j))
set_option maxHeartbeats 1000000 in
set_option maxRecDepth 100000 in
theorem lp_X3_sensesAgree (hR : RA G h r Q) (k1 : (∀ i, 1 ≤ i → i < Q.1 → Q.2.2 i = Q.2.2 0) → Post (some (.int 1)) h sz) (k0 : (∃ i, 1 ≤ i ∧ i < Q.1 ∧ ¬ Q.2.2 i = Q.2.2 0) → Post (some (.int 0)) h sz) : ∀ i, i ≤ 7 → 1 ≤ i → (∀ j, 1 ≤ j → j < i → Q.2.2 j = Q.2.2 0) → V l G RX3 cX3_sensesAgree 2 (some .boolean) false 0 0 0 Post 2 [some (.ref r), some (.int (nI i))] [] h sz := by
  have hn := hR.2.2.2.1
  refine up_ind 7 (fun i hi ih h1 hinv => ?_)
  refine V_iload_n 2 dX3_sensesAgree_2 rfl ?_
  refine V_aload_n 3 dX3_sensesAgree_3 rfl ?_
  refine V_get 4 dX3_sensesAgree_4 fdX3_9 (by first | exact hR.1 | exact hR.2.1 | exact hR.2.2.1) rfl ?_
  refine V_icmp_ge 7 39 dX3_sensesAgree_7 rfl (fun c_7 => ?_) (fun c_7 => ?_)
  · have e_7 : Q.1 ≤ i := (nI_leI (by omega) (by omega)).mp c_7
    refine V_iconstv 39 (1) dX3_sensesAgree_39 (by decide) ?_
    refine V_zret 40 dX3_sensesAgree_40 (Or.inr rfl) ?_
    exact k1 (fun j hj hj2 => hinv j hj (by omega))
  · have e_7 : i < Q.1 := Nat.lt_of_not_le (fun q => c_7 (nI_le q (by omega)))
    refine V_iload_n 10 dX3_sensesAgree_10 rfl ?_
    refine V_bipushv 11 (6) dX3_sensesAgree_11 (by decide) ?_
    refine V_icmp_ge 13 39 dX3_sensesAgree_13 rfl (fun c_13 => ?_) (fun c_13 => ?_)
    · exact absurd ((nI_leI (a := 6) (by decide) (by omega)).mp c_13) (by omega) --end
    · refine V_aload_n 16 dX3_sensesAgree_16 rfl ?_
      refine V_get 17 dX3_sensesAgree_17 fdX3_19 (by first | exact hR.1 | exact hR.2.1 | exact hR.2.2.1) rfl ?_
      refine V_iload_n 20 dX3_sensesAgree_20 rfl ?_
      refine V_iald 21 dX3_sensesAgree_21 (by first | exact hR.1 | exact hR.2.1 | exact hR.2.2.1) (vp_in_nI (by omega) (by decide)) ?_
      rw [nI_clamp (by omega)]
      refine V_aload_n 22 dX3_sensesAgree_22 rfl ?_
      refine V_get 23 dX3_sensesAgree_23 fdX3_19 (by first | exact hR.1 | exact hR.2.1 | exact hR.2.2.1) rfl ?_
      refine V_iconstv 26 (0) dX3_sensesAgree_26 (by decide) ?_
      refine V_ialdk 27 0 rfl dX3_sensesAgree_27 (by first | exact hR.1 | exact hR.2.1 | exact hR.2.2.1) (inb_in (by decide)) ?_
      refine V_icmp_eq 28 33 dX3_sensesAgree_28 rfl (fun c_28 => ?_) (fun c_28 => ?_)
      · have e_28 : Q.2.2 i = Q.2.2 0 := c_28
        refine V_iinc 33 (nI (i + 1)) dX3_sensesAgree_33 rfl (nI_inc i) rfl rfl ?_
        refine V_goto 36 2 dX3_sensesAgree_36 rfl ?_
        exact ih (i + 1) rfl (by omega) (by omega) (fun j hj hj2 => by rcases Nat.lt_or_ge j i with q | q; exact hinv j hj q; exact (show j = i by omega) ▸ e_28)
      · have e_28 : ¬ Q.2.2 i = Q.2.2 0 := c_28
        refine V_iconstv 31 (0) dX3_sensesAgree_31 (by decide) ?_
        refine V_zret 32 dX3_sensesAgree_32 (Or.inl rfl) ?_
        exact k0 ⟨i, h1, e_7, e_28⟩
set_option maxHeartbeats 1000000 in
set_option maxRecDepth 100000 in
theorem c_X3_sensesAgree (hR : RA G h r Q) (k1 : (∀ i, 1 ≤ i → i < Q.1 → Q.2.2 i = Q.2.2 0) → Post (some (.int 1)) h sz) (k0 : (∃ i, 1 ≤ i ∧ i < Q.1 ∧ ¬ Q.2.2 i = Q.2.2 0) → Post (some (.int 0)) h sz) : Cn l G yX3_sensesAgree cX3_sensesAgree 2 (some .boolean) 0 0 0 [.ref r] h sz Post := by
  refine Cn.of RX3 false (by decide) rfl (fun q => by cases q) (Nat.le_of_ble_eq_true rfl) ?_
  refine V_iconstv 0 (1) dX3_sensesAgree_0 (by decide) ?_
  refine V_istore_n 1 dX3_sensesAgree_1 rfl rfl ?_
  exact lp_X3_sensesAgree hR k1 k0 1 (by omega) (by omega) (fun j hj hj2 => by omega)
end M14
