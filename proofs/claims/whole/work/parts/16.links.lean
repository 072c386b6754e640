def laN (p : Nat → Bool) : Nat → Int32
  | 0 => -1
  | n + 1 => if p n = true then nI n else laN p n
def lbB (E : ET) (j i : Nat) : Bool := decide (j ≤ i) && bsy E (nI i)
def lbE (E : ET) (n j : Nat) : Int32 := if fiN (lbB E j) (2 * n) < 2 * n then nI (fiN (lbB E j) (2 * n)) else -1
def gbE (E : ET) (n : Nat) : Int32 := laN (fun i => bsy E (nI i)) (2 * n)
def bnT (E : ET) (n : Nat) (y : Int32) : Int32 := if nI (blE E n) ≤ 0 then 0 else y - y / nI (blE E n) * nI (blE E n)
def bnB (E : ET) (t : Int32) (i : Nat) : Bool := bsy E (nI i) && decide (nI (ctN (fun j => bsy E (nI j)) i) = t)
def bnE (E : ET) (n : Nat) (y : Int32) : Int32 := if fiN (bnB E (bnT E n y)) (2 * n) < 2 * n then nI (fiN (bnB E (bnT E n y)) (2 * n)) else -1
def chE (E : ET) (n : Nat) (ord : Int32) (j : Nat) (y : Int32) : Int32 :=
  if ord = 0 then lbE E n 0 else if ord = 1 then gbE E n else if ord = 2 then (if lbE E n j = -1 then lbE E n 0 else lbE E n j) else bnE E n y
theorem i32_sub0 {a b : Int32} : a - b = 0 ↔ a = b := by
  constructor
  · intro q
    have := congrArg (· + b) q
    simpa using this
  · rintro rfl
    exact Int32.sub_self a
theorem i32_dec (x : Int32) : x + Int32.ofInt (-1) = x - 1 := by
  rw [show Int32.ofInt (-1) = - (1 : Int32) from by decide, Int32.sub_eq_add_neg]
theorem i32_sub_inc (t : Int32) (c : Nat) : t - nI c + Int32.ofInt (-1) = t - nI (c + 1) := by
  rw [i32_dec, nI_succ]
  first
    | (rw [Int32.sub_add_eq]; done)
    | (simp only [Int32.sub_eq_add_neg, Int32.neg_add, Int32.add_assoc]; done)
    | (apply Int32.toBitVec_inj.mp; simp only [Int32.toBitVec_sub, Int32.toBitVec_add]; rw [BitVec.sub_add_eq]; done)
    | (apply Int32.toInt_inj.mp; simp; omega)
section M16
variable {l : Launch} {G : zGT} {h h0 : hpT} {sz : Nat} {Post : Option Value → hpT → Nat → Prop} {o r : Nat} {Q : RG} {E : ET}
set_option maxHeartbeats 1000000 in
set_option maxRecDepth 100000 in
theorem lp_X0_leastBusyAfter (hW : WE G h0 h o r E Q) {b : Int32} (j : Nat) (k : Post (some (.int (lbE E Q.1 j))) h sz) : ∀ i, i ≤ 13 → j ≤ i → (∀ q, q < i → ¬ lbB E j q = true) → V l G RX0 cX0_leastBusyAfter 3 (some .int) false 3 0 0 Post 4 [some (.ref o), some (.int b), some (.int (nI i))] [] h sz := by
  have hn := hW.2.1.2.2.2.1
  refine up_ind 13 (fun i hi ih hj hinv => ?_)
  refine V_iload_n 4 dX0_leastBusyAfter_4 rfl ?_
  refine V_iconstv 5 (2) dX0_leastBusyAfter_5 (by decide) ?_
  refine V_aload_n 6 dX0_leastBusyAfter_6 rfl ?_
  refine V_get 7 dX0_leastBusyAfter_7 fdX0_34 (by first | exact hW.1.1 | exact hW.1.2.1 | exact hW.1.2.2.1 | exact hW.1.2.2.2.1 | exact hW.1.2.2.2.2.1 | exact hW.2.1.1 | exact hW.2.1.2.1 | exact hW.2.1.2.2.1) rfl ?_
  refine V_get 10 dX0_leastBusyAfter_10 fdX0_64 (by first | exact hW.1.1 | exact hW.1.2.1 | exact hW.1.2.2.1 | exact hW.1.2.2.2.1 | exact hW.1.2.2.2.2.1 | exact hW.2.1.1 | exact hW.2.1.2.1 | exact hW.2.1.2.2.1) rfl ?_
  refine V_imul 13 dX0_leastBusyAfter_13 ?_
  refine V_topi (nI (2 * Q.1)) (pk_mul 2 Q.1) ?_
  refine V_icmp_ge 14 33 dX0_leastBusyAfter_14 rfl (fun c_14 => ?_) (fun c_14 => ?_)
  · have e_14 : 2 * Q.1 ≤ i := (nI_leI (by omega) (by omega)).mp c_14
    refine V_iconstv 33 (-1) dX0_leastBusyAfter_33 (by decide) ?_
    refine V_iret 34 dX0_leastBusyAfter_34 ?_
    unfold lbE at k
    rw [fiN_none (fun j hj => hinv j (by omega)), if_neg (by omega)] at k
    exact k
  · have e_14 : i < 2 * Q.1 := Nat.lt_of_not_le (fun q => c_14 (nI_le q (by omega)))
    refine V_aload_n 17 dX0_leastBusyAfter_17 rfl ?_
    refine V_iload_n 18 dX0_leastBusyAfter_18 rfl ?_
    refine V_iv1 19 dX0_leastBusyAfter_19 kvX0_77 rfl (by first | exact hW.1.1 | exact hW.1.2.1 | exact hW.1.2.2.1 | exact hW.1.2.2.2.1 | exact hW.1.2.2.2.2.1 | exact hW.2.1.1 | exact hW.2.1.2.1 | exact hW.2.1.2.2.1) rfl rfl (c_X0_isBusy hW (fun c_19 => ?_) (fun c_19 => ?_))
    · have e_p : lbB E j i = true := Bool.and_eq_true_iff.mpr ⟨by simpa using hj, c_19⟩
      refine V_if_eq 22 27 dX0_leastBusyAfter_22 rfl (fun q => absurd q (by decide)) (fun _ => ?_)
      refine V_iload_n 25 dX0_leastBusyAfter_25 rfl ?_
      refine V_iret 26 dX0_leastBusyAfter_26 ?_
      unfold lbE at k
      rw [fiN_some (i := i) e_p hinv e_14, if_pos e_14] at k
      exact k
    · have e_p : ¬ lbB E j i = true := fun q => Bool.eq_false_iff.mp c_19 (Bool.and_eq_true_iff.mp q).2
      refine V_if_eq 22 27 dX0_leastBusyAfter_22 rfl (fun _ => ?_) (fun q => absurd q (by decide))
      refine V_iinc 27 (nI (i + 1)) dX0_leastBusyAfter_27 rfl (nI_inc i) rfl rfl ?_
      refine V_goto 30 4 dX0_leastBusyAfter_30 rfl ?_
      exact ih (i + 1) rfl (by omega) (by omega) (fun j hj => by rcases Nat.lt_or_ge j i with q | q; exact hinv j q; exact (show j = i by omega) ▸ e_p)
set_option maxHeartbeats 1000000 in
set_option maxRecDepth 100000 in
theorem c_X0_leastBusyAfter (hW : WE G h0 h o r E Q) {b : Int32} (j : Nat) (hj : j ≤ 12) (hb : b + 1 = nI j) (k : Post (some (.int (lbE E Q.1 j))) h sz) : Cn l G yX0_leastBusyAfter cX0_leastBusyAfter 3 (some .int) 3 0 0 [.ref o, .int b] h sz Post := by
  refine Cn.of RX0 false (by decide) rfl (fun q => by cases q) (Nat.le_of_ble_eq_true rfl) ?_
  refine V_iload_n 0 dX0_leastBusyAfter_0 rfl ?_
  refine V_iconstv 1 (1) dX0_leastBusyAfter_1 (by decide) ?_
  refine V_iadd 2 dX0_leastBusyAfter_2 ?_
  refine V_topi (nI j) hb ?_
  refine V_istore_n 3 dX0_leastBusyAfter_3 rfl rfl ?_
  exact lp_X0_leastBusyAfter hW j k j (by omega) (Nat.le_refl j) (fun q hq w => by have := (Bool.and_eq_true_iff.mp w).1; simp at this; omega)
set_option maxHeartbeats 1000000 in
set_option maxRecDepth 100000 in
theorem lp_X0_greatestBusy (hW : WE G h0 h o r E Q) : ∀ (i : Nat), i ≤ 12 → Post (some (.int (laN (fun i => bsy E (nI i)) i))) h sz → V l G RX0 cX0_greatestBusy 2 (some .int) false 3 0 0 Post 12 [some (.ref o), some (.int (nI i - 1))] [] h sz := by
  intro i
  induction i with
  | zero =>
    intro hi k
    have hz : nI 0 - 1 < 0 := by decide
    refine V_iload_n 12 dX0_greatestBusy_12 rfl ?_
    refine V_if_lt 13 32 dX0_greatestBusy_13 rfl (fun _ => ?_) (fun q => absurd hz q)
    refine V_iconstv 32 (-1) dX0_greatestBusy_32 (by decide) ?_
    refine V_iret 33 dX0_greatestBusy_33 ?_
    exact k
  | succ i ih =>
    intro hi k
    have hz : nI (i + 1) - 1 = nI i := nI_pred i
    rw [hz]
    refine V_iload_n 12 dX0_greatestBusy_12 rfl ?_
    refine V_if_lt 13 32 dX0_greatestBusy_13 rfl (fun q => absurd q (nI_pos (by omega))) (fun _ => ?_)
    refine V_aload_n 16 dX0_greatestBusy_16 rfl ?_
    refine V_iload_n 17 dX0_greatestBusy_17 rfl ?_
    refine V_iv1 18 dX0_greatestBusy_18 kvX0_77 rfl (by first | exact hW.1.1 | exact hW.1.2.1 | exact hW.1.2.2.1 | exact hW.1.2.2.2.1 | exact hW.1.2.2.2.2.1 | exact hW.2.1.1 | exact hW.2.1.2.1 | exact hW.2.1.2.2.1) rfl rfl (c_X0_isBusy hW (fun c_18 => ?_) (fun c_18 => ?_))
    · rw [laN, if_pos c_18] at k
      refine V_if_eq 21 26 dX0_greatestBusy_21 rfl (fun q => absurd q (by decide)) (fun _ => ?_)
      refine V_iload_n 24 dX0_greatestBusy_24 rfl ?_
      refine V_iret 25 dX0_greatestBusy_25 ?_
      exact k
    · rw [laN, if_neg (Bool.eq_false_iff.mp c_18)] at k
      refine V_if_eq 21 26 dX0_greatestBusy_21 rfl (fun _ => ?_) (fun q => absurd q (by decide))
      refine V_iinc 26 (nI i - 1) dX0_greatestBusy_26 rfl (i32_dec _) rfl rfl ?_
      refine V_goto 29 12 dX0_greatestBusy_29 rfl ?_
      exact ih (by omega) k
set_option maxHeartbeats 1000000 in
set_option maxRecDepth 100000 in
theorem c_X0_greatestBusy (hW : WE G h0 h o r E Q) (k : Post (some (.int (gbE E Q.1))) h sz) : Cn l G yX0_greatestBusy cX0_greatestBusy 2 (some .int) 3 0 0 [.ref o] h sz Post := by
  refine Cn.of RX0 false (by decide) rfl (fun q => by cases q) (Nat.le_of_ble_eq_true rfl) ?_
  refine V_iconstv 0 (2) dX0_greatestBusy_0 (by decide) ?_
  refine V_aload_n 1 dX0_greatestBusy_1 rfl ?_
  refine V_get 2 dX0_greatestBusy_2 fdX0_34 (by first | exact hW.1.1 | exact hW.1.2.1 | exact hW.1.2.2.1 | exact hW.1.2.2.2.1 | exact hW.1.2.2.2.2.1 | exact hW.2.1.1 | exact hW.2.1.2.1 | exact hW.2.1.2.2.1) rfl ?_
  refine V_get 5 dX0_greatestBusy_5 fdX0_64 (by first | exact hW.1.1 | exact hW.1.2.1 | exact hW.1.2.2.1 | exact hW.1.2.2.2.1 | exact hW.1.2.2.2.2.1 | exact hW.2.1.1 | exact hW.2.1.2.1 | exact hW.2.1.2.2.1) rfl ?_
  refine V_imul 8 dX0_greatestBusy_8 ?_
  refine V_topi (nI (2 * Q.1)) (pk_mul 2 Q.1) ?_
  refine V_iconstv 9 (1) dX0_greatestBusy_9 (by decide) ?_
  refine V_isub 10 dX0_greatestBusy_10 ?_
  refine V_istore_n 11 dX0_greatestBusy_11 rfl rfl ?_
  exact lp_X0_greatestBusy hW (2 * Q.1) (by have := hW.2.1.2.2.2.1; omega) k
set_option maxHeartbeats 1000000 in
set_option maxRecDepth 100000 in
theorem c_X0_nextBusyRound (hW : WE G h0 h o r E Q) {b : Int32} (j : Nat) (hj : j ≤ 12) (hb : b + 1 = nI j) (k : Post (some (.int (if lbE E Q.1 j = -1 then lbE E Q.1 0 else lbE E Q.1 j))) h sz) : Cn l G yX0_nextBusyRound cX0_nextBusyRound 3 (some .int) 4 0 0 [.ref o, .int b] h sz Post := by
  refine Cn.of RX0 false (by decide) rfl (fun q => by cases q) (Nat.le_of_ble_eq_true rfl) ?_
  refine V_aload_n 0 dX0_nextBusyRound_0 rfl ?_
  refine V_iload_n 1 dX0_nextBusyRound_1 rfl ?_
  refine V_iv1 2 dX0_nextBusyRound_2 kvX0_91 rfl (by first | exact hW.1.1 | exact hW.1.2.1 | exact hW.1.2.2.1 | exact hW.1.2.2.2.1 | exact hW.1.2.2.2.2.1 | exact hW.2.1.1 | exact hW.2.1.2.1 | exact hW.2.1.2.2.1) rfl rfl (c_X0_leastBusyAfter hW j hj hb ?_)
  refine V_istore_n 5 dX0_nextBusyRound_5 rfl rfl ?_
  refine V_iload_n 6 dX0_nextBusyRound_6 rfl ?_
  refine V_iconstv 7 (-1) dX0_nextBusyRound_7 (by decide) ?_
  refine V_icmp_eq 8 15 dX0_nextBusyRound_8 rfl (fun c_8 => ?_) (fun c_8 => ?_)
  · refine V_aload_n 15 dX0_nextBusyRound_15 rfl ?_
    refine V_iconstv 16 (-1) dX0_nextBusyRound_16 (by decide) ?_
    refine V_iv1 17 dX0_nextBusyRound_17 kvX0_91 rfl (by first | exact hW.1.1 | exact hW.1.2.1 | exact hW.1.2.2.1 | exact hW.1.2.2.2.1 | exact hW.1.2.2.2.2.1 | exact hW.2.1.1 | exact hW.2.1.2.1 | exact hW.2.1.2.2.1) rfl rfl (c_X0_leastBusyAfter hW 0 (by omega) (by decide) ?_)
    refine V_iret 20 dX0_nextBusyRound_20 ?_
    first | (rw [if_pos c_8] at k; exact k) | (rw [if_neg c_8] at k; exact k)
  · refine V_iload_n 11 dX0_nextBusyRound_11 rfl ?_
    refine V_goto 12 20 dX0_nextBusyRound_12 rfl ?_
    refine V_iret 20 dX0_nextBusyRound_20 ?_
    first | (rw [if_pos c_8] at k; exact k) | (rw [if_neg c_8] at k; exact k)
set_option maxHeartbeats 1000000 in
set_option maxRecDepth 100000 in
theorem lp_X0_busyByNumber (hW : WE G h0 h o r E Q) {y b t : Int32} (k : Post (some (.int (if fiN (bnB E t) (2 * Q.1) < 2 * Q.1 then nI (fiN (bnB E t) (2 * Q.1)) else -1))) h sz) : ∀ i, i ≤ 2 * Q.1 → (∀ q, q < i → ¬ bnB E t q = true) → V l G RX0 cX0_busyByNumber 5 (some .int) false 4 0 0 Post 20 [some (.ref o), some (.int y), some (.int b), some (.int (t - nI (ctN (fun j => bsy E (nI j)) i))), some (.int (nI i))] [] h sz := by
  have hn := hW.2.1.2.2.2.1
  refine up_ind (2 * Q.1) (fun i hi ih hinv => ?_)
  refine V_iload 20 dX0_busyByNumber_20 rfl ?_
  refine V_iconstv 22 (2) dX0_busyByNumber_22 (by decide) ?_
  refine V_aload_n 23 dX0_busyByNumber_23 rfl ?_
  refine V_get 24 dX0_busyByNumber_24 fdX0_34 (by first | exact hW.1.1 | exact hW.1.2.1 | exact hW.1.2.2.1 | exact hW.1.2.2.2.1 | exact hW.1.2.2.2.2.1 | exact hW.2.1.1 | exact hW.2.1.2.1 | exact hW.2.1.2.2.1) rfl ?_
  refine V_get 27 dX0_busyByNumber_27 fdX0_64 (by first | exact hW.1.1 | exact hW.1.2.1 | exact hW.1.2.2.1 | exact hW.1.2.2.2.1 | exact hW.1.2.2.2.2.1 | exact hW.2.1.1 | exact hW.2.1.2.1 | exact hW.2.1.2.2.1) rfl ?_
  refine V_imul 30 dX0_busyByNumber_30 ?_
  refine V_topi (nI (2 * Q.1)) (pk_mul 2 Q.1) ?_
  refine V_icmp_ge 31 59 dX0_busyByNumber_31 rfl (fun c_31 => ?_) (fun c_31 => ?_)
  · have e_31 : i = 2 * Q.1 := Nat.le_antisymm hi ((nI_leI (by omega) (by omega)).mp c_31)
    refine V_iconstv 59 (-1) dX0_busyByNumber_59 (by decide) ?_
    refine V_iret 60 dX0_busyByNumber_60 ?_
    rw [fiN_none (fun j hj => hinv j (by omega)), if_neg (by omega)] at k
    exact k
  · have e_31 : i < 2 * Q.1 := Nat.lt_of_not_le (fun q => c_31 (nI_le q (by omega)))
    refine V_aload_n 34 dX0_busyByNumber_34 rfl ?_
    refine V_iload 35 dX0_busyByNumber_35 rfl ?_
    refine V_iv1 37 dX0_busyByNumber_37 kvX0_77 rfl (by first | exact hW.1.1 | exact hW.1.2.1 | exact hW.1.2.2.1 | exact hW.1.2.2.2.1 | exact hW.1.2.2.2.2.1 | exact hW.2.1.1 | exact hW.2.1.2.1 | exact hW.2.1.2.2.1) rfl rfl (c_X0_isBusy hW (fun c_37 => ?_) (fun c_37 => ?_))
    · refine V_if_eq 40 53 dX0_busyByNumber_40 rfl (fun q => absurd q (by decide)) (fun _ => ?_)
      refine V_iload_n 43 dX0_busyByNumber_43 rfl ?_
      refine V_if_ne 44 50 dX0_busyByNumber_44 rfl (fun c_44 => ?_) (fun c_44 => ?_)
      · have e_p : ¬ bnB E t i = true := fun q => c_44 (i32_sub0.mpr (by have := (Bool.and_eq_true_iff.mp q).2; simp at this; exact this.symm))
        refine V_iinc 50 (t - nI (ctN (fun j => bsy E (nI j)) i + 1)) dX0_busyByNumber_50 rfl (i32_sub_inc t _) rfl rfl ?_
        refine V_iinc 53 (nI (i + 1)) dX0_busyByNumber_53 rfl (nI_inc i) rfl rfl ?_
        refine V_goto 56 20 dX0_busyByNumber_56 rfl ?_
        first | exact (ctN_t (p := fun j => bsy E (nI j)) c_37 ▸ ih (i + 1) rfl (by omega) (fun j hj => by rcases Nat.lt_or_ge j i with q | q; exact hinv j q; exact (show j = i by omega) ▸ e_p)) | exact (ctN_f (p := fun j => bsy E (nI j)) (Bool.eq_false_iff.mp c_37) ▸ ih (i + 1) rfl (by omega) (fun j hj => by rcases Nat.lt_or_ge j i with q | q; exact hinv j q; exact (show j = i by omega) ▸ e_p))
      · have e_p : bnB E t i = true := Bool.and_eq_true_iff.mpr ⟨c_37, by simpa using (i32_sub0.mp c_44).symm⟩
        refine V_iload 47 dX0_busyByNumber_47 rfl ?_
        refine V_iret 49 dX0_busyByNumber_49 ?_
        rw [fiN_some (i := i) e_p hinv e_31, if_pos e_31] at k
        exact k
    · have e_p : ¬ bnB E t i = true := fun q => Bool.eq_false_iff.mp c_37 (Bool.and_eq_true_iff.mp q).1
      refine V_if_eq 40 53 dX0_busyByNumber_40 rfl (fun _ => ?_) (fun q => absurd q (by decide))
      refine V_iinc 53 (nI (i + 1)) dX0_busyByNumber_53 rfl (nI_inc i) rfl rfl ?_
      refine V_goto 56 20 dX0_busyByNumber_56 rfl ?_
      first | exact (ctN_t (p := fun j => bsy E (nI j)) c_37 ▸ ih (i + 1) rfl (by omega) (fun j hj => by rcases Nat.lt_or_ge j i with q | q; exact hinv j q; exact (show j = i by omega) ▸ e_p)) | exact (ctN_f (p := fun j => bsy E (nI j)) (Bool.eq_false_iff.mp c_37) ▸ ih (i + 1) rfl (by omega) (fun j hj => by rcases Nat.lt_or_ge j i with q | q; exact hinv j q; exact (show j = i by omega) ▸ e_p))
set_option maxHeartbeats 1000000 in
set_option maxRecDepth 100000 in
theorem c_X0_busyByNumber (hW : WE G h0 h o r E Q) {y : Int32} (k : Post (some (.int (bnE E Q.1 y))) h sz) : Cn l G yX0_busyByNumber cX0_busyByNumber 5 (some .int) 4 0 0 [.ref o, .int y] h sz Post := by
  refine Cn.of RX0 false (by decide) rfl (fun q => by cases q) (Nat.le_of_ble_eq_true rfl) ?_
  refine V_aload_n 0 dX0_busyByNumber_0 rfl ?_
  refine V_iv0 1 dX0_busyByNumber_1 kvX0_104 rfl (by first | exact hW.1.1 | exact hW.1.2.1 | exact hW.1.2.2.1 | exact hW.1.2.2.2.1 | exact hW.1.2.2.2.2.1 | exact hW.2.1.1 | exact hW.2.1.2.1 | exact hW.2.1.2.2.1) rfl rfl (c_X0_busyLinks hW ?_)
  refine V_istore_n 4 dX0_busyByNumber_4 rfl rfl ?_
  refine V_iload_n 5 dX0_busyByNumber_5 rfl ?_
  refine V_if_le 6 15 dX0_busyByNumber_6 rfl (fun c_6 => ?_) (fun c_6 => ?_)
  · refine V_iconstv 15 (0) dX0_busyByNumber_15 (by decide) ?_
    refine V_topi (bnT E Q.1 y) (by first | exact (if_pos c_6).symm | exact (if_neg c_6).symm) ?_
    refine V_istore_n 16 dX0_busyByNumber_16 rfl rfl ?_
    refine V_iconstv 17 (0) dX0_busyByNumber_17 (by decide) ?_
    refine V_istore 18 dX0_busyByNumber_18 rfl rfl ?_
    unfold bnE at k
    have e0 : bnT E Q.1 y - nI (ctN (fun j => bsy E (nI j)) 0) = bnT E Q.1 y := by show bnT E Q.1 y - nI 0 = bnT E Q.1 y; rw [nI_0]; simp
    have K := lp_X0_busyByNumber (l := l) hW (y := y) (b := nI (blE E Q.1)) (t := bnT E Q.1 y) k 0 (Nat.zero_le _) (fun j hj => absurd hj (Nat.not_lt_zero j))
    rw [e0] at K
    exact K
  · refine V_iload_n 9 dX0_busyByNumber_9 rfl ?_
    refine V_iload_n 10 dX0_busyByNumber_10 rfl ?_
    refine V_irem 11 dX0_busyByNumber_11 (fun q => c_6 (by rw [q]; decide)) ?_
    refine V_goto 12 16 dX0_busyByNumber_12 rfl ?_
    refine V_topi (bnT E Q.1 y) (by first | exact (if_pos c_6).symm | exact (if_neg c_6).symm) ?_
    refine V_istore_n 16 dX0_busyByNumber_16 rfl rfl ?_
    refine V_iconstv 17 (0) dX0_busyByNumber_17 (by decide) ?_
    refine V_istore 18 dX0_busyByNumber_18 rfl rfl ?_
    unfold bnE at k
    have e0 : bnT E Q.1 y - nI (ctN (fun j => bsy E (nI j)) 0) = bnT E Q.1 y := by show bnT E Q.1 y - nI 0 = bnT E Q.1 y; rw [nI_0]; simp
    have K := lp_X0_busyByNumber (l := l) hW (y := y) (b := nI (blE E Q.1)) (t := bnT E Q.1 y) k 0 (Nat.zero_le _) (fun j hj => absurd hj (Nat.not_lt_zero j))
    rw [e0] at K
    exact K
set_option maxHeartbeats 1000000 in
set_option maxRecDepth 100000 in
theorem c_X0_chosenLine (hW : WE G h0 h o r E Q) {x b y : Int32} (j : Nat) (hj : j ≤ 12) (hb : b + 1 = nI j) (k : Post (some (.int (chE E Q.1 x j y))) h sz) : Cn l G yX0_chosenLine cX0_chosenLine 4 (some .int) 5 0 0 [.ref o, .int x, .int b, .int y] h sz Post := by
  refine Cn.of RX0 false (by decide) rfl (fun q => by cases q) (Nat.le_of_ble_eq_true rfl) ?_
  refine V_iload_n 0 dX0_chosenLine_0 rfl ?_
  by_cases sw1_0 : x = 0
  · refine V_tableIn 1 28 (27) dX0_chosenLine_1 (by rw [sw1_0]; decide) (by rw [sw1_0]; decide) (by rw [sw1_0]; rfl) rfl ?_
    refine V_aload_n 28 dX0_chosenLine_28 rfl ?_
    refine V_iconstv 29 (-1) dX0_chosenLine_29 (by decide) ?_
    refine V_iv1 30 dX0_chosenLine_30 kvX0_91 rfl (by first | exact hW.1.1 | exact hW.1.2.1 | exact hW.1.2.2.1 | exact hW.1.2.2.2.1 | exact hW.1.2.2.2.2.1 | exact hW.2.1.1 | exact hW.2.1.2.1 | exact hW.2.1.2.2.1) rfl rfl (c_X0_leastBusyAfter hW 0 (by omega) (by decide) ?_)
    refine V_iret 33 dX0_chosenLine_33 ?_
    unfold chE at k
    rw [if_pos sw1_0] at k
    exact k
  by_cases sw1_1 : x = 1
  · refine V_tableIn 1 34 (33) dX0_chosenLine_1 (by rw [sw1_1]; decide) (by rw [sw1_1]; decide) (by rw [sw1_1]; rfl) rfl ?_
    refine V_aload_n 34 dX0_chosenLine_34 rfl ?_
    refine V_iv0 35 dX0_chosenLine_35 kvX0_94 rfl (by first | exact hW.1.1 | exact hW.1.2.1 | exact hW.1.2.2.1 | exact hW.1.2.2.2.1 | exact hW.1.2.2.2.2.1 | exact hW.2.1.1 | exact hW.2.1.2.1 | exact hW.2.1.2.2.1) rfl rfl (c_X0_greatestBusy hW ?_)
    refine V_iret 38 dX0_chosenLine_38 ?_
    unfold chE at k
    rw [if_neg sw1_0, if_pos sw1_1] at k
    exact k
  by_cases sw1_2 : x = 2
  · refine V_tableIn 1 39 (38) dX0_chosenLine_1 (by rw [sw1_2]; decide) (by rw [sw1_2]; decide) (by rw [sw1_2]; rfl) rfl ?_
    refine V_aload_n 39 dX0_chosenLine_39 rfl ?_
    refine V_iload_n 40 dX0_chosenLine_40 rfl ?_
    refine V_iv1 41 dX0_chosenLine_41 kvX0_98 rfl (by first | exact hW.1.1 | exact hW.1.2.1 | exact hW.1.2.2.1 | exact hW.1.2.2.2.1 | exact hW.1.2.2.2.2.1 | exact hW.2.1.1 | exact hW.2.1.2.1 | exact hW.2.1.2.2.1) rfl rfl (c_X0_nextBusyRound hW j hj hb ?_)
    refine V_iret 44 dX0_chosenLine_44 ?_
    unfold chE at k
    rw [if_neg sw1_0, if_neg sw1_1, if_pos sw1_2] at k
    exact k
  have tq0 : ¬ x.toInt = 0 := fun q => sw1_0 (Int32.toInt_inj.mp q)
  have tq1 : ¬ x.toInt = 1 := fun q => sw1_1 (Int32.toInt_inj.mp q)
  have tq2 : ¬ x.toInt = 2 := fun q => sw1_2 (Int32.toInt_inj.mp q)
  refine V_tableOut 1 45 dX0_chosenLine_1 (by omega) rfl ?_
  refine V_aload_n 45 dX0_chosenLine_45 rfl ?_
  refine V_iload_n 46 dX0_chosenLine_46 rfl ?_
  refine V_iv1 47 dX0_chosenLine_47 kvX0_101 rfl (by first | exact hW.1.1 | exact hW.1.2.1 | exact hW.1.2.2.1 | exact hW.1.2.2.2.1 | exact hW.1.2.2.2.2.1 | exact hW.2.1.1 | exact hW.2.1.2.1 | exact hW.2.1.2.2.1) rfl rfl (c_X0_busyByNumber hW ?_)
  refine V_iret 50 dX0_chosenLine_50 ?_
  unfold chE at k
  rw [if_neg sw1_0, if_neg sw1_1, if_neg sw1_2] at k
  exact k
end M16
