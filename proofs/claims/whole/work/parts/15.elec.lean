def ctN (p : Nat → Bool) : Nat → Nat
  | 0 => 0
  | n + 1 => ctN p n + if p n = true then 1 else 0
theorem ctN_le (p : Nat → Bool) : ∀ n, ctN p n ≤ n
  | 0 => Nat.le_refl 0
  | n + 1 => by
    have := ctN_le p n
    simp only [ctN]
    split <;> omega
theorem ctN_t {p : Nat → Bool} {n : Nat} (h : p n = true) : ctN p (n + 1) = ctN p n + 1 := by simp [ctN, h]
theorem ctN_f {p : Nat → Bool} {n : Nat} (h : ¬ p n = true) : ctN p (n + 1) = ctN p n := by simp [ctN, h]
theorem ctN_cong {p q : Nat → Bool} : ∀ {n : Nat}, (∀ k, k < n → p k = q k) → ctN p n = ctN q n
  | 0, _ => rfl
  | n + 1, h => by rw [ctN, ctN, ctN_cong (fun k hk => h k (by omega)), h n (by omega)]
def fiN (p : Nat → Bool) : Nat → Nat
  | 0 => 0
  | n + 1 => if fiN p n < n then fiN p n else if p n = true then n else n + 1
theorem fiN_none {p : Nat → Bool} : ∀ {n : Nat}, (∀ j, j < n → ¬ p j = true) → fiN p n = n
  | 0, _ => rfl
  | n + 1, h => by
    have := fiN_none (p := p) (n := n) (fun j hj => h j (by omega))
    simp [fiN, this, h n (by omega)]
theorem fiN_some {p : Nat → Bool} {i : Nat} (hp : p i = true) (hb : ∀ j, j < i → ¬ p j = true) : ∀ {n : Nat}, i < n → fiN p n = i
  | 0, h => absurd h (Nat.not_lt_zero i)
  | n + 1, h => by
    rcases Nat.lt_or_ge i n with q | q
    · have := fiN_some hp hb q
      simp [fiN, this, q]
    · have hi : i = n := by omega
      subst hi
      have := fiN_none (p := p) (n := i) hb
      simp [fiN, this, hp]
theorem fiN_le (p : Nat → Bool) : ∀ n, fiN p n ≤ n
  | 0 => Nat.le_refl 0
  | n + 1 => by
    have := fiN_le p n
    simp only [fiN]
    split
    · omega
    · split <;> omega
theorem fiN_lt {p : Nat → Bool} : ∀ {n : Nat}, fiN p n < n → p (fiN p n) = true ∧ ∀ j, j < fiN p n → ¬ p j = true
  | 0, h => absurd h (Nat.not_lt_zero _)
  | n + 1, h => by
    simp only [fiN] at h ⊢
    by_cases h1 : fiN p n < n
    · rw [if_pos h1]
      exact fiN_lt h1
    · rw [if_neg h1] at h ⊢
      by_cases h2 : p n = true
      · rw [if_pos h2]
        refine ⟨h2, fun j hj hp => ?_⟩
        have h3 : ∀ m, m ≤ n → j < m → fiN p m < m := by
          intro m
          induction m with
          | zero => intro _ q; omega
          | succ m ih =>
            intro hm hjm
            simp only [fiN]
            by_cases q : j < m
            · rw [if_pos (ih (by omega) q)]
              have := ih (by omega) q
              omega
            · have : j = m := by omega
              subst this
              split
              · omega
              · first | omega | (rw [if_pos hp]; omega)
        exact h1 (h3 n (Nat.le_refl n) hj)
      · rw [if_neg h2] at h
        omega
theorem fiN_ge {p : Nat → Bool} {n : Nat} (h : ¬ fiN p n < n) : ∀ j, j < n → ¬ p j = true := by
  intro j hj hp
  have h3 : ∀ m, j < m → fiN p m < m := by
    intro m
    induction m with
    | zero => intro q; omega
    | succ m ih =>
      intro hjm
      simp only [fiN]
      by_cases q : j < m
      · rw [if_pos (ih q)]
        have := ih q
        omega
      · have : j = m := by omega
        subst this
        split
        · omega
        · first | omega | (rw [if_pos hp]; omega)
  exact h (h3 n hj)
theorem fiN_cong {p q : Nat → Bool} : ∀ {n : Nat}, (∀ k, k < n → p k = q k) → fiN p n = fiN q n
  | 0, _ => rfl
  | n + 1, h => by rw [fiN, fiN, fiN_cong (fun k hk => h k (by omega)), h n (by omega)]
def celE (E : ET) (w k : Int32) : Int32 := if inb (w * 8 + k) 48 = true then eC E (w * 8 + k).toNatClampNeg else -1
def setE (E : ET) (w k v : Int32) : ET := if inb (w * 8 + k) 48 = true then eC' E (upd (eC E) (w * 8 + k).toNatClampNeg v) else E
def lcE (E : ET) (w k : Int32) : Int32 := if inb (w * 6 + k) 72 = true then eL E (w * 6 + k).toNatClampNeg else -1
def snE (E : ET) (k : Int32) : Int32 := if inb k 8 = true then eS E k.toNatClampNeg else 0
theorem lcE_nI (E : ET) {p k : Nat} (hp : p < 12) (hk : k < 6) : lcE E (nI p) (nI k) = eL E (6 * p + k) := by
  have e : nI p * 6 + nI k = nI (6 * p + k) := by
    rw [show (6 : Int32) = nI 6 from rfl, pk_mul, nI_add]
    congr 1
    omega
  unfold lcE
  rw [e, if_pos (inb_nI (by omega) (by decide)), nI_clamp (by omega)]
theorem celE_nI (E : ET) {i k : Nat} (hi : i < 6) (hk : k < 8) : celE E (nI i) (nI k) = eC E (8 * i + k) := by
  have e : nI i * 8 + nI k = nI (8 * i + k) := by
    rw [show (8 : Int32) = nI 8 from rfl, pk_mul, nI_add]
    congr 1
    omega
  unfold celE
  rw [e, if_pos (inb_nI (by omega) (by decide)), nI_clamp (by omega)]
theorem setE_nI (E : ET) {i k : Nat} (hi : i < 6) (hk : k < 8) (v : Int32) : setE E (nI i) (nI k) v = eC' E (upd (eC E) (8 * i + k) v) := by
  have e : nI i * 8 + nI k = nI (8 * i + k) := by
    rw [show (8 : Int32) = nI 8 from rfl, pk_mul, nI_add]
    congr 1
    omega
  unfold setE
  rw [e, if_pos (inb_nI (by omega) (by decide)), nI_clamp (by omega)]
/-- how many are in a state -/
def stE (E : ET) (n : Nat) (x : Int32) : Nat := ctN (fun i => decide (eC E (8 * i) = x)) n
def hdE (E : ET) (n : Nat) : Int32 := if fiN (fun i => decide (eC E (8 * i) = 3)) n < n then nI (fiN (fun i => decide (eC E (8 * i) = 3)) n) else -1
/-- letter k lies on link x -/
def onB (E : ET) (x : Int32) (k : Nat) : Bool := decide (eL E (6 * k) = x)
def loE (E : ET) (x : Int32) : Nat := ctN (onB E x) (eN E)
def plB (E : ET) (x i : Int32) (k : Nat) : Bool := onB E x k && decide (nI (ctN (onB E x) k) = i)
def plE (E : ET) (x i : Int32) : Int32 := if fiN (plB E x i) (eN E) < eN E then nI (fiN (plB E x i) (eN E)) else -1
def bsy (E : ET) (x : Int32) : Bool := decide (fiN (onB E x) (eN E) < eN E)
def blE (E : ET) (n : Nat) : Nat := ctN (fun j => bsy E (nI j)) (2 * n)
def sndE (E : ET) (line kind number phase steps alone : Int32) : ET :=
  if eN E < 12 ∧ 1 ≤ kind ∧ kind ≤ 7 then
    eS' (eN' (eL' E (upd (upd (upd (upd (upd (upd (eL E) (6 * eN E) line) (6 * eN E + 1) kind) (6 * eN E + 2) number) (6 * eN E + 3) phase) (6 * eN E + 4) steps) (6 * eN E + 5) alone)) (eN E + 1))
      (upd (upd (eS E) kind.toNatClampNeg (eS E kind.toNatClampNeg + 1)) 0 (upd (eS E) kind.toNatClampNeg (eS E kind.toNatClampNeg + 1) 0 + 1))
  else E
def tkE (E : ET) (p : Nat) : ET := eL' (eN' (eH' E (va_cpy (eL E) (eH E) (6 * p) 0 6)) (eN E - 1)) (va_cpy (eL E) (eL E) (6 * p + 6) (6 * p) (6 * (eN E - 1 - p)))
section M15
variable {l : Launch} {G : zGT} {h h0 : hpT} {sz : Nat} {Post : Option Value → hpT → Nat → Prop} {o r : Nat} {Q : RG} {E : ET}
set_option maxHeartbeats 1000000 in
set_option maxRecDepth 100000 in
theorem c_X0_cell (hW : WE G h0 h o r E Q) {w x : Int32} (k : Post (some (.int (celE E w x))) h sz) : Cn l G yX0_cell cX0_cell 4 (some .int) 0 0 0 [.ref o, .int w, .int x] h sz Post := by
  refine Cn.of RX0 false (by decide) rfl (fun q => by cases q) (Nat.le_of_ble_eq_true rfl) ?_
  refine V_iload_n 0 dX0_cell_0 rfl ?_
  refine V_bipushv 1 (8) dX0_cell_1 (by decide) ?_
  refine V_imul 3 dX0_cell_3 ?_
  refine V_iload_n 4 dX0_cell_4 rfl ?_
  refine V_iadd 5 dX0_cell_5 ?_
  refine V_istore_n 6 dX0_cell_6 rfl rfl ?_
  refine V_iload_n 7 dX0_cell_7 rfl ?_
  refine V_if_lt 8 29 dX0_cell_8 rfl (fun c_8 => ?_) (fun c_8 => ?_)
  · refine V_iconstv 29 (-1) dX0_cell_29 (by decide) ?_
    refine V_iret 30 dX0_cell_30 ?_
    unfold celE at k
    first | (rw [if_pos (inb_of (N := 48) (by decide) c_8 c_17)] at k; exact k) | (rw [inb_f1 c_8] at k; exact k) | (rw [inb_f2 (N := 48) (by decide) c_17] at k; exact k)
  · refine V_iload_n 11 dX0_cell_11 rfl ?_
    refine V_aload_n 12 dX0_cell_12 rfl ?_
    refine V_get 13 dX0_cell_13 fdX0_18 (by first | exact hW.1.1 | exact hW.1.2.1 | exact hW.1.2.2.1 | exact hW.1.2.2.2.1 | exact hW.1.2.2.2.2.1 | exact hW.2.1.1 | exact hW.2.1.2.1 | exact hW.2.1.2.2.1) rfl ?_
    refine V_alenI 16 48 dX0_cell_16 (by first | exact hW.1.1 | exact hW.1.2.1 | exact hW.1.2.2.1 | exact hW.1.2.2.2.1 | exact hW.1.2.2.2.2.1 | exact hW.2.1.1 | exact hW.2.1.2.1 | exact hW.2.1.2.2.1) rfl ?_
    refine V_icmp_ge 17 29 dX0_cell_17 rfl (fun c_17 => ?_) (fun c_17 => ?_)
    · refine V_iconstv 29 (-1) dX0_cell_29 (by decide) ?_
      refine V_iret 30 dX0_cell_30 ?_
      unfold celE at k
      first | (rw [if_pos (inb_of (N := 48) (by decide) c_8 c_17)] at k; exact k) | (rw [inb_f1 c_8] at k; exact k) | (rw [inb_f2 (N := 48) (by decide) c_17] at k; exact k)
    · refine V_aload_n 20 dX0_cell_20 rfl ?_
      refine V_get 21 dX0_cell_21 fdX0_18 (by first | exact hW.1.1 | exact hW.1.2.1 | exact hW.1.2.2.1 | exact hW.1.2.2.2.1 | exact hW.1.2.2.2.2.1 | exact hW.2.1.1 | exact hW.2.1.2.1 | exact hW.2.1.2.2.1) rfl ?_
      refine V_iload_n 24 dX0_cell_24 rfl ?_
      refine V_iald 25 dX0_cell_25 (by first | exact hW.1.1 | exact hW.1.2.1 | exact hW.1.2.2.1 | exact hW.1.2.2.2.1 | exact hW.1.2.2.2.2.1 | exact hW.2.1.1 | exact hW.2.1.2.1 | exact hW.2.1.2.2.1) (inb_in (inb_of (by decide) c_8 c_17)) ?_
      refine V_goto 26 30 dX0_cell_26 rfl ?_
      refine V_iret 30 dX0_cell_30 ?_
      unfold celE at k
      first | (rw [if_pos (inb_of (N := 48) (by decide) c_8 c_17)] at k; exact k) | (rw [inb_f1 c_8] at k; exact k) | (rw [inb_f2 (N := 48) (by decide) c_17] at k; exact k)
set_option maxHeartbeats 1000000 in
set_option maxRecDepth 100000 in
theorem c_X0_setCell (hW : WE G h0 h o r E Q) {w x v : Int32} (k : ∀ h, WE G h0 h o r (setE E w x v) Q → Post none h sz) : Cn l G yX0_setCell cX0_setCell 5 none 0 0 0 [.ref o, .int w, .int x, .int v] h sz Post := by
  refine Cn.of RX0 false (by decide) rfl (fun q => by cases q) (Nat.le_of_ble_eq_true rfl) ?_
  refine V_iload_n 0 dX0_setCell_0 rfl ?_
  refine V_bipushv 1 (8) dX0_setCell_1 (by decide) ?_
  refine V_imul 3 dX0_setCell_3 ?_
  refine V_iload_n 4 dX0_setCell_4 rfl ?_
  refine V_iadd 5 dX0_setCell_5 ?_
  refine V_istore 6 dX0_setCell_6 rfl rfl ?_
  refine V_iload 8 dX0_setCell_8 rfl ?_
  refine V_if_lt 10 31 dX0_setCell_10 rfl (fun c_10 => ?_) (fun c_10 => ?_)
  · refine V_vret 31 dX0_setCell_31 ?_
    unfold setE at k
    first | (rw [if_pos (inb_of (N := 48) (by decide) c_10 c_20)] at k; exact k _ hW) | (rw [inb_f1 c_10] at k; exact k _ hW) | (rw [inb_f2 (N := 48) (by decide) c_20] at k; exact k _ hW)
  · refine V_iload 13 dX0_setCell_13 rfl ?_
    refine V_aload_n 15 dX0_setCell_15 rfl ?_
    refine V_get 16 dX0_setCell_16 fdX0_18 (by first | exact hW.1.1 | exact hW.1.2.1 | exact hW.1.2.2.1 | exact hW.1.2.2.2.1 | exact hW.1.2.2.2.2.1 | exact hW.2.1.1 | exact hW.2.1.2.1 | exact hW.2.1.2.2.1) rfl ?_
    refine V_alenI 19 48 dX0_setCell_19 (by first | exact hW.1.1 | exact hW.1.2.1 | exact hW.1.2.2.1 | exact hW.1.2.2.2.1 | exact hW.1.2.2.2.2.1 | exact hW.2.1.1 | exact hW.2.1.2.1 | exact hW.2.1.2.2.1) rfl ?_
    refine V_icmp_ge 20 31 dX0_setCell_20 rfl (fun c_20 => ?_) (fun c_20 => ?_)
    · refine V_vret 31 dX0_setCell_31 ?_
      unfold setE at k
      first | (rw [if_pos (inb_of (N := 48) (by decide) c_10 c_20)] at k; exact k _ hW) | (rw [inb_f1 c_10] at k; exact k _ hW) | (rw [inb_f2 (N := 48) (by decide) c_20] at k; exact k _ hW)
    · refine V_aload_n 23 dX0_setCell_23 rfl ?_
      refine V_get 24 dX0_setCell_24 fdX0_18 (by first | exact hW.1.1 | exact hW.1.2.1 | exact hW.1.2.2.1 | exact hW.1.2.2.2.1 | exact hW.1.2.2.2.2.1 | exact hW.2.1.1 | exact hW.2.1.2.1 | exact hW.2.1.2.2.1) rfl ?_
      refine V_iload 27 dX0_setCell_27 rfl ?_
      refine V_iload_n 29 dX0_setCell_29 rfl ?_
      refine V_iastC 30 (w * 8 + x).toNatClampNeg rfl dX0_setCell_30 hW (inb_in (inb_of (by decide) c_10 c_20)) (fun h hW => ?_)
      refine V_vret 31 dX0_setCell_31 ?_
      unfold setE at k
      first | (rw [if_pos (inb_of (N := 48) (by decide) c_10 c_20)] at k; exact k _ hW) | (rw [inb_f1 c_10] at k; exact k _ hW) | (rw [inb_f2 (N := 48) (by decide) c_20] at k; exact k _ hW)
set_option maxHeartbeats 1000000 in
set_option maxRecDepth 100000 in
theorem c_X0_letterCell (hW : WE G h0 h o r E Q) {w x : Int32} (k : Post (some (.int (lcE E w x))) h sz) : Cn l G yX0_letterCell cX0_letterCell 4 (some .int) 0 0 0 [.ref o, .int w, .int x] h sz Post := by
  refine Cn.of RX0 false (by decide) rfl (fun q => by cases q) (Nat.le_of_ble_eq_true rfl) ?_
  refine V_iload_n 0 dX0_letterCell_0 rfl ?_
  refine V_bipushv 1 (6) dX0_letterCell_1 (by decide) ?_
  refine V_imul 3 dX0_letterCell_3 ?_
  refine V_iload_n 4 dX0_letterCell_4 rfl ?_
  refine V_iadd 5 dX0_letterCell_5 ?_
  refine V_istore_n 6 dX0_letterCell_6 rfl rfl ?_
  refine V_iload_n 7 dX0_letterCell_7 rfl ?_
  refine V_if_lt 8 29 dX0_letterCell_8 rfl (fun c_8 => ?_) (fun c_8 => ?_)
  · refine V_iconstv 29 (-1) dX0_letterCell_29 (by decide) ?_
    refine V_iret 30 dX0_letterCell_30 ?_
    unfold lcE at k
    first | (rw [if_pos (inb_of (N := 72) (by decide) c_8 c_17)] at k; exact k) | (rw [inb_f1 c_8] at k; exact k) | (rw [inb_f2 (N := 72) (by decide) c_17] at k; exact k)
  · refine V_iload_n 11 dX0_letterCell_11 rfl ?_
    refine V_aload_n 12 dX0_letterCell_12 rfl ?_
    refine V_get 13 dX0_letterCell_13 fdX0_22 (by first | exact hW.1.1 | exact hW.1.2.1 | exact hW.1.2.2.1 | exact hW.1.2.2.2.1 | exact hW.1.2.2.2.2.1 | exact hW.2.1.1 | exact hW.2.1.2.1 | exact hW.2.1.2.2.1) rfl ?_
    refine V_alenI 16 72 dX0_letterCell_16 (by first | exact hW.1.1 | exact hW.1.2.1 | exact hW.1.2.2.1 | exact hW.1.2.2.2.1 | exact hW.1.2.2.2.2.1 | exact hW.2.1.1 | exact hW.2.1.2.1 | exact hW.2.1.2.2.1) rfl ?_
    refine V_icmp_ge 17 29 dX0_letterCell_17 rfl (fun c_17 => ?_) (fun c_17 => ?_)
    · refine V_iconstv 29 (-1) dX0_letterCell_29 (by decide) ?_
      refine V_iret 30 dX0_letterCell_30 ?_
      unfold lcE at k
      first | (rw [if_pos (inb_of (N := 72) (by decide) c_8 c_17)] at k; exact k) | (rw [inb_f1 c_8] at k; exact k) | (rw [inb_f2 (N := 72) (by decide) c_17] at k; exact k)
    · refine V_aload_n 20 dX0_letterCell_20 rfl ?_
      refine V_get 21 dX0_letterCell_21 fdX0_22 (by first | exact hW.1.1 | exact hW.1.2.1 | exact hW.1.2.2.1 | exact hW.1.2.2.2.1 | exact hW.1.2.2.2.2.1 | exact hW.2.1.1 | exact hW.2.1.2.1 | exact hW.2.1.2.2.1) rfl ?_
      refine V_iload_n 24 dX0_letterCell_24 rfl ?_
      refine V_iald 25 dX0_letterCell_25 (by first | exact hW.1.1 | exact hW.1.2.1 | exact hW.1.2.2.1 | exact hW.1.2.2.2.1 | exact hW.1.2.2.2.2.1 | exact hW.2.1.1 | exact hW.2.1.2.1 | exact hW.2.1.2.2.1) (inb_in (inb_of (by decide) c_8 c_17)) ?_
      refine V_goto 26 30 dX0_letterCell_26 rfl ?_
      refine V_iret 30 dX0_letterCell_30 ?_
      unfold lcE at k
      first | (rw [if_pos (inb_of (N := 72) (by decide) c_8 c_17)] at k; exact k) | (rw [inb_f1 c_8] at k; exact k) | (rw [inb_f2 (N := 72) (by decide) c_17] at k; exact k)
set_option maxHeartbeats 1000000 in
set_option maxRecDepth 100000 in
theorem c_X0_sentOf (hW : WE G h0 h o r E Q) {w : Int32} (k : Post (some (.int (snE E w))) h sz) : Cn l G yX0_sentOf cX0_sentOf 2 (some .int) 1 0 0 [.ref o, .int w] h sz Post := by
  refine Cn.of RX0 false (by decide) rfl (fun q => by cases q) (Nat.le_of_ble_eq_true rfl) ?_
  refine V_iload_n 0 dX0_sentOf_0 rfl ?_
  refine V_iconstv 1 (0) dX0_sentOf_1 (by decide) ?_
  refine V_bipushv 2 (7) dX0_sentOf_2 (by decide) ?_
  refine V_is3 4 dX0_sentOf_4 ksX0_56 rfl rfl (c_X5_within (fun c_4 => ?_) (fun c_4 => ?_))
  · refine V_if_eq 7 19 dX0_sentOf_7 rfl (fun q => absurd q (by decide)) (fun _ => ?_)
    refine V_aload_n 10 dX0_sentOf_10 rfl ?_
    refine V_get 11 dX0_sentOf_11 fdX0_28 (by first | exact hW.1.1 | exact hW.1.2.1 | exact hW.1.2.2.1 | exact hW.1.2.2.2.1 | exact hW.1.2.2.2.2.1 | exact hW.2.1.1 | exact hW.2.1.2.1 | exact hW.2.1.2.2.1) rfl ?_
    refine V_iload_n 14 dX0_sentOf_14 rfl ?_
    refine V_iald 15 dX0_sentOf_15 (by first | exact hW.1.1 | exact hW.1.2.1 | exact hW.1.2.2.1 | exact hW.1.2.2.2.1 | exact hW.1.2.2.2.2.1 | exact hW.2.1.1 | exact hW.2.1.2.1 | exact hW.2.1.2.2.1) (inb_in ((inb_le (by decide)).mpr c_4)) ?_
    refine V_goto 16 20 dX0_sentOf_16 rfl ?_
    refine V_iret 20 dX0_sentOf_20 ?_
    unfold snE at k
    first | (rw [if_pos ((inb_le (by decide)).mpr c_4)] at k; exact k) | (rw [if_neg (fun q => c_4 ((inb_le (by decide)).mp q))] at k; exact k)
  · refine V_if_eq 7 19 dX0_sentOf_7 rfl (fun _ => ?_) (fun q => absurd q (by decide))
    refine V_iconstv 19 (0) dX0_sentOf_19 (by decide) ?_
    refine V_iret 20 dX0_sentOf_20 ?_
    unfold snE at k
    first | (rw [if_pos ((inb_le (by decide)).mpr c_4)] at k; exact k) | (rw [if_neg (fun q => c_4 ((inb_le (by decide)).mp q))] at k; exact k)
set_option maxHeartbeats 1000000 in
set_option maxRecDepth 100000 in
theorem c_X0_isBegun (hW : WE G h0 h o r E Q) (k1 : ¬ eW E = 0 → Post (some (.int 1)) h sz) (k0 : eW E = 0 → Post (some (.int 0)) h sz) : Cn l G yX0_isBegun cX0_isBegun 1 (some .boolean) 0 0 0 [.ref o] h sz Post := by
  refine Cn.of RX0 false (by decide) rfl (fun q => by cases q) (Nat.le_of_ble_eq_true rfl) ?_
  refine V_aload_n 0 dX0_isBegun_0 rfl ?_
  refine V_get 1 dX0_isBegun_1 fdX0_9 (by first | exact hW.1.1 | exact hW.1.2.1 | exact hW.1.2.2.1 | exact hW.1.2.2.2.1 | exact hW.1.2.2.2.2.1 | exact hW.2.1.1 | exact hW.2.1.2.1 | exact hW.2.1.2.2.1) rfl ?_
  refine V_if_eq 4 11 dX0_isBegun_4 rfl (fun c_4 => ?_) (fun c_4 => ?_)
  · refine V_iconstv 11 (0) dX0_isBegun_11 (by decide) ?_
    refine V_zret 12 dX0_isBegun_12 (Or.inl rfl) ?_
    exact k0 c_4
  · refine V_iconstv 7 (1) dX0_isBegun_7 (by decide) ?_
    refine V_goto 8 12 dX0_isBegun_8 rfl ?_
    refine V_zret 12 dX0_isBegun_12 (Or.inr rfl) ?_
    exact k1 c_4
set_option maxHeartbeats 1000000 in
set_option maxRecDepth 100000 in
theorem lp_X0_inState (hW : WE G h0 h o r E Q) {x : Int32} (n : Nat) (hn : n ≤ 6) (k : Post (some (.int (nI (stE E n x)))) h sz) : ∀ i, i ≤ n → V l G RX0 cX0_inState 5 (some .int) false 1 0 0 Post 24 [some (.ref o), some (.int x), some (.int (nI (stE E i x))), some (.int (nI n)), some (.int (nI i))] [] h sz := by
  refine up_ind n (fun i hi ih => ?_)
  refine V_iload 24 dX0_inState_24 rfl ?_
  refine V_iload_n 26 dX0_inState_26 rfl ?_
  refine V_icmp_ge 27 55 dX0_inState_27 rfl (fun c_27 => ?_) (fun c_27 => ?_)
  · have e_27 : i = n := Nat.le_antisymm hi ((nI_leI (by omega) (by omega)).mp c_27)
    subst e_27
    refine V_iload_n 55 dX0_inState_55 rfl ?_
    refine V_iret 56 dX0_inState_56 ?_
    exact k
  · have e_27 : i < n := Nat.lt_of_not_le (fun q => c_27 (nI_le q (by omega)))
    refine V_iload_n 30 dX0_inState_30 rfl ?_
    refine V_aload_n 31 dX0_inState_31 rfl ?_
    refine V_iload 32 dX0_inState_32 rfl ?_
    refine V_iconstv 34 (0) dX0_inState_34 (by decide) ?_
    refine V_iv2 35 dX0_inState_35 kvX0_67 rfl (by first | exact hW.1.1 | exact hW.1.2.1 | exact hW.1.2.2.1 | exact hW.1.2.2.2.1 | exact hW.1.2.2.2.2.1 | exact hW.2.1.1 | exact hW.2.1.2.1 | exact hW.2.1.2.2.1) rfl rfl (c_X0_cell hW ?_)
    refine V_topi (eC E (8 * i)) (celE_nI E (k := 0) (by omega) (by omega)) ?_
    refine V_iload_n 38 dX0_inState_38 rfl ?_
    refine V_icmp_ne 39 46 dX0_inState_39 rfl (fun c_39 => ?_) (fun c_39 => ?_)
    · have e_39 : nI (stE E i x) + 0 = nI (stE E (i + 1) x) := by rw [show (0 : Int32) = nI 0 from rfl, nI_add]; unfold stE; rw [ctN_f (by simpa using c_39)]; rfl
      refine V_iconstv 46 (0) dX0_inState_46 (by decide) ?_
      refine V_iadd 47 dX0_inState_47 ?_
      refine V_topi _ e_39 ?_
      refine V_istore_n 48 dX0_inState_48 rfl rfl ?_
      refine V_iinc 49 (nI (i + 1)) dX0_inState_49 rfl (nI_inc i) rfl rfl ?_
      refine V_goto 52 24 dX0_inState_52 rfl ?_
      exact ih (i + 1) rfl (by omega)
    · have e_39 : nI (stE E i x) + 1 = nI (stE E (i + 1) x) := by rw [nI_1]; unfold stE; rw [ctN_t (by simpa using c_39)]
      refine V_iconstv 42 (1) dX0_inState_42 (by decide) ?_
      refine V_goto 43 47 dX0_inState_43 rfl ?_
      refine V_iadd 47 dX0_inState_47 ?_
      refine V_topi _ e_39 ?_
      refine V_istore_n 48 dX0_inState_48 rfl rfl ?_
      refine V_iinc 49 (nI (i + 1)) dX0_inState_49 rfl (nI_inc i) rfl rfl ?_
      refine V_goto 52 24 dX0_inState_52 rfl ?_
      exact ih (i + 1) rfl (by omega)
set_option maxHeartbeats 1000000 in
set_option maxRecDepth 100000 in
theorem c_X0_inState (hW : WE G h0 h o r E Q) {x : Int32} (k : Post (some (.int (nI (stE E (if eW E = 0 then 0 else Q.1) x)))) h sz) : Cn l G yX0_inState cX0_inState 5 (some .int) 1 0 0 [.ref o, .int x] h sz Post := by
  refine Cn.of RX0 false (by decide) rfl (fun q => by cases q) (Nat.le_of_ble_eq_true rfl) ?_
  refine V_iconstv 0 (0) dX0_inState_0 (by decide) ?_
  refine V_istore_n 1 dX0_inState_1 rfl rfl ?_
  refine V_aload_n 2 dX0_inState_2 rfl ?_
  refine V_iv0 3 dX0_inState_3 kvX0_60 rfl (by first | exact hW.1.1 | exact hW.1.2.1 | exact hW.1.2.2.1 | exact hW.1.2.2.2.1 | exact hW.1.2.2.2.2.1 | exact hW.2.1.1 | exact hW.2.1.2.1 | exact hW.2.1.2.2.1) rfl rfl (c_X0_isBegun hW (fun c_3 => ?_) (fun c_3 => ?_))
  · refine V_if_eq 6 19 dX0_inState_6 rfl (fun q => absurd q (by decide)) (fun _ => ?_)
    refine V_aload_n 9 dX0_inState_9 rfl ?_
    refine V_get 10 dX0_inState_10 fdX0_34 (by first | exact hW.1.1 | exact hW.1.2.1 | exact hW.1.2.2.1 | exact hW.1.2.2.2.1 | exact hW.1.2.2.2.2.1 | exact hW.2.1.1 | exact hW.2.1.2.1 | exact hW.2.1.2.2.1) rfl ?_
    refine V_get 13 dX0_inState_13 fdX0_64 (by first | exact hW.1.1 | exact hW.1.2.1 | exact hW.1.2.2.1 | exact hW.1.2.2.2.1 | exact hW.1.2.2.2.2.1 | exact hW.2.1.1 | exact hW.2.1.2.1 | exact hW.2.1.2.2.1) rfl ?_
    refine V_goto 16 20 dX0_inState_16 rfl ?_
    refine V_istore_n 20 dX0_inState_20 rfl rfl ?_
    refine V_iconstv 21 (0) dX0_inState_21 (by decide) ?_
    refine V_istore 22 dX0_inState_22 rfl rfl ?_
    have hn := hW.2.1.2.2.2.1
    first | (rw [if_pos c_3] at k; exact lp_X0_inState hW 0 (by omega) k 0 (Nat.zero_le _)) | (rw [if_neg c_3] at k; exact lp_X0_inState hW Q.1 hn k 0 (Nat.zero_le _))
  · refine V_if_eq 6 19 dX0_inState_6 rfl (fun _ => ?_) (fun q => absurd q (by decide))
    refine V_iconstv 19 (0) dX0_inState_19 (by decide) ?_
    refine V_istore_n 20 dX0_inState_20 rfl rfl ?_
    refine V_iconstv 21 (0) dX0_inState_21 (by decide) ?_
    refine V_istore 22 dX0_inState_22 rfl rfl ?_
    have hn := hW.2.1.2.2.2.1
    first | (rw [if_pos c_3] at k; exact lp_X0_inState hW 0 (by omega) k 0 (Nat.zero_le _)) | (rw [if_neg c_3] at k; exact lp_X0_inState hW Q.1 hn k 0 (Nat.zero_le _))
set_option maxHeartbeats 1000000 in
set_option maxRecDepth 100000 in
theorem lp_X0_head (hW : WE G h0 h o r E Q) (k : Post (some (.int (hdE E Q.1))) h sz) : ∀ i, i ≤ Q.1 → (∀ j, j < i → ¬ decide (eC E (8 * j) = 3) = true) → V l G RX0 cX0_head 2 (some .int) false 1 0 0 Post 2 [some (.ref o), some (.int (nI i))] [] h sz := by
  have hn := hW.2.1.2.2.2.1
  refine up_ind Q.1 (fun i hi ih hinv => ?_)
  refine V_iload_n 2 dX0_head_2 rfl ?_
  refine V_aload_n 3 dX0_head_3 rfl ?_
  refine V_get 4 dX0_head_4 fdX0_34 (by first | exact hW.1.1 | exact hW.1.2.1 | exact hW.1.2.2.1 | exact hW.1.2.2.2.1 | exact hW.1.2.2.2.2.1 | exact hW.2.1.1 | exact hW.2.1.2.1 | exact hW.2.1.2.2.1) rfl ?_
  refine V_get 7 dX0_head_7 fdX0_64 (by first | exact hW.1.1 | exact hW.1.2.1 | exact hW.1.2.2.1 | exact hW.1.2.2.2.1 | exact hW.1.2.2.2.2.1 | exact hW.2.1.1 | exact hW.2.1.2.1 | exact hW.2.1.2.2.1) rfl ?_
  refine V_icmp_ge 10 31 dX0_head_10 rfl (fun c_10 => ?_) (fun c_10 => ?_)
  · have e_10 : i = Q.1 := Nat.le_antisymm hi ((nI_leI (by omega) (by omega)).mp c_10)
    refine V_iconstv 31 (-1) dX0_head_31 (by decide) ?_
    refine V_iret 32 dX0_head_32 ?_
    unfold hdE at k
    rw [fiN_none (fun j hj => hinv j (by omega)), if_neg (by omega)] at k
    exact k
  · have e_10 : i < Q.1 := Nat.lt_of_not_le (fun q => c_10 (nI_le q (by omega)))
    refine V_aload_n 13 dX0_head_13 rfl ?_
    refine V_iload_n 14 dX0_head_14 rfl ?_
    refine V_iconstv 15 (0) dX0_head_15 (by decide) ?_
    refine V_iv2 16 dX0_head_16 kvX0_67 rfl (by first | exact hW.1.1 | exact hW.1.2.1 | exact hW.1.2.2.1 | exact hW.1.2.2.2.1 | exact hW.1.2.2.2.2.1 | exact hW.2.1.1 | exact hW.2.1.2.1 | exact hW.2.1.2.2.1) rfl rfl (c_X0_cell hW ?_)
    refine V_topi (eC E (8 * i)) (celE_nI E (k := 0) (by omega) (by omega)) ?_
    refine V_iconstv 19 (3) dX0_head_19 (by decide) ?_
    refine V_icmp_ne 20 25 dX0_head_20 rfl (fun c_20 => ?_) (fun c_20 => ?_)
    · refine V_iinc 25 (nI (i + 1)) dX0_head_25 rfl (nI_inc i) rfl rfl ?_
      refine V_goto 28 2 dX0_head_28 rfl ?_
      exact ih (i + 1) rfl (by omega) (fun j hj => by rcases Nat.lt_or_ge j i with q | q; exact hinv j q; exact (show j = i by omega) ▸ (by simpa using c_20))
    · refine V_iload_n 23 dX0_head_23 rfl ?_
      refine V_iret 24 dX0_head_24 ?_
      unfold hdE at k
      rw [fiN_some (i := i) (by simpa using c_20) hinv e_10, if_pos e_10] at k
      exact k
set_option maxHeartbeats 1000000 in
set_option maxRecDepth 100000 in
theorem c_X0_head (hW : WE G h0 h o r E Q) (k : Post (some (.int (hdE E Q.1))) h sz) : Cn l G yX0_head cX0_head 2 (some .int) 1 0 0 [.ref o] h sz Post := by
  refine Cn.of RX0 false (by decide) rfl (fun q => by cases q) (Nat.le_of_ble_eq_true rfl) ?_
  refine V_iconstv 0 (0) dX0_head_0 (by decide) ?_
  refine V_istore_n 1 dX0_head_1 rfl rfl ?_
  exact lp_X0_head hW k 0 (Nat.zero_le _) (fun j hj => absurd hj (Nat.not_lt_zero j))
set_option maxHeartbeats 1000000 in
set_option maxRecDepth 100000 in
theorem lp_X0_lettersOn (hW : WE G h0 h o r E Q) {x : Int32} (k : Post (some (.int (nI (loE E x)))) h sz) : ∀ i, i ≤ eN E → V l G RX0 cX0_lettersOn 4 (some .int) false 1 0 0 Post 4 [some (.ref o), some (.int x), some (.int (nI (ctN (onB E x) i))), some (.int (nI i))] [] h sz := by
  have hn := hW.1.2.2.2.2.2.1
  refine up_ind (eN E) (fun i hi ih => ?_)
  refine V_iload_n 4 dX0_lettersOn_4 rfl ?_
  refine V_aload_n 5 dX0_lettersOn_5 rfl ?_
  refine V_get 6 dX0_lettersOn_6 fdX0_25 (by first | exact hW.1.1 | exact hW.1.2.1 | exact hW.1.2.2.1 | exact hW.1.2.2.2.1 | exact hW.1.2.2.2.2.1 | exact hW.2.1.1 | exact hW.2.1.2.1 | exact hW.2.1.2.2.1) rfl ?_
  refine V_icmp_ge 9 36 dX0_lettersOn_9 rfl (fun c_9 => ?_) (fun c_9 => ?_)
  · have e_9 : i = eN E := Nat.le_antisymm hi ((nI_leI (by omega) (by omega)).mp c_9)
    subst e_9
    refine V_iload_n 36 dX0_lettersOn_36 rfl ?_
    refine V_iret 37 dX0_lettersOn_37 ?_
    exact k
  · have e_9 : i < eN E := Nat.lt_of_not_le (fun q => c_9 (nI_le q (by omega)))
    refine V_iload_n 12 dX0_lettersOn_12 rfl ?_
    refine V_aload_n 13 dX0_lettersOn_13 rfl ?_
    refine V_iload_n 14 dX0_lettersOn_14 rfl ?_
    refine V_iconstv 15 (0) dX0_lettersOn_15 (by decide) ?_
    refine V_iv2 16 dX0_lettersOn_16 kvX0_71 rfl (by first | exact hW.1.1 | exact hW.1.2.1 | exact hW.1.2.2.1 | exact hW.1.2.2.2.1 | exact hW.1.2.2.2.2.1 | exact hW.2.1.1 | exact hW.2.1.2.1 | exact hW.2.1.2.2.1) rfl rfl (c_X0_letterCell hW ?_)
    refine V_topi (eL E (6 * i)) (lcE_nI E (k := 0) (by omega) (by omega)) ?_
    refine V_iload_n 19 dX0_lettersOn_19 rfl ?_
    refine V_icmp_ne 20 27 dX0_lettersOn_20 rfl (fun c_20 => ?_) (fun c_20 => ?_)
    · have e_20 : nI (ctN (onB E x) i) + 0 = nI (ctN (onB E x) (i + 1)) := by rw [show (0 : Int32) = nI 0 from rfl, nI_add, ctN_f (by simpa [onB] using c_20)]; rfl
      refine V_iconstv 27 (0) dX0_lettersOn_27 (by decide) ?_
      refine V_iadd 28 dX0_lettersOn_28 ?_
      refine V_topi _ e_20 ?_
      refine V_istore_n 29 dX0_lettersOn_29 rfl rfl ?_
      refine V_iinc 30 (nI (i + 1)) dX0_lettersOn_30 rfl (nI_inc i) rfl rfl ?_
      refine V_goto 33 4 dX0_lettersOn_33 rfl ?_
      exact ih (i + 1) rfl (by omega)
    · have e_20 : nI (ctN (onB E x) i) + 1 = nI (ctN (onB E x) (i + 1)) := by rw [nI_1, ctN_t (by simpa [onB] using c_20)]
      refine V_iconstv 23 (1) dX0_lettersOn_23 (by decide) ?_
      refine V_goto 24 28 dX0_lettersOn_24 rfl ?_
      refine V_iadd 28 dX0_lettersOn_28 ?_
      refine V_topi _ e_20 ?_
      refine V_istore_n 29 dX0_lettersOn_29 rfl rfl ?_
      refine V_iinc 30 (nI (i + 1)) dX0_lettersOn_30 rfl (nI_inc i) rfl rfl ?_
      refine V_goto 33 4 dX0_lettersOn_33 rfl ?_
      exact ih (i + 1) rfl (by omega)
set_option maxHeartbeats 1000000 in
set_option maxRecDepth 100000 in
theorem c_X0_lettersOn (hW : WE G h0 h o r E Q) {x : Int32} (k : Post (some (.int (nI (loE E x)))) h sz) : Cn l G yX0_lettersOn cX0_lettersOn 4 (some .int) 1 0 0 [.ref o, .int x] h sz Post := by
  refine Cn.of RX0 false (by decide) rfl (fun q => by cases q) (Nat.le_of_ble_eq_true rfl) ?_
  refine V_iconstv 0 (0) dX0_lettersOn_0 (by decide) ?_
  refine V_istore_n 1 dX0_lettersOn_1 rfl rfl ?_
  refine V_iconstv 2 (0) dX0_lettersOn_2 (by decide) ?_
  refine V_istore_n 3 dX0_lettersOn_3 rfl rfl ?_
  exact lp_X0_lettersOn hW k 0 (Nat.zero_le _)
set_option maxHeartbeats 1000000 in
set_option maxRecDepth 100000 in
theorem lp_X0_placeOf (hW : WE G h0 h o r E Q) {x z : Int32} (k : Post (some (.int (plE E x z))) h sz) : ∀ i, i ≤ eN E → (∀ j, j < i → ¬ plB E x z j = true) → V l G RX0 cX0_placeOf 5 (some .int) false 1 0 0 Post 5 [some (.ref o), some (.int x), some (.int z), some (.int (nI (ctN (onB E x) i))), some (.int (nI i))] [] h sz := by
  have hn := hW.1.2.2.2.2.2.1
  refine up_ind (eN E) (fun i hi ih hinv => ?_)
  refine V_iload 5 dX0_placeOf_5 rfl ?_
  refine V_aload_n 7 dX0_placeOf_7 rfl ?_
  refine V_get 8 dX0_placeOf_8 fdX0_25 (by first | exact hW.1.1 | exact hW.1.2.1 | exact hW.1.2.2.1 | exact hW.1.2.2.2.1 | exact hW.1.2.2.2.2.1 | exact hW.2.1.1 | exact hW.2.1.2.1 | exact hW.2.1.2.2.1) rfl ?_
  refine V_icmp_ge 11 42 dX0_placeOf_11 rfl (fun c_11 => ?_) (fun c_11 => ?_)
  · have e_11 : i = eN E := Nat.le_antisymm hi ((nI_leI (by omega) (by omega)).mp c_11)
    refine V_iconstv 42 (-1) dX0_placeOf_42 (by decide) ?_
    refine V_iret 43 dX0_placeOf_43 ?_
    unfold plE at k
    rw [fiN_none (fun j hj => hinv j (by omega)), if_neg (by omega)] at k
    exact k
  · have e_11 : i < eN E := Nat.lt_of_not_le (fun q => c_11 (nI_le q (by omega)))
    refine V_aload_n 14 dX0_placeOf_14 rfl ?_
    refine V_iload 15 dX0_placeOf_15 rfl ?_
    refine V_iconstv 17 (0) dX0_placeOf_17 (by decide) ?_
    refine V_iv2 18 dX0_placeOf_18 kvX0_71 rfl (by first | exact hW.1.1 | exact hW.1.2.1 | exact hW.1.2.2.1 | exact hW.1.2.2.2.1 | exact hW.1.2.2.2.2.1 | exact hW.2.1.1 | exact hW.2.1.2.1 | exact hW.2.1.2.2.1) rfl rfl (c_X0_letterCell hW ?_)
    refine V_topi (eL E (6 * i)) (lcE_nI E (k := 0) (by omega) (by omega)) ?_
    refine V_iload_n 21 dX0_placeOf_21 rfl ?_
    refine V_icmp_ne 22 36 dX0_placeOf_22 rfl (fun c_22 => ?_) (fun c_22 => ?_)
    · have e_22 : ¬ onB E x i = true := by simpa [onB] using c_22
      have e_p : ¬ plB E x z i = true := fun q => e_22 (Bool.and_eq_true_iff.mp q).1
      refine V_iinc 36 (nI (i + 1)) dX0_placeOf_36 rfl (nI_inc i) rfl rfl ?_
      refine V_goto 39 5 dX0_placeOf_39 rfl ?_
      first | exact (ctN_t e_22 ▸ ih (i + 1) rfl (by omega) (fun j hj => by rcases Nat.lt_or_ge j i with q | q; exact hinv j q; exact (show j = i by omega) ▸ e_p)) | exact (ctN_f e_22 ▸ ih (i + 1) rfl (by omega) (fun j hj => by rcases Nat.lt_or_ge j i with q | q; exact hinv j q; exact (show j = i by omega) ▸ e_p))
    · have e_22 : onB E x i = true := by simpa [onB] using c_22
      refine V_iload_n 25 dX0_placeOf_25 rfl ?_
      refine V_iload_n 26 dX0_placeOf_26 rfl ?_
      refine V_icmp_ne 27 33 dX0_placeOf_27 rfl (fun c_27 => ?_) (fun c_27 => ?_)
      · have e_p : ¬ plB E x z i = true := fun q => c_27 (by simpa using (Bool.and_eq_true_iff.mp q).2)
        refine V_iinc 33 (nI (ctN (onB E x) i + 1)) dX0_placeOf_33 rfl (nI_inc _) rfl rfl ?_
        refine V_iinc 36 (nI (i + 1)) dX0_placeOf_36 rfl (nI_inc i) rfl rfl ?_
        refine V_goto 39 5 dX0_placeOf_39 rfl ?_
        first | exact (ctN_t e_22 ▸ ih (i + 1) rfl (by omega) (fun j hj => by rcases Nat.lt_or_ge j i with q | q; exact hinv j q; exact (show j = i by omega) ▸ e_p)) | exact (ctN_f e_22 ▸ ih (i + 1) rfl (by omega) (fun j hj => by rcases Nat.lt_or_ge j i with q | q; exact hinv j q; exact (show j = i by omega) ▸ e_p))
      · have e_p : plB E x z i = true := Bool.and_eq_true_iff.mpr ⟨e_22, by simpa using c_27⟩
        refine V_iload 30 dX0_placeOf_30 rfl ?_
        refine V_iret 32 dX0_placeOf_32 ?_
        unfold plE at k
        rw [fiN_some (i := i) e_p hinv e_11, if_pos e_11] at k
        exact k
set_option maxHeartbeats 1000000 in
set_option maxRecDepth 100000 in
theorem c_X0_placeOf (hW : WE G h0 h o r E Q) {x z : Int32} (k : Post (some (.int (plE E x z))) h sz) : Cn l G yX0_placeOf cX0_placeOf 5 (some .int) 1 0 0 [.ref o, .int x, .int z] h sz Post := by
  refine Cn.of RX0 false (by decide) rfl (fun q => by cases q) (Nat.le_of_ble_eq_true rfl) ?_
  refine V_iconstv 0 (0) dX0_placeOf_0 (by decide) ?_
  refine V_istore_n 1 dX0_placeOf_1 rfl rfl ?_
  refine V_iconstv 2 (0) dX0_placeOf_2 (by decide) ?_
  refine V_istore 3 dX0_placeOf_3 rfl rfl ?_
  exact lp_X0_placeOf hW k 0 (Nat.zero_le _) (fun j hj => absurd hj (Nat.not_lt_zero j))
/-- the first letter of a link -/
theorem plE_0 (E : ET) (x : Int32) (hn : eN E ≤ 12) : plE E x 0 = if bsy E x = true then nI (fiN (onB E x) (eN E)) else -1 := by
  have key : fiN (plB E x 0) (eN E) = fiN (onB E x) (eN E) := by
    by_cases hb : fiN (onB E x) (eN E) < eN E
    · obtain ⟨h1, h2⟩ := fiN_lt hb
      have hz : ctN (onB E x) (fiN (onB E x) (eN E)) = 0 := by
        generalize fiN (onB E x) (eN E) = m at h2
        induction m with
        | zero => rfl
        | succ m ih =>
          rw [ctN_f (h2 m (by omega))]
          exact ih (fun j hj => h2 j (by omega))
      refine fiN_some ?_ (fun j hj q => h2 j hj (Bool.and_eq_true_iff.mp q).1) hb
      simp only [plB, h1, hz, Bool.true_and, decide_eq_true_eq]
      rfl
    · have h1 := fiN_ge hb
      rw [fiN_none (p := plB E x 0) (fun j hj q => h1 j hj (Bool.and_eq_true_iff.mp q).1), fiN_none (p := onB E x) h1]
  unfold plE bsy
  rw [key]
  by_cases hb : fiN (onB E x) (eN E) < eN E
  · rw [if_pos hb, if_pos (by simpa using hb)]
  · rw [if_neg hb, if_neg (by simpa using hb)]
theorem nI_ne_m1 {n : Nat} (h : n < 2 ^ 31) : ¬ nI n = -1 := fun q => nI_pos h (by rw [q]; decide)
set_option maxHeartbeats 1000000 in
set_option maxRecDepth 100000 in
theorem c_X0_isBusy (hW : WE G h0 h o r E Q) {x : Int32} (k1 : bsy E x = true → Post (some (.int 1)) h sz) (k0 : bsy E x = false → Post (some (.int 0)) h sz) : Cn l G yX0_isBusy cX0_isBusy 2 (some .boolean) 2 0 0 [.ref o, .int x] h sz Post := by
  refine Cn.of RX0 false (by decide) rfl (fun q => by cases q) (Nat.le_of_ble_eq_true rfl) ?_
  refine V_aload_n 0 dX0_isBusy_0 rfl ?_
  refine V_iload_n 1 dX0_isBusy_1 rfl ?_
  refine V_iconstv 2 (0) dX0_isBusy_2 (by decide) ?_
  refine V_iv2 3 dX0_isBusy_3 kvX0_74 rfl (by first | exact hW.1.1 | exact hW.1.2.1 | exact hW.1.2.2.1 | exact hW.1.2.2.2.1 | exact hW.1.2.2.2.2.1 | exact hW.2.1.1 | exact hW.2.1.2.1 | exact hW.2.1.2.2.1) rfl rfl (c_X0_placeOf hW ?_)
  refine V_iconstv 6 (-1) dX0_isBusy_6 (by decide) ?_
  refine V_icmp_eq 7 14 dX0_isBusy_7 rfl (fun c_7 => ?_) (fun c_7 => ?_)
  · refine V_iconstv 14 (0) dX0_isBusy_14 (by decide) ?_
    refine V_zret 15 dX0_isBusy_15 (Or.inl rfl) ?_
    refine k0 ?_
    rw [plE_0 E x hW.1.2.2.2.2.2.1] at c_7
    by_cases q : bsy E x = true
    · rw [if_pos q] at c_7; exact absurd c_7 (nI_ne_m1 (by have := hW.1.2.2.2.2.2.1; have := fiN_le (onB E x) (eN E); omega))
    · exact Bool.eq_false_iff.mpr q
  · refine V_iconstv 10 (1) dX0_isBusy_10 (by decide) ?_
    refine V_goto 11 15 dX0_isBusy_11 rfl ?_
    refine V_zret 15 dX0_isBusy_15 (Or.inr rfl) ?_
    refine k1 ?_
    rw [plE_0 E x hW.1.2.2.2.2.2.1] at c_7
    by_cases q : bsy E x = true
    · exact q
    · rw [if_neg q] at c_7; exact absurd rfl c_7
set_option maxHeartbeats 1000000 in
set_option maxRecDepth 100000 in
theorem lp_X0_busyLinks (hW : WE G h0 h o r E Q) (k : Post (some (.int (nI (blE E Q.1)))) h sz) : ∀ i, i ≤ 2 * Q.1 → V l G RX0 cX0_busyLinks 3 (some .int) false 3 0 0 Post 4 [some (.ref o), some (.int (nI (ctN (fun j => bsy E (nI j)) i))), some (.int (nI i))] [] h sz := by
  have hn := hW.2.1.2.2.2.1
  refine up_ind (2 * Q.1) (fun i hi ih => ?_)
  refine V_iload_n 4 dX0_busyLinks_4 rfl ?_
  refine V_iconstv 5 (2) dX0_busyLinks_5 (by decide) ?_
  refine V_aload_n 6 dX0_busyLinks_6 rfl ?_
  refine V_get 7 dX0_busyLinks_7 fdX0_34 (by first | exact hW.1.1 | exact hW.1.2.1 | exact hW.1.2.2.1 | exact hW.1.2.2.2.1 | exact hW.1.2.2.2.2.1 | exact hW.2.1.1 | exact hW.2.1.2.1 | exact hW.2.1.2.2.1) rfl ?_
  refine V_get 10 dX0_busyLinks_10 fdX0_64 (by first | exact hW.1.1 | exact hW.1.2.1 | exact hW.1.2.2.1 | exact hW.1.2.2.2.1 | exact hW.1.2.2.2.2.1 | exact hW.2.1.1 | exact hW.2.1.2.1 | exact hW.2.1.2.2.1) rfl ?_
  refine V_imul 13 dX0_busyLinks_13 ?_
  refine V_topi (nI (2 * Q.1)) (pk_mul 2 Q.1) ?_
  refine V_icmp_ge 14 39 dX0_busyLinks_14 rfl (fun c_14 => ?_) (fun c_14 => ?_)
  · have e_14 : i = 2 * Q.1 := Nat.le_antisymm hi ((nI_leI (by omega) (by omega)).mp c_14)
    subst e_14
    refine V_iload_n 39 dX0_busyLinks_39 rfl ?_
    refine V_iret 40 dX0_busyLinks_40 ?_
    exact k
  · have e_14 : i < 2 * Q.1 := Nat.lt_of_not_le (fun q => c_14 (nI_le q (by omega)))
    refine V_iload_n 17 dX0_busyLinks_17 rfl ?_
    refine V_aload_n 18 dX0_busyLinks_18 rfl ?_
    refine V_iload_n 19 dX0_busyLinks_19 rfl ?_
    refine V_iv1 20 dX0_busyLinks_20 kvX0_77 rfl (by first | exact hW.1.1 | exact hW.1.2.1 | exact hW.1.2.2.1 | exact hW.1.2.2.2.1 | exact hW.1.2.2.2.2.1 | exact hW.2.1.1 | exact hW.2.1.2.1 | exact hW.2.1.2.2.1) rfl rfl (c_X0_isBusy hW (fun c_20 => ?_) (fun c_20 => ?_))
    · have e_20 : nI (ctN (fun j => bsy E (nI j)) i) + 1 = nI (ctN (fun j => bsy E (nI j)) (i + 1)) := by rw [nI_1, ctN_t c_20]
      refine V_if_eq 23 30 dX0_busyLinks_23 rfl (fun q => absurd q (by decide)) (fun _ => ?_)
      refine V_iconstv 26 (1) dX0_busyLinks_26 (by decide) ?_
      refine V_goto 27 31 dX0_busyLinks_27 rfl ?_
      refine V_iadd 31 dX0_busyLinks_31 ?_
      refine V_topi _ e_20 ?_
      refine V_istore_n 32 dX0_busyLinks_32 rfl rfl ?_
      refine V_iinc 33 (nI (i + 1)) dX0_busyLinks_33 rfl (nI_inc i) rfl rfl ?_
      refine V_goto 36 4 dX0_busyLinks_36 rfl ?_
      exact ih (i + 1) rfl (by omega)
    · have e_20 : nI (ctN (fun j => bsy E (nI j)) i) + 0 = nI (ctN (fun j => bsy E (nI j)) (i + 1)) := by rw [show (0 : Int32) = nI 0 from rfl, nI_add, ctN_f (Bool.eq_false_iff.mp c_20)]; rfl
      refine V_if_eq 23 30 dX0_busyLinks_23 rfl (fun _ => ?_) (fun q => absurd q (by decide))
      refine V_iconstv 30 (0) dX0_busyLinks_30 (by decide) ?_
      refine V_iadd 31 dX0_busyLinks_31 ?_
      refine V_topi _ e_20 ?_
      refine V_istore_n 32 dX0_busyLinks_32 rfl rfl ?_
      refine V_iinc 33 (nI (i + 1)) dX0_busyLinks_33 rfl (nI_inc i) rfl rfl ?_
      refine V_goto 36 4 dX0_busyLinks_36 rfl ?_
      exact ih (i + 1) rfl (by omega)
set_option maxHeartbeats 1000000 in
set_option maxRecDepth 100000 in
theorem c_X0_busyLinks (hW : WE G h0 h o r E Q) (k : Post (some (.int (nI (blE E Q.1)))) h sz) : Cn l G yX0_busyLinks cX0_busyLinks 3 (some .int) 3 0 0 [.ref o] h sz Post := by
  refine Cn.of RX0 false (by decide) rfl (fun q => by cases q) (Nat.le_of_ble_eq_true rfl) ?_
  refine V_iconstv 0 (0) dX0_busyLinks_0 (by decide) ?_
  refine V_istore_n 1 dX0_busyLinks_1 rfl rfl ?_
  refine V_iconstv 2 (0) dX0_busyLinks_2 (by decide) ?_
  refine V_istore_n 3 dX0_busyLinks_3 rfl rfl ?_
  exact lp_X0_busyLinks hW k 0 (Nat.zero_le _)
end M15
