theorem laN_some {p : Nat → Bool} {i : Nat} (hp : p i = true) : ∀ {n : Nat}, i < n → (∀ j, i < j → j < n → ¬ p j = true) → laN p n = nI i
  | 0, h, _ => absurd h (Nat.not_lt_zero i)
  | n + 1, h, hb => by
    rw [laN]
    by_cases e : i = n
    · subst e
      rw [if_pos hp]
    · rw [if_neg (hb n (by omega) (by omega))]
      exact laN_some hp (by omega) (fun j h1 h2 => hb j h1 (by omega))
theorem laN_none {p : Nat → Bool} : ∀ {n : Nat}, (∀ j, j < n → ¬ p j = true) → laN p n = -1
  | 0, _ => rfl
  | n + 1, h => by
    rw [laN, if_neg (h n (by omega))]
    exact laN_none (fun j hj => h j (by omega))
theorem ctN_mono (p : Nat → Bool) {m : Nat} : ∀ {n : Nat}, m ≤ n → ctN p m ≤ ctN p n
  | 0, h => by rw [show m = 0 by omega]; exact Nat.le_refl _
  | n + 1, h => by
    by_cases e : m = n + 1
    · rw [e]; exact Nat.le_refl _
    · refine Nat.le_trans (ctN_mono p (n := n) (by omega)) ?_
      rw [ctN]
      omega
/-- a place that is counted is the only one of its number -/
theorem ct_uniq {p : Nat → Bool} {t : Int32} {n : Nat} (hn : n < 1000) {i j : Nat} (hi : i < n) (hj : j < n) (pi : p i = true) (pj : p j = true) (ci : nI (ctN p i) = t) (cj : nI (ctN p j) = t) : i = j := by
  have ei := ctN_le p i
  have ej := ctN_le p j
  have e : ctN p i = ctN p j := (nI_eq (by omega) (by omega)).mp (ci.trans cj.symm)
  rcases Nat.lt_trichotomy i j with q | q | q
  · have := ctN_mono p (show i + 1 ≤ j from q)
    rw [ctN_t pi] at this
    omega
  · exact q
  · have := ctN_mono p (show j + 1 ≤ i from q)
    rw [ctN_t pj] at this
    omega
/-- last and first are one, where the number tells the place -/
theorem la_fi {p : Nat → Bool} {t : Int32} {n : Nat} (hn : n < 1000) : laN (fun k => p k && decide (nI (ctN p k) = t)) n = if fiN (fun k => p k && decide (nI (ctN p k) = t)) n < n then nI (fiN (fun k => p k && decide (nI (ctN p k) = t)) n) else -1 := by
  by_cases h : fiN (fun k => p k && decide (nI (ctN p k) = t)) n < n
  · rw [if_pos h]
    obtain ⟨h1, h2⟩ := fiN_lt h
    have a := Bool.and_eq_true_iff.mp h1
    refine laN_some h1 h (fun j hj hn2 q => ?_)
    have b := Bool.and_eq_true_iff.mp q
    have := ct_uniq hn h hn2 a.1 b.1 (by simpa using a.2) (by simpa using b.2)
    omega
  · rw [if_neg h]
    exact laN_none (fiN_ge h)
theorem la_pl (E : ET) (x z : Int32) (hn : eN E ≤ 12) : laN (plB E x z) (eN E) = plE E x z := by
  unfold plE
  exact la_fi (p := onB E x) (t := z) (by omega)
theorem lo_bsy (E : ET) (x : Int32) : bsy E x = true ↔ 0 < loE E x := by
  unfold bsy loE
  rw [decide_eq_true_iff]
  constructor
  · intro h
    have h1 := (fiN_lt h).1
    have := ctN_mono (onB E x) (show fiN (onB E x) (eN E) + 1 ≤ eN E from h)
    rw [ctN_t h1] at this
    omega
  · intro h
    by_cases q : fiN (onB E x) (eN E) < eN E
    · exact q
    · exfalso
      have h2 := fiN_ge q
      have : ∀ m, m ≤ eN E → ctN (onB E x) m = 0 := by
        intro m
        induction m with
        | zero => intro _; rfl
        | succ m ih => intro hm; rw [ctN_f (h2 m (by omega))]; exact ih (by omega)
      have := this (eN E) (Nat.le_refl _)
      omega
def rcI (n j : Nat) : Nat := if j % 2 = 0 then (j / 2 + 1) % n else (j / 2 + n - 1) % n
theorem nI_and1 (j : Nat) (hj : j < 2 ^ 31) : nI j &&& 1 = nI (j % 2) := pk_andN (by omega) 1 rfl
theorem rcv_nI {n j : Nat} (hn : n ≤ 6) (hj : j < 2 * n) : rcv n (nI j) = nI (rcI n j) := by
  have h2 : nI j / 2 = nI (j / 2) := pk_div (d := 2) (by omega) (by omega) (by omega)
  unfold rcv rcI
  rw [nI_and1 j (by omega), h2]
  by_cases e : j % 2 = 0
  · rw [if_pos (by rw [e]; rfl), if_pos e, nI_1]
    by_cases f : n ≤ j / 2 + 1
    · rw [if_pos (nI_le f (by omega)), show (j / 2 + 1) % n = 0 by rw [show j / 2 + 1 = n by omega]; exact Nat.mod_self n]
      rfl
    · rw [if_neg (nI_ge (by omega) (by omega)), Nat.mod_eq_of_lt (by omega)]
  · rw [if_neg (by rw [show j % 2 = 1 by omega]; decide), if_neg e]
    by_cases f : j / 2 = 0
    · rw [f, if_pos (by decide), show 0 + n - 1 = n - 1 by omega, Nat.mod_eq_of_lt (by omega)]
      exact pk_sub (a := n) (b := 1) (by omega)
    · rw [if_neg (nI_nle (by omega) (by omega)), show j / 2 + n - 1 = j / 2 - 1 + n by omega, Nat.add_mod_right, Nat.mod_eq_of_lt (by omega)]
      exact pk_sub (a := j / 2) (b := 1) (by omega)
theorem rcI_lt {n j : Nat} (hn : 0 < n) : rcI n j < n := by
  unfold rcI
  split <;> exact Nat.mod_lt _ hn
/-- the letters behind close up -/
def shF (f : Nat → Int32) (r p k : Nat) : Nat → Int32 := fun q => if 168 * r + 72 + 6 * p ≤ q ∧ q < 168 * r + 72 + k then f (q + 6) else f q
theorem shF_step (f : Nat → Int32) {r p k : Nat} (hk : 6 * p ≤ k) : upd (shF f r p k) (168 * r + 72 + k) (shF f r p k (168 * r + 72 + k + 6)) = shF f r p (k + 1) := by
  funext q
  rw [upd_if]
  have e : shF f r p k (168 * r + 72 + k + 6) = f (168 * r + 72 + k + 6) := by
    unfold shF
    rw [if_neg (by omega)]
  rw [e]
  unfold shF
  by_cases h1 : q = 168 * r + 72 + k
  · rw [if_pos h1, if_pos (by omega), h1]
  · rw [if_neg h1]
    by_cases h2 : 168 * r + 72 + 6 * p ≤ q ∧ q < 168 * r + 72 + k
    · rw [if_pos h2, if_pos (by omega)]
    · rw [if_neg h2, if_neg (by omega)]
theorem shF_0 (f : Nat → Int32) (r p : Nat) : shF f r p (6 * p) = f := by
  funext q
  unfold shF
  rw [if_neg (by omega)]
theorem RowE.tk {row : Nat → Int32} {r n p : Nat} {E : ET} (hR : RowE row r n E) (hn : n ≤ 6) (hp : p < eN E) : RowE (shF (upd row (168 * r + 2) (nI (eN E - 1))) r p (6 * (eN E - 1))) r n (tkE E p) := by
  obtain ⟨h1, h2, h3, h4, h5, h6, h7⟩ := hR
  have o1 : ∀ q, q < 168 * r + 72 → ¬ q = 168 * r + 2 → shF (upd row (168 * r + 2) (nI (eN E - 1))) r p (6 * (eN E - 1)) q = row q := by
    intro q hq hq2
    unfold shF
    rw [if_neg (by omega), pk_un hq2]
  refine ⟨by rw [o1 _ (by omega) (by omega)]; exact h1, fun z => by rw [o1 _ (by omega) (by omega)]; exact h2 z, ?_, fun k hk => by rw [o1 _ (by omega) (by omega)]; exact h4 k hk, fun i hi => ?_, fun k j hk hj => ?_, by show eN E - 1 ≤ 12; omega⟩
  · unfold shF
    rw [if_neg (by omega), pk_us]
    rfl
  · have g : ∀ w, w < 10 → shF (upd row (168 * r + 2) (nI (eN E - 1))) r p (6 * (eN E - 1)) (ctA r i w) = row (ctA r i w) := fun w hw => o1 _ (by unfold ctA; omega) (by unfold ctA; omega)
    rw [g 0 (by omega), g 1 (by omega), g 2 (by omega), g 3 (by omega), g 4 (by omega), g 5 (by omega), g 6 (by omega), g 7 (by omega), g 8 (by omega)]
    exact h5 i hi
  · have hk2 : k < eN E - 1 := hk
    show _ = va_cpy (eL E) (eL E) (6 * p + 6) (6 * p) (6 * (eN E - 1 - p)) (6 * k + j)
    unfold shF
    by_cases e : p ≤ k
    · rw [if_pos (by unfold leA; omega), pk_un (by unfold leA; omega), pk_cpy_in (by omega) (by omega)]
      have := h6 (k + 1) j (by omega) hj
      rw [show leA r k j + 6 = leA r (k + 1) j by unfold leA; omega, this]
      congr 1
      omega
    · rw [if_neg (by unfold leA; omega), pk_un (by unfold leA; omega), pk_cpy_out (by omega)]
      exact h6 k j (by omega) hj
/-- what a delivery over link j needs -/
def DelOK (Q : RG) (E : ET) (j : Nat) : Prop := ∃ κ, (1 ≤ κ ∧ κ ≤ 7) ∧ eL E (6 * fiN (onB E (nI j)) (eN E) + 1) = nI κ ∧ DOK Q (tkE E (fiN (onB E (nI j)) (eN E))) (rcI Q.1 j) κ
section M31
variable {l : Launch} {G : zGT} {h h0 : hpT} {sz : Nat} {Post : Option Value → hpT → Nat → Prop} {m r : Nat} {M M0 : MT} {Q : RG} {E : ET}
theorem V_putS {own : String} {cc : ByteArray} {nL : Nat} {rt : Option FieldType} {ini : Bool} {d kc ks : Nat} {lv : List (Option Value)} {st : List Value} (pc : Nat) {idx k : Nat} {x : Int32} (hd : decode cc pc = .ok (.putfield idx, 3)) (hf : zFp own idx 6 k .int false) (hX : WX G h0 h m M0 M r E Q) (hk : (fM m M).set k (.int x) = fM m (mI M k x)) (hb : Nat.blt k 31 = true) (h5 : 5 ≤ k) (h12 : k < 12) (kk : ∀ h M1, WX G h0 h m M0 M1 r E Q → M1.1 = va_up M.1 k x → V l G own cc nL rt ini d kc ks Post (pc + 3) lv st h sz) : V l G own cc nL rt ini d kc ks Post pc lv (.int x :: .ref m :: st) h sz := V_putM pc hd hf hX.1 hk hb (fun h hM => kk h _ (hX.scr h5 h12 hM) rfl)
set_option maxHeartbeats 1000000 in
set_option maxRecDepth 100000 in
theorem lp_X6_delivers {f : Nat → Int32} (p j c : Nat) (hr : r ≤ 24) (hc : c ≤ 12) (hf : f (168 * r + 2) = nI c) {v3 : Int32} (k : ∀ h, WM G h0 h m (mJ M 3 (shF f r p (6 * c))) → ∀ v4 : Option Value, (∃ z : Int32, v4 = some (.int z)) → V l G RX6 cX6_delivers 7 (some .int) false 6 0 0 Post 166 [some (.ref m), some (.int (nI r)), some (.int (nI j)), some (.int v3), v4] [] h sz) : ∀ i, i ≤ 6 * c → 6 * p ≤ i → ∀ (h : hpT), WM G h0 h m (mJ M 3 (shF f r p i)) → V l G RX6 cX6_delivers 7 (some .int) false 6 0 0 Post 105 [some (.ref m), some (.int (nI r)), some (.int (nI j)), some (.int v3), some (.int (nI i))] [] h sz := by
  refine up_ind (6 * c) (fun i hi ih hpi h hM => ?_)
  have hmany : shF f r p i (168 * r + 2) = nI c := by
    unfold shF
    rw [if_neg (by omega)]
    exact hf
  refine V_iload 105 dX6_delivers_105 rfl ?_
  refine V_bipushv 107 (6) dX6_delivers_107 (by decide) ?_
  refine V_aload_n 109 dX6_delivers_109 rfl ?_
  refine V_get 110 dX6_delivers_110 fdX6_16 (by first | exact hM.1.1 | exact hM.1.2.1 | exact hM.1.2.2.1 | exact hM.1.2.2.2.1 | exact hM.1.2.2.2.2.1 | exact hM.1.2.2.2.2.2.1 | exact hM.1.2.2.2.2.2.2.1 | exact hM.1.2.2.2.2.2.2.2.1 | exact hM.1.2.2.2.2.2.2.2.2.1 | exact hM.1.2.2.2.2.2.2.2.2.2.1 | exact hM.1.2.2.2.2.2.2.2.2.2.2) rfl ?_
  refine V_sipushv 113 (168) dX6_delivers_113 (by decide) ?_
  refine V_iload_n 116 dX6_delivers_116 rfl ?_
  refine V_imul 117 dX6_delivers_117 ?_
  refine V_topi (nI (168 * r)) (pk_mul 168 r) ?_
  refine V_iconstv 118 (2) dX6_delivers_118 (by decide) ?_
  refine V_iadd 119 dX6_delivers_119 ?_
  refine V_topi (nI (168 * r + 2)) (nI_add _ 2) ?_
  refine V_ialdk 120 (168 * r + 2) (nI_clamp (by omega)) dX6_delivers_120 (by first | exact hM.1.1 | exact hM.1.2.1 | exact hM.1.2.2.1 | exact hM.1.2.2.2.1 | exact hM.1.2.2.2.2.1 | exact hM.1.2.2.2.2.2.1 | exact hM.1.2.2.2.2.2.2.1 | exact hM.1.2.2.2.2.2.2.2.1 | exact hM.1.2.2.2.2.2.2.2.2.1 | exact hM.1.2.2.2.2.2.2.2.2.2.1 | exact hM.1.2.2.2.2.2.2.2.2.2.2) (vp_in_nI (by omega) (by decide)) ?_
  refine V_topi (nI c) hmany ?_
  refine V_imul 121 dX6_delivers_121 ?_
  refine V_topi (nI (6 * c)) (pk_mul 6 c) ?_
  refine V_icmp_ge 122 166 dX6_delivers_122 rfl (fun c_122 => ?_) (fun c_122 => ?_)
  · have e_122 : i = 6 * c := Nat.le_antisymm hi ((nI_leI (by omega) (by omega)).mp c_122)
    subst e_122
    exact k h hM _ ⟨_, rfl⟩
  · have e_122 : i < 6 * c := Nat.lt_of_not_le (fun q => c_122 (nI_le q (by omega)))
    refine V_aload_n 125 dX6_delivers_125 rfl ?_
    refine V_get 126 dX6_delivers_126 fdX6_16 (by first | exact hM.1.1 | exact hM.1.2.1 | exact hM.1.2.2.1 | exact hM.1.2.2.2.1 | exact hM.1.2.2.2.2.1 | exact hM.1.2.2.2.2.2.1 | exact hM.1.2.2.2.2.2.2.1 | exact hM.1.2.2.2.2.2.2.2.1 | exact hM.1.2.2.2.2.2.2.2.2.1 | exact hM.1.2.2.2.2.2.2.2.2.2.1 | exact hM.1.2.2.2.2.2.2.2.2.2.2) rfl ?_
    refine V_sipushv 129 (168) dX6_delivers_129 (by decide) ?_
    refine V_iload_n 132 dX6_delivers_132 rfl ?_
    refine V_imul 133 dX6_delivers_133 ?_
    refine V_topi (nI (168 * r)) (pk_mul 168 r) ?_
    refine V_bipushv 134 (72) dX6_delivers_134 (by decide) ?_
    refine V_iadd 136 dX6_delivers_136 ?_
    refine V_topi (nI (168 * r + 72)) (nI_add _ 72) ?_
    refine V_iload 137 dX6_delivers_137 rfl ?_
    refine V_iadd 139 dX6_delivers_139 ?_
    refine V_topi (nI (168 * r + 72 + i)) (nI_add _ _) ?_
    refine V_aload_n 140 dX6_delivers_140 rfl ?_
    refine V_get 141 dX6_delivers_141 fdX6_16 (by first | exact hM.1.1 | exact hM.1.2.1 | exact hM.1.2.2.1 | exact hM.1.2.2.2.1 | exact hM.1.2.2.2.2.1 | exact hM.1.2.2.2.2.2.1 | exact hM.1.2.2.2.2.2.2.1 | exact hM.1.2.2.2.2.2.2.2.1 | exact hM.1.2.2.2.2.2.2.2.2.1 | exact hM.1.2.2.2.2.2.2.2.2.2.1 | exact hM.1.2.2.2.2.2.2.2.2.2.2) rfl ?_
    refine V_sipushv 144 (168) dX6_delivers_144 (by decide) ?_
    refine V_iload_n 147 dX6_delivers_147 rfl ?_
    refine V_imul 148 dX6_delivers_148 ?_
    refine V_topi (nI (168 * r)) (pk_mul 168 r) ?_
    refine V_bipushv 149 (72) dX6_delivers_149 (by decide) ?_
    refine V_iadd 151 dX6_delivers_151 ?_
    refine V_topi (nI (168 * r + 72)) (nI_add _ 72) ?_
    refine V_iload 152 dX6_delivers_152 rfl ?_
    refine V_iadd 154 dX6_delivers_154 ?_
    refine V_topi (nI (168 * r + 72 + i)) (nI_add _ _) ?_
    refine V_bipushv 155 (6) dX6_delivers_155 (by decide) ?_
    refine V_iadd 157 dX6_delivers_157 ?_
    refine V_topi (nI (168 * r + 72 + i + 6)) (nI_add _ 6) ?_
    refine V_ialdk 158 (168 * r + 72 + i + 6) (nI_clamp (by omega)) dX6_delivers_158 (by first | exact hM.1.1 | exact hM.1.2.1 | exact hM.1.2.2.1 | exact hM.1.2.2.2.1 | exact hM.1.2.2.2.2.1 | exact hM.1.2.2.2.2.2.1 | exact hM.1.2.2.2.2.2.2.1 | exact hM.1.2.2.2.2.2.2.2.1 | exact hM.1.2.2.2.2.2.2.2.2.1 | exact hM.1.2.2.2.2.2.2.2.2.2.1 | exact hM.1.2.2.2.2.2.2.2.2.2.2) (vp_in_nI (by omega) (by decide)) ?_
    refine V_ia3 159 (168 * r + 72 + i) (nI_clamp (by omega)) dX6_delivers_159 hM (vp_in_nI (by omega) (by decide)) (fun h hM => ?_)
    replace hM : WM G h0 h m (mJ M 3 (upd (shF f r p i) (168 * r + 72 + i) (shF f r p i (168 * r + 72 + i + 6)))) := by
      have e := mJ_mJ M (shF f r p i) (upd (shF f r p i) (168 * r + 72 + i) (shF f r p i (168 * r + 72 + i + 6)))
      rw [← e]
      exact hM
    refine V_iinc 160 (nI (i + 1)) dX6_delivers_160 rfl (nI_inc i) rfl rfl ?_
    refine V_goto 163 105 dX6_delivers_163 rfl ?_
    refine ih (i + 1) rfl (by omega) (by omega) h ?_
    rw [← shF_step f hpi]
    exact hM
theorem HD2 {E : ET} {M M1 M2 : MT} {a b : Int32} (hH : HD M E) (h1 : M1.1 = va_up M.1 10 a) (h2 : M2.1 = va_up M1.1 11 b) : HD M2 E := by
  have e : ∀ q, q < 10 → M2.1 q = M.1 q := fun q hq => by rw [h2, va_up_ne _ _ (by omega), h1, va_up_ne _ _ (by omega)]
  unfold HD
  rw [e 5 (by omega), e 6 (by omega), e 7 (by omega), e 8 (by omega), e 9 (by omega)]
  exact hH
set_option maxHeartbeats 1000000 in
set_option maxRecDepth 100000 in
theorem c_X6_delivers_t (hX : WX G h0 h m M0 M r E Q) (j : Nat) (hj : j < 2 * Q.1) (hn0 : 0 < Q.1) (hH : HD M E) (hc : eN E < 12) (hx0 : eH E 0 = nI j) (κ : Nat) (hκ : 1 ≤ κ ∧ κ ≤ 7) (hk5 : eH E 1 = nI κ) (hD : DOK Q E (rcI Q.1 j) κ) {v3 v4 : Int32} (k : ∀ h M1, WX G h0 h m M0 M1 r (dl1 Q E (nI j) (rcv Q.1 (nI j))) Q → Post (some (.int (nI κ))) h sz) : V l G RX6 cX6_delivers 7 (some .int) false 6 0 0 Post 166 [some (.ref m), some (.int (nI r)), some (.int (nI j)), some (.int v3), some (.int v4)] [] h sz := by
  have hn := hX.2.2.2.2.2.2
  have hd1 : nI j &&& 1 = nI (j % 2) := nI_and1 j (by omega)
  rw [rcv_nI hn hj] at k
  refine V_iload_n 166 dX6_delivers_166 rfl ?_
  refine V_iconstv 167 (2) dX6_delivers_167 (by decide) ?_
  refine V_irem 168 dX6_delivers_168 (by decide) ?_
  refine V_topi (nI j &&& 1) ((pk_rem (d := 2) (by omega) (by omega) (by omega)).trans hd1.symm) ?_
  refine V_istore 169 dX6_delivers_169 rfl rfl ?_
  refine V_iload 171 dX6_delivers_171 rfl ?_
  refine V_if_ne 173 189 dX6_delivers_173 rfl (fun c_173 => ?_) (fun c_173 => ?_)
  · have e_173 : ¬ j % 2 = 0 := fun q => c_173 (by rw [hd1, q]; rfl)
    refine V_iload_n 189 dX6_delivers_189 rfl ?_
    refine V_iconstv 190 (2) dX6_delivers_190 (by decide) ?_
    refine V_idiv 191 dX6_delivers_191 (by decide) ?_
    refine V_topi (nI (j / 2)) (pk_div (d := 2) (by omega) (by omega) (by omega)) ?_
    refine V_aload_n 192 dX6_delivers_192 rfl ?_
    refine V_get 193 dX6_delivers_193 fdX6_41 (by first | exact hX.1.1.1 | exact hX.1.1.2.1 | exact hX.1.1.2.2.1 | exact hX.1.1.2.2.2.1 | exact hX.1.1.2.2.2.2.1 | exact hX.1.1.2.2.2.2.2.1 | exact hX.1.1.2.2.2.2.2.2.1 | exact hX.1.1.2.2.2.2.2.2.2.1 | exact hX.1.1.2.2.2.2.2.2.2.2.1 | exact hX.1.1.2.2.2.2.2.2.2.2.2.1 | exact hX.1.1.2.2.2.2.2.2.2.2.2.2) rfl ?_
    refine V_iadd 196 dX6_delivers_196 ?_
    refine V_topi (nI (j / 2 + Q.1)) (by rw [hX.2.2.1]; exact nI_add _ _) ?_
    refine V_iconstv 197 (1) dX6_delivers_197 (by decide) ?_
    refine V_isub 198 dX6_delivers_198 ?_
    refine V_topi (nI (j / 2 + Q.1 - 1)) (pk_sub (a := j / 2 + Q.1) (b := 1) (by omega)) ?_
    refine V_aload_n 199 dX6_delivers_199 rfl ?_
    refine V_get 200 dX6_delivers_200 fdX6_41 (by first | exact hX.1.1.1 | exact hX.1.1.2.1 | exact hX.1.1.2.2.1 | exact hX.1.1.2.2.2.1 | exact hX.1.1.2.2.2.2.1 | exact hX.1.1.2.2.2.2.2.1 | exact hX.1.1.2.2.2.2.2.2.1 | exact hX.1.1.2.2.2.2.2.2.2.1 | exact hX.1.1.2.2.2.2.2.2.2.2.1 | exact hX.1.1.2.2.2.2.2.2.2.2.2.1 | exact hX.1.1.2.2.2.2.2.2.2.2.2.2) rfl ?_
    refine V_irem 203 dX6_delivers_203 (by rw [hX.2.2.1]; exact nI_ne0 hn0 (by omega)) ?_
    refine V_topi (nI (rcI Q.1 j)) (by rw [hX.2.2.1, pk_rem (by omega) hn0 (by omega)]; unfold rcI; rw [if_neg e_173]) ?_
    refine V_istore 204 dX6_delivers_204 rfl rfl ?_
    refine V_aload_n 206 dX6_delivers_206 rfl ?_
    refine V_iconstv 207 (2) dX6_delivers_207 (by decide) ?_
    refine V_iload 208 dX6_delivers_208 rfl ?_
    refine V_imul 210 dX6_delivers_210 ?_
    refine V_iload 211 dX6_delivers_211 rfl ?_
    refine V_iadd 213 dX6_delivers_213 ?_
    refine V_putS 214 dX6_delivers_214 fpX6_82 hX rfl rfl (by omega) (by omega) (fun h M214 hX hI214 => ?_)
    refine V_aload_n 217 dX6_delivers_217 rfl ?_
    refine V_iconstv 218 (2) dX6_delivers_218 (by decide) ?_
    refine V_iload 219 dX6_delivers_219 rfl ?_
    refine V_imul 221 dX6_delivers_221 ?_
    refine V_iconstv 222 (1) dX6_delivers_222 (by decide) ?_
    refine V_iadd 223 dX6_delivers_223 ?_
    refine V_iload 224 dX6_delivers_224 rfl ?_
    refine V_isub 226 dX6_delivers_226 ?_
    refine V_putS 227 dX6_delivers_227 fpX6_108 hX rfl rfl (by omega) (by omega) (fun h M227 hX hI227 => ?_)
    refine V_aload_n 230 dX6_delivers_230 rfl ?_
    refine V_get 231 dX6_delivers_231 fdX6_85 (by first | exact hX.1.1.1 | exact hX.1.1.2.1 | exact hX.1.1.2.2.1 | exact hX.1.1.2.2.2.1 | exact hX.1.1.2.2.2.2.1 | exact hX.1.1.2.2.2.2.2.1 | exact hX.1.1.2.2.2.2.2.2.1 | exact hX.1.1.2.2.2.2.2.2.2.1 | exact hX.1.1.2.2.2.2.2.2.2.2.1 | exact hX.1.1.2.2.2.2.2.2.2.2.2.1 | exact hX.1.1.2.2.2.2.2.2.2.2.2.2) rfl ?_
    refine V_topi (nI κ) ((congrFun (hI227.trans (by rw [hI214])) 5).trans ((va_up_ne _ _ (by decide)).trans ((va_up_ne _ _ (by decide)).trans (hH.1.trans hk5)))) ?_
    refine V_istore 234 dX6_delivers_234 rfl rfl ?_
    refine V_aload_n 236 dX6_delivers_236 rfl ?_
    refine V_iload_n 237 dX6_delivers_237 rfl ?_
    refine V_iload 238 dX6_delivers_238 rfl ?_
    refine V_iload 240 dX6_delivers_240 rfl ?_
    refine V_iv3 242 dX6_delivers_242 kvX6_130 rfl (by first | exact hX.1.1.1 | exact hX.1.1.2.1 | exact hX.1.1.2.2.1 | exact hX.1.1.2.2.2.1 | exact hX.1.1.2.2.2.2.1 | exact hX.1.1.2.2.2.2.2.1 | exact hX.1.1.2.2.2.2.2.2.1 | exact hX.1.1.2.2.2.2.2.2.2.1 | exact hX.1.1.2.2.2.2.2.2.2.2.1 | exact hX.1.1.2.2.2.2.2.2.2.2.2.1 | exact hX.1.1.2.2.2.2.2.2.2.2.2.2) rfl rfl (c_X6_comes hX (rcI Q.1 j) (rcI_lt hn0) (x := nI j) (HD2 hH hI214 hI227) hc (by rw [hI227, hI214]; rfl) (by rw [hI227]; rfl) hx0 κ hκ hk5 hD (fun h M1 hX => ?_))
    refine V_iload 245 dX6_delivers_245 rfl ?_
    refine V_iret 247 dX6_delivers_247 ?_
    exact k _ _ hX
  · have e_173 : j % 2 = 0 := (nI_eq (b := 0) (by omega) (by decide)).mp (hd1.symm.trans c_173)
    refine V_iload_n 176 dX6_delivers_176 rfl ?_
    refine V_iconstv 177 (2) dX6_delivers_177 (by decide) ?_
    refine V_idiv 178 dX6_delivers_178 (by decide) ?_
    refine V_topi (nI (j / 2)) (pk_div (d := 2) (by omega) (by omega) (by omega)) ?_
    refine V_iconstv 179 (1) dX6_delivers_179 (by decide) ?_
    refine V_iadd 180 dX6_delivers_180 ?_
    refine V_topi (nI (j / 2 + 1)) (nI_1 _) ?_
    refine V_aload_n 181 dX6_delivers_181 rfl ?_
    refine V_get 182 dX6_delivers_182 fdX6_41 (by first | exact hX.1.1.1 | exact hX.1.1.2.1 | exact hX.1.1.2.2.1 | exact hX.1.1.2.2.2.1 | exact hX.1.1.2.2.2.2.1 | exact hX.1.1.2.2.2.2.2.1 | exact hX.1.1.2.2.2.2.2.2.1 | exact hX.1.1.2.2.2.2.2.2.2.1 | exact hX.1.1.2.2.2.2.2.2.2.2.1 | exact hX.1.1.2.2.2.2.2.2.2.2.2.1 | exact hX.1.1.2.2.2.2.2.2.2.2.2.2) rfl ?_
    refine V_irem 185 dX6_delivers_185 (by rw [hX.2.2.1]; exact nI_ne0 hn0 (by omega)) ?_
    refine V_topi (nI (rcI Q.1 j)) (by rw [hX.2.2.1, pk_rem (by omega) hn0 (by omega)]; unfold rcI; rw [if_pos e_173]) ?_
    refine V_goto 186 204 dX6_delivers_186 rfl ?_
    refine V_istore 204 dX6_delivers_204 rfl rfl ?_
    refine V_aload_n 206 dX6_delivers_206 rfl ?_
    refine V_iconstv 207 (2) dX6_delivers_207 (by decide) ?_
    refine V_iload 208 dX6_delivers_208 rfl ?_
    refine V_imul 210 dX6_delivers_210 ?_
    refine V_iload 211 dX6_delivers_211 rfl ?_
    refine V_iadd 213 dX6_delivers_213 ?_
    refine V_putS 214 dX6_delivers_214 fpX6_82 hX rfl rfl (by omega) (by omega) (fun h M214 hX hI214 => ?_)
    refine V_aload_n 217 dX6_delivers_217 rfl ?_
    refine V_iconstv 218 (2) dX6_delivers_218 (by decide) ?_
    refine V_iload 219 dX6_delivers_219 rfl ?_
    refine V_imul 221 dX6_delivers_221 ?_
    refine V_iconstv 222 (1) dX6_delivers_222 (by decide) ?_
    refine V_iadd 223 dX6_delivers_223 ?_
    refine V_iload 224 dX6_delivers_224 rfl ?_
    refine V_isub 226 dX6_delivers_226 ?_
    refine V_putS 227 dX6_delivers_227 fpX6_108 hX rfl rfl (by omega) (by omega) (fun h M227 hX hI227 => ?_)
    refine V_aload_n 230 dX6_delivers_230 rfl ?_
    refine V_get 231 dX6_delivers_231 fdX6_85 (by first | exact hX.1.1.1 | exact hX.1.1.2.1 | exact hX.1.1.2.2.1 | exact hX.1.1.2.2.2.1 | exact hX.1.1.2.2.2.2.1 | exact hX.1.1.2.2.2.2.2.1 | exact hX.1.1.2.2.2.2.2.2.1 | exact hX.1.1.2.2.2.2.2.2.2.1 | exact hX.1.1.2.2.2.2.2.2.2.2.1 | exact hX.1.1.2.2.2.2.2.2.2.2.2.1 | exact hX.1.1.2.2.2.2.2.2.2.2.2.2) rfl ?_
    refine V_topi (nI κ) ((congrFun (hI227.trans (by rw [hI214])) 5).trans ((va_up_ne _ _ (by decide)).trans ((va_up_ne _ _ (by decide)).trans (hH.1.trans hk5)))) ?_
    refine V_istore 234 dX6_delivers_234 rfl rfl ?_
    refine V_aload_n 236 dX6_delivers_236 rfl ?_
    refine V_iload_n 237 dX6_delivers_237 rfl ?_
    refine V_iload 238 dX6_delivers_238 rfl ?_
    refine V_iload 240 dX6_delivers_240 rfl ?_
    refine V_iv3 242 dX6_delivers_242 kvX6_130 rfl (by first | exact hX.1.1.1 | exact hX.1.1.2.1 | exact hX.1.1.2.2.1 | exact hX.1.1.2.2.2.1 | exact hX.1.1.2.2.2.2.1 | exact hX.1.1.2.2.2.2.2.1 | exact hX.1.1.2.2.2.2.2.2.1 | exact hX.1.1.2.2.2.2.2.2.2.1 | exact hX.1.1.2.2.2.2.2.2.2.2.1 | exact hX.1.1.2.2.2.2.2.2.2.2.2.1 | exact hX.1.1.2.2.2.2.2.2.2.2.2.2) rfl rfl (c_X6_comes hX (rcI Q.1 j) (rcI_lt hn0) (x := nI j) (HD2 hH hI214 hI227) hc (by rw [hI227, hI214]; rfl) (by rw [hI227]; rfl) hx0 κ hκ hk5 hD (fun h M1 hX => ?_))
    refine V_iload 245 dX6_delivers_245 rfl ?_
    refine V_iret 247 dX6_delivers_247 ?_
    exact k _ _ hX
set_option maxHeartbeats 1000000 in
set_option maxRecDepth 100000 in
theorem c_X6_delivers (hX : WX G h0 h m M0 M r E Q) (j : Nat) (hj : j < 2 * Q.1) (hb : bsy E (nI j) = true) (hdel : DelOK Q E j) (k : ∀ h M1, WX G h0 h m M0 M1 r (dlE Q E (nI j)) Q → Post (some (.int (eL E (6 * (fiN (onB E (nI j)) (eN E)) + 1)))) h sz) : Cn l G yX6_delivers cX6_delivers 7 (some .int) 6 0 0 [.ref m, .int (nI r), .int (nI j)] h sz Post := by
  refine Cn.of RX6 false (by decide) rfl (fun q => by cases q) (Nat.le_of_ble_eq_true rfl) ?_
  have hn := hX.2.2.2.2.2.2
  have hr := hX.2.2.2.2.2.1
  have hN := hX.2.2.2.2.1.2.2.2.2.2.2
  have hp : (fiN (onB E (nI j)) (eN E)) < eN E := by simpa [bsy] using hb
  have hn0 : 0 < Q.1 := by omega
  refine V_aload_n 0 dX6_delivers_0 rfl ?_
  refine V_iload_n 1 dX6_delivers_1 rfl ?_
  refine V_iload_n 2 dX6_delivers_2 rfl ?_
  refine V_iconstv 3 (0) dX6_delivers_3 (by decide) ?_
  refine V_iv3 4 dX6_delivers_4 kvX6_127 rfl (by first | exact hX.1.1.1 | exact hX.1.1.2.1 | exact hX.1.1.2.2.1 | exact hX.1.1.2.2.2.1 | exact hX.1.1.2.2.2.2.1 | exact hX.1.1.2.2.2.2.2.1 | exact hX.1.1.2.2.2.2.2.2.1 | exact hX.1.1.2.2.2.2.2.2.2.1 | exact hX.1.1.2.2.2.2.2.2.2.2.1 | exact hX.1.1.2.2.2.2.2.2.2.2.2.1 | exact hX.1.1.2.2.2.2.2.2.2.2.2.2) rfl rfl (c_X6_letterOn hX ?_)
  refine V_topi (nI (fiN (onB E (nI j)) (eN E))) (by rw [la_pl E _ _ hN, plE_0 E _ hN, if_pos hb]) ?_
  refine V_istore_n 7 dX6_delivers_7 rfl rfl ?_
  refine V_aload_n 8 dX6_delivers_8 rfl ?_
  refine V_aload_n 9 dX6_delivers_9 rfl ?_
  refine V_get 10 dX6_delivers_10 fdX6_16 (by first | exact hX.1.1.1 | exact hX.1.1.2.1 | exact hX.1.1.2.2.1 | exact hX.1.1.2.2.2.1 | exact hX.1.1.2.2.2.2.1 | exact hX.1.1.2.2.2.2.2.1 | exact hX.1.1.2.2.2.2.2.2.1 | exact hX.1.1.2.2.2.2.2.2.2.1 | exact hX.1.1.2.2.2.2.2.2.2.2.1 | exact hX.1.1.2.2.2.2.2.2.2.2.2.1 | exact hX.1.1.2.2.2.2.2.2.2.2.2.2) rfl ?_
  refine V_iload_n 13 dX6_delivers_13 rfl ?_
  refine V_iload_n 14 dX6_delivers_14 rfl ?_
  refine V_iconstv 15 (1) dX6_delivers_15 (by decide) ?_
  refine V_is3 16 dX6_delivers_16 ksX6_53 rfl rfl (c_X6_ofLetter r (fiN (onB E (nI j)) (eN E)) 1 ?_)
  refine V_ialdk 19 (leA r (fiN (onB E (nI j)) (eN E)) 1) (nI_clamp (by unfold leA; omega)) dX6_delivers_19 (by first | exact hX.1.1.1 | exact hX.1.1.2.1 | exact hX.1.1.2.2.1 | exact hX.1.1.2.2.2.1 | exact hX.1.1.2.2.2.2.1 | exact hX.1.1.2.2.2.2.2.1 | exact hX.1.1.2.2.2.2.2.2.1 | exact hX.1.1.2.2.2.2.2.2.2.1 | exact hX.1.1.2.2.2.2.2.2.2.2.1 | exact hX.1.1.2.2.2.2.2.2.2.2.2.1 | exact hX.1.1.2.2.2.2.2.2.2.2.2.2) (vp_in_nI (by unfold leA; omega) (by decide)) ?_
  refine V_topi (eL E (6 * (fiN (onB E (nI j)) (eN E)) + 1)) (hX.2.2.2.2.1.2.2.2.2.2.1 (fiN (onB E (nI j)) (eN E)) 1 hp (by omega)) ?_
  refine V_putS 20 dX6_delivers_20 fpX6_85 hX rfl rfl (by omega) (by omega) (fun h M20 hX hI20 => ?_)
  refine V_aload_n 23 dX6_delivers_23 rfl ?_
  refine V_aload_n 24 dX6_delivers_24 rfl ?_
  refine V_get 25 dX6_delivers_25 fdX6_16 (by first | exact hX.1.1.1 | exact hX.1.1.2.1 | exact hX.1.1.2.2.1 | exact hX.1.1.2.2.2.1 | exact hX.1.1.2.2.2.2.1 | exact hX.1.1.2.2.2.2.2.1 | exact hX.1.1.2.2.2.2.2.2.1 | exact hX.1.1.2.2.2.2.2.2.2.1 | exact hX.1.1.2.2.2.2.2.2.2.2.1 | exact hX.1.1.2.2.2.2.2.2.2.2.2.1 | exact hX.1.1.2.2.2.2.2.2.2.2.2.2) rfl ?_
  refine V_iload_n 28 dX6_delivers_28 rfl ?_
  refine V_iload_n 29 dX6_delivers_29 rfl ?_
  refine V_iconstv 30 (2) dX6_delivers_30 (by decide) ?_
  refine V_is3 31 dX6_delivers_31 ksX6_53 rfl rfl (c_X6_ofLetter r (fiN (onB E (nI j)) (eN E)) 2 ?_)
  refine V_ialdk 34 (leA r (fiN (onB E (nI j)) (eN E)) 2) (nI_clamp (by unfold leA; omega)) dX6_delivers_34 (by first | exact hX.1.1.1 | exact hX.1.1.2.1 | exact hX.1.1.2.2.1 | exact hX.1.1.2.2.2.1 | exact hX.1.1.2.2.2.2.1 | exact hX.1.1.2.2.2.2.2.1 | exact hX.1.1.2.2.2.2.2.2.1 | exact hX.1.1.2.2.2.2.2.2.2.1 | exact hX.1.1.2.2.2.2.2.2.2.2.1 | exact hX.1.1.2.2.2.2.2.2.2.2.2.1 | exact hX.1.1.2.2.2.2.2.2.2.2.2.2) (vp_in_nI (by unfold leA; omega) (by decide)) ?_
  refine V_topi (eL E (6 * (fiN (onB E (nI j)) (eN E)) + 2)) (hX.2.2.2.2.1.2.2.2.2.2.1 (fiN (onB E (nI j)) (eN E)) 2 hp (by omega)) ?_
  refine V_putS 35 dX6_delivers_35 fpX6_88 hX rfl rfl (by omega) (by omega) (fun h M35 hX hI35 => ?_)
  refine V_aload_n 38 dX6_delivers_38 rfl ?_
  refine V_aload_n 39 dX6_delivers_39 rfl ?_
  refine V_get 40 dX6_delivers_40 fdX6_16 (by first | exact hX.1.1.1 | exact hX.1.1.2.1 | exact hX.1.1.2.2.1 | exact hX.1.1.2.2.2.1 | exact hX.1.1.2.2.2.2.1 | exact hX.1.1.2.2.2.2.2.1 | exact hX.1.1.2.2.2.2.2.2.1 | exact hX.1.1.2.2.2.2.2.2.2.1 | exact hX.1.1.2.2.2.2.2.2.2.2.1 | exact hX.1.1.2.2.2.2.2.2.2.2.2.1 | exact hX.1.1.2.2.2.2.2.2.2.2.2.2) rfl ?_
  refine V_iload_n 43 dX6_delivers_43 rfl ?_
  refine V_iload_n 44 dX6_delivers_44 rfl ?_
  refine V_iconstv 45 (3) dX6_delivers_45 (by decide) ?_
  refine V_is3 46 dX6_delivers_46 ksX6_53 rfl rfl (c_X6_ofLetter r (fiN (onB E (nI j)) (eN E)) 3 ?_)
  refine V_ialdk 49 (leA r (fiN (onB E (nI j)) (eN E)) 3) (nI_clamp (by unfold leA; omega)) dX6_delivers_49 (by first | exact hX.1.1.1 | exact hX.1.1.2.1 | exact hX.1.1.2.2.1 | exact hX.1.1.2.2.2.1 | exact hX.1.1.2.2.2.2.1 | exact hX.1.1.2.2.2.2.2.1 | exact hX.1.1.2.2.2.2.2.2.1 | exact hX.1.1.2.2.2.2.2.2.2.1 | exact hX.1.1.2.2.2.2.2.2.2.2.1 | exact hX.1.1.2.2.2.2.2.2.2.2.2.1 | exact hX.1.1.2.2.2.2.2.2.2.2.2.2) (vp_in_nI (by unfold leA; omega) (by decide)) ?_
  refine V_topi (eL E (6 * (fiN (onB E (nI j)) (eN E)) + 3)) (hX.2.2.2.2.1.2.2.2.2.2.1 (fiN (onB E (nI j)) (eN E)) 3 hp (by omega)) ?_
  refine V_putS 50 dX6_delivers_50 fpX6_91 hX rfl rfl (by omega) (by omega) (fun h M50 hX hI50 => ?_)
  refine V_aload_n 53 dX6_delivers_53 rfl ?_
  refine V_aload_n 54 dX6_delivers_54 rfl ?_
  refine V_get 55 dX6_delivers_55 fdX6_16 (by first | exact hX.1.1.1 | exact hX.1.1.2.1 | exact hX.1.1.2.2.1 | exact hX.1.1.2.2.2.1 | exact hX.1.1.2.2.2.2.1 | exact hX.1.1.2.2.2.2.2.1 | exact hX.1.1.2.2.2.2.2.2.1 | exact hX.1.1.2.2.2.2.2.2.2.1 | exact hX.1.1.2.2.2.2.2.2.2.2.1 | exact hX.1.1.2.2.2.2.2.2.2.2.2.1 | exact hX.1.1.2.2.2.2.2.2.2.2.2.2) rfl ?_
  refine V_iload_n 58 dX6_delivers_58 rfl ?_
  refine V_iload_n 59 dX6_delivers_59 rfl ?_
  refine V_iconstv 60 (4) dX6_delivers_60 (by decide) ?_
  refine V_is3 61 dX6_delivers_61 ksX6_53 rfl rfl (c_X6_ofLetter r (fiN (onB E (nI j)) (eN E)) 4 ?_)
  refine V_ialdk 64 (leA r (fiN (onB E (nI j)) (eN E)) 4) (nI_clamp (by unfold leA; omega)) dX6_delivers_64 (by first | exact hX.1.1.1 | exact hX.1.1.2.1 | exact hX.1.1.2.2.1 | exact hX.1.1.2.2.2.1 | exact hX.1.1.2.2.2.2.1 | exact hX.1.1.2.2.2.2.2.1 | exact hX.1.1.2.2.2.2.2.2.1 | exact hX.1.1.2.2.2.2.2.2.2.1 | exact hX.1.1.2.2.2.2.2.2.2.2.1 | exact hX.1.1.2.2.2.2.2.2.2.2.2.1 | exact hX.1.1.2.2.2.2.2.2.2.2.2.2) (vp_in_nI (by unfold leA; omega) (by decide)) ?_
  refine V_topi (eL E (6 * (fiN (onB E (nI j)) (eN E)) + 4)) (hX.2.2.2.2.1.2.2.2.2.2.1 (fiN (onB E (nI j)) (eN E)) 4 hp (by omega)) ?_
  refine V_putS 65 dX6_delivers_65 fpX6_94 hX rfl rfl (by omega) (by omega) (fun h M65 hX hI65 => ?_)
  refine V_aload_n 68 dX6_delivers_68 rfl ?_
  refine V_aload_n 69 dX6_delivers_69 rfl ?_
  refine V_get 70 dX6_delivers_70 fdX6_16 (by first | exact hX.1.1.1 | exact hX.1.1.2.1 | exact hX.1.1.2.2.1 | exact hX.1.1.2.2.2.1 | exact hX.1.1.2.2.2.2.1 | exact hX.1.1.2.2.2.2.2.1 | exact hX.1.1.2.2.2.2.2.2.1 | exact hX.1.1.2.2.2.2.2.2.2.1 | exact hX.1.1.2.2.2.2.2.2.2.2.1 | exact hX.1.1.2.2.2.2.2.2.2.2.2.1 | exact hX.1.1.2.2.2.2.2.2.2.2.2.2) rfl ?_
  refine V_iload_n 73 dX6_delivers_73 rfl ?_
  refine V_iload_n 74 dX6_delivers_74 rfl ?_
  refine V_iconstv 75 (5) dX6_delivers_75 (by decide) ?_
  refine V_is3 76 dX6_delivers_76 ksX6_53 rfl rfl (c_X6_ofLetter r (fiN (onB E (nI j)) (eN E)) 5 ?_)
  refine V_ialdk 79 (leA r (fiN (onB E (nI j)) (eN E)) 5) (nI_clamp (by unfold leA; omega)) dX6_delivers_79 (by first | exact hX.1.1.1 | exact hX.1.1.2.1 | exact hX.1.1.2.2.1 | exact hX.1.1.2.2.2.1 | exact hX.1.1.2.2.2.2.1 | exact hX.1.1.2.2.2.2.2.1 | exact hX.1.1.2.2.2.2.2.2.1 | exact hX.1.1.2.2.2.2.2.2.2.1 | exact hX.1.1.2.2.2.2.2.2.2.2.1 | exact hX.1.1.2.2.2.2.2.2.2.2.2.1 | exact hX.1.1.2.2.2.2.2.2.2.2.2.2) (vp_in_nI (by unfold leA; omega) (by decide)) ?_
  refine V_topi (eL E (6 * (fiN (onB E (nI j)) (eN E)) + 5)) (hX.2.2.2.2.1.2.2.2.2.2.1 (fiN (onB E (nI j)) (eN E)) 5 hp (by omega)) ?_
  refine V_putS 80 dX6_delivers_80 fpX6_97 hX rfl rfl (by omega) (by omega) (fun h M80 hX hI80 => ?_)
  refine V_aload_n 83 dX6_delivers_83 rfl ?_
  refine V_get 84 dX6_delivers_84 fdX6_16 (by first | exact hX.1.1.1 | exact hX.1.1.2.1 | exact hX.1.1.2.2.1 | exact hX.1.1.2.2.2.1 | exact hX.1.1.2.2.2.2.1 | exact hX.1.1.2.2.2.2.2.1 | exact hX.1.1.2.2.2.2.2.2.1 | exact hX.1.1.2.2.2.2.2.2.2.1 | exact hX.1.1.2.2.2.2.2.2.2.2.1 | exact hX.1.1.2.2.2.2.2.2.2.2.2.1 | exact hX.1.1.2.2.2.2.2.2.2.2.2.2) rfl ?_
  refine V_sipushv 87 (168) dX6_delivers_87 (by decide) ?_
  refine V_iload_n 90 dX6_delivers_90 rfl ?_
  refine V_imul 91 dX6_delivers_91 ?_
  refine V_topi (nI (168 * r)) (pk_mul 168 r) ?_
  refine V_iconstv 92 (2) dX6_delivers_92 (by decide) ?_
  refine V_iadd 93 dX6_delivers_93 ?_
  refine V_topi (nI (168 * r + 2)) (nI_add _ 2) ?_
  refine V_dup2 94 dX6_delivers_94 ?_
  refine V_ialdk 95 (168 * r + 2) (nI_clamp (by omega)) dX6_delivers_95 (by first | exact hX.1.1.1 | exact hX.1.1.2.1 | exact hX.1.1.2.2.1 | exact hX.1.1.2.2.2.1 | exact hX.1.1.2.2.2.2.1 | exact hX.1.1.2.2.2.2.2.1 | exact hX.1.1.2.2.2.2.2.2.1 | exact hX.1.1.2.2.2.2.2.2.2.1 | exact hX.1.1.2.2.2.2.2.2.2.2.1 | exact hX.1.1.2.2.2.2.2.2.2.2.2.1 | exact hX.1.1.2.2.2.2.2.2.2.2.2.2) (vp_in_nI (by omega) (by decide)) ?_
  refine V_topi (nI (eN E)) hX.2.2.2.2.1.2.2.1 ?_
  refine V_iconstv 96 (1) dX6_delivers_96 (by decide) ?_
  refine V_isub 97 dX6_delivers_97 ?_
  refine V_topi (nI (eN E - 1)) (pk_sub (a := eN E) (b := 1) (by omega)) ?_
  refine V_ia3 98 (168 * r + 2) (nI_clamp (by omega)) dX6_delivers_98 hX.1 (vp_in_nI (by omega) (by decide)) (fun h hM => ?_)
  refine V_bipushv 99 (6) dX6_delivers_99 (by decide) ?_
  refine V_iload_n 101 dX6_delivers_101 rfl ?_
  refine V_imul 102 dX6_delivers_102 ?_
  refine V_topi (nI (6 * (fiN (onB E (nI j)) (eN E)))) (pk_mul 6 _) ?_
  refine V_istore 103 dX6_delivers_103 rfl rfl ?_
  have g : ∀ w, w < 6 → eH (tkE E (fiN (onB E (nI j)) (eN E))) w = eL E (6 * (fiN (onB E (nI j)) (eN E)) + w) := by
    intro w hw
    show va_cpy (eL E) (eH E) (6 * (fiN (onB E (nI j)) (eN E))) 0 6 w = _
    rw [pk_cpy_in (by omega) (by omega)]
    rfl
  have hHD : HD M80 (tkE E (fiN (onB E (nI j)) (eN E))) := by
    unfold HD
    rw [g 1 (by omega), g 2 (by omega), g 3 (by omega), g 4 (by omega), g 5 (by omega), hI80, hI65, hI50, hI35, hI20]
    exact ⟨rfl, rfl, rfl, rfl, rfl⟩
  have hR1 : RowE (shF (upd (M80.2.2.1 3) (168 * r + 2) (nI (eN E - 1))) r (fiN (onB E (nI j)) (eN E)) (6 * (eN E - 1))) r Q.1 (tkE E (fiN (onB E (nI j)) (eN E))) := hX.2.2.2.2.1.tk hn hp
  have hXk := hX
  refine lp_X6_delivers (M := M80) (f := upd (M80.2.2.1 3) (168 * r + 2) (nI (eN E - 1))) (fiN (onB E (nI j)) (eN E)) j (eN E - 1) hr (by omega) pk_us (fun h hM v4 hv4 => ?_) (6 * (fiN (onB E (nI j)) (eN E))) (by omega) (Nat.le_refl _) h (by rw [shF_0]; exact hM)
  obtain ⟨z4, rfl⟩ := hv4
  obtain ⟨κ, hκ, hkd, hD⟩ := hdel
  have hX9 : WX G h0 h m M0 (mJ M80 3 (shF (upd (M80.2.2.1 3) (168 * r + 2) (nI (eN E - 1))) r (fiN (onB E (nI j)) (eN E)) (6 * (eN E - 1)))) r (tkE E (fiN (onB E (nI j)) (eN E))) Q := ⟨hM, hXk.2.1.seg (fun q hq => by unfold shF; rw [if_neg (by omega), pk_un (by omega)]), hXk.2.2.1, hXk.2.2.2.1, hR1, hXk.2.2.2.2.2⟩
  refine c_X6_delivers_t hX9 j hj hn0 hHD (by show eN E - 1 < 12; omega) (by have h1 := (fiN_lt hp).1; have h2 : eL E (6 * (fiN (onB E (nI j)) (eN E))) = nI j := (by simpa [onB] using h1); exact (g 0 (by omega)).trans h2) κ hκ ((g 1 (by omega)).trans hkd) hD (fun h M1 hX => ?_)
  rw [← hkd]
  refine k h M1 ?_
  unfold dlE
  rw [if_pos hb]
  exact hX
end M31
