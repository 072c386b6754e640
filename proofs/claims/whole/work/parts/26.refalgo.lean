theorem up2 {row f : Nat → Int32} {q q0 p p0 : Nat} {v : Int32} (hAB : q = q0 ↔ p = p0) (h : row q = f p) : upd row q0 v q = upd f p0 v p := by
  rw [upd_if, upd_if]
  by_cases a : q = q0
  · rw [if_pos a, if_pos (hAB.mp a)]
  · rw [if_neg a, if_neg (fun b => a (hAB.mpr b)), h]
theorem up0 {row : Nat → Int32} {q q0 : Nat} {v x : Int32} (hA : ¬ q = q0) (h : row q = x) : upd row q0 v q = x := by rw [pk_un hA, h]
section RE
variable {row : Nat → Int32} {r n i : Nat} {E : ET} {v : Int32}
/-- a contender's cell that both have -/
theorem RowE.st (hR : RowE row r n E) (hi : i < n) (hn : n ≤ 6) (w c : Nat) (hwc : (w = 0 ∧ c = 1) ∨ (w = 1 ∧ c = 0) ∨ (w = 2 ∧ c = 2) ∨ (w = 3 ∧ c = 3) ∨ (w = 4 ∧ c = 4) ∨ (w = 8 ∧ c = 7)) : RowE (upd row (ctA r i w) v) r n (setE E (nI i) (nI c) v) := by
  rw [setE_nI E (by omega) (by omega)]
  obtain ⟨h1, h2, h3, h4, h5, h6, h7⟩ := hR
  refine ⟨up0 (by unfold ctA; omega) h1, fun q => up0 (by unfold ctA; omega) (h2 q), up0 (by unfold ctA; omega) h3, fun k hk => up0 (by unfold ctA; omega) (h4 k hk), fun j hj => ?_, fun k j hk hj => up0 (by unfold ctA leA; unfold eC' eN at hk; simp only at hk; omega) (h6 k j hk hj), h7⟩
  obtain ⟨a0, a1, a2, a3, a4, a5, a7, a6, a8⟩ := h5 j hj
  refine ⟨up2 (by unfold ctA; omega) a0, up2 (by unfold ctA; omega) a1, up2 (by unfold ctA; omega) a2, up2 (by unfold ctA; omega) a3, up2 (by unfold ctA; omega) a4, fun q => up2 (by unfold ctA; omega) (a5 q), fun q => up2 (by unfold ctA; omega) (a7 q), fun q z => ?_, fun q => up2 (by unfold ctA; omega) (a8 q)⟩
  have z : eC E (8 * j + 5) = 1 := by
    have z2 : upd (eC E) (8 * i + c) v (8 * j + 5) = 1 := z
    rwa [pk_un (by omega)] at z2
  exact up2 (by unfold ctA; omega) (a6 q z)
theorem RowE.s5 (hR : RowE row r n E) (hi : i < n) (hn : n ≤ 6) (hw : eW E = 2) : RowE (upd row (ctA r i 5) v) r n (setE E (nI i) 5 v) := by
  rw [show (5 : Int32) = nI 5 from rfl, setE_nI E (by omega) (by omega)]
  obtain ⟨h1, h2, h3, h4, h5, h6, h7⟩ := hR
  refine ⟨up0 (by unfold ctA; omega) h1, fun q => up0 (by unfold ctA; omega) (h2 q), up0 (by unfold ctA; omega) h3, fun k hk => up0 (by unfold ctA; omega) (h4 k hk), fun j hj => ?_, fun k j hk hj => up0 (by unfold ctA leA; unfold eC' eN at hk; simp only at hk; omega) (h6 k j hk hj), h7⟩
  obtain ⟨a0, a1, a2, a3, a4, a5, a7, a6, a8⟩ := h5 j hj
  refine ⟨up2 (by unfold ctA; omega) a0, up2 (by unfold ctA; omega) a1, up2 (by unfold ctA; omega) a2, up2 (by unfold ctA; omega) a3, up2 (by unfold ctA; omega) a4, fun q => up2 (by unfold ctA; omega) (a5 q), fun q => ?_, fun q z => ?_, fun q => up2 (by unfold ctA; omega) (a8 q)⟩
  · have q : eW E = 3 := q
    rw [hw] at q
    exact absurd q (by decide)
  · have q : eW E = 3 := q
    rw [hw] at q
    exact absurd q (by decide)
theorem RowE.s7 (hR : RowE row r n E) (hi : i < n) (hn : n ≤ 6) (hw : eW E = 3) (hh : v = 1 → row (ctA r i 6) = eC E (8 * i + 6)) : RowE (upd row (ctA r i 7) v) r n (setE E (nI i) 5 v) := by
  rw [show (5 : Int32) = nI 5 from rfl, setE_nI E (by omega) (by omega)]
  obtain ⟨h1, h2, h3, h4, h5, h6, h7⟩ := hR
  refine ⟨up0 (by unfold ctA; omega) h1, fun q => up0 (by unfold ctA; omega) (h2 q), up0 (by unfold ctA; omega) h3, fun k hk => up0 (by unfold ctA; omega) (h4 k hk), fun j hj => ?_, fun k j hk hj => up0 (by unfold ctA leA; unfold eC' eN at hk; simp only at hk; omega) (h6 k j hk hj), h7⟩
  obtain ⟨a0, a1, a2, a3, a4, a5, a7, a6, a8⟩ := h5 j hj
  refine ⟨up2 (by unfold ctA; omega) a0, up2 (by unfold ctA; omega) a1, up2 (by unfold ctA; omega) a2, up2 (by unfold ctA; omega) a3, up2 (by unfold ctA; omega) a4, fun q => ?_, fun q => up2 (by unfold ctA; omega) (a7 q), fun q z => ?_, fun q => up2 (by unfold ctA; omega) (a8 q)⟩
  · have q : eW E = 2 := q
    rw [hw] at q
    exact absurd q (by decide)
  · have z2 : upd (eC E) (8 * i + 5) v (8 * j + 5) = 1 := z
    refine up2 (by unfold ctA; omega) ?_
    by_cases hji : j = i
    · subst hji
      rw [pk_us] at z2
      exact hh z2
    · rw [pk_un (by omega)] at z2
      exact a6 q z2
theorem RowE.s6 (hR : RowE row r n E) (hi : i < n) (hn : n ≤ 6) : RowE (upd row (ctA r i 6) v) r n (setE E (nI i) 6 v) := by
  rw [show (6 : Int32) = nI 6 from rfl, setE_nI E (by omega) (by omega)]
  obtain ⟨h1, h2, h3, h4, h5, h6, h7⟩ := hR
  refine ⟨up0 (by unfold ctA; omega) h1, fun q => up0 (by unfold ctA; omega) (h2 q), up0 (by unfold ctA; omega) h3, fun k hk => up0 (by unfold ctA; omega) (h4 k hk), fun j hj => ?_, fun k j hk hj => up0 (by unfold ctA leA; unfold eC' eN at hk; simp only at hk; omega) (h6 k j hk hj), h7⟩
  obtain ⟨a0, a1, a2, a3, a4, a5, a7, a6, a8⟩ := h5 j hj
  refine ⟨up2 (by unfold ctA; omega) a0, up2 (by unfold ctA; omega) a1, up2 (by unfold ctA; omega) a2, up2 (by unfold ctA; omega) a3, up2 (by unfold ctA; omega) a4, fun q => up2 (by unfold ctA; omega) (a5 q), fun q => up2 (by unfold ctA; omega) (a7 q), fun q z => ?_, fun q => up2 (by unfold ctA; omega) (a8 q)⟩
  have z2 : upd (eC E) (8 * i + 6) v (8 * j + 5) = 1 := z
  rw [pk_un (by omega)] at z2
  exact up2 (by unfold ctA; omega) (a6 q z2)
/-- the same number once more -/
theorem RowE.s3n (hR : RowE row r n E) (hi : i < n) (he : eC E (8 * i + 3) = v) : RowE (upd row (ctA r i 3) v) r n E := by
  have e : upd row (ctA r i 3) v = row := by
    funext q
    rw [upd_if]
    by_cases a : q = ctA r i 3
    · rw [if_pos a, a, (hR.2.2.2.2.1 i hi).2.2.2.1, he]
    · rw [if_neg a]
  rw [e]
  exact hR
def sn6 (row : Nat → Int32) (r k : Nat) (ln kd nu le se al : Int32) : Nat → Int32 := upd (upd (upd (upd (upd (upd row (leA r k 0) ln) (leA r k 1) kd) (leA r k 2) nu) (leA r k 3) le) (leA r k 4) se) (leA r k 5) al
def sn7 (f : Nat → Int32) (r k : Nat) : Nat → Int32 := upd f (168 * r + 2) (nI (k + 1))
def sn8 (f : Nat → Int32) (r : Nat) : Nat → Int32 := upd f (168 * r + 3) (f (168 * r + 3) + 1)
def sn9 (f : Nat → Int32) (r κ : Nat) : Nat → Int32 := upd f (168 * r + 3 + κ) (f (168 * r + 3 + κ) + 1)
theorem RowE.snd (hR : RowE row r n E) (hn : n ≤ 6) (hc : eN E < 12) {κ : Nat} (hκ : 1 ≤ κ ∧ κ ≤ 7) {ln nu le se al : Int32} : RowE (sn9 (sn8 (sn7 (sn6 row r (eN E) ln (nI κ) nu le se al) r (eN E)) r) r κ) r n (sndE E ln (nI κ) nu le se al) := by
  have hkd : eN E < 12 ∧ 1 ≤ nI κ ∧ nI κ ≤ 7 := ⟨hc, nI_le (a := 1) hκ.1 (by omega), nI_le (b := 7) hκ.2 (by decide)⟩
  have hcl : (nI κ).toNatClampNeg = κ := nI_clamp (by omega)
  obtain ⟨h1, h2, h3, h4, h5, h6, h7⟩ := hR
  have o6 : ∀ q, ¬ (leA r (eN E) 0 ≤ q ∧ q < leA r (eN E) 0 + 6) → sn6 row r (eN E) ln (nI κ) nu le se al q = row q := by
    intro q hq
    unfold sn6 leA
    unfold leA at hq
    rw [pk_un (by omega), pk_un (by omega), pk_un (by omega), pk_un (by omega), pk_un (by omega), pk_un (by omega)]
  generalize hf6 : sn6 row r (eN E) ln (nI κ) nu le se al = f6 at o6
  have o9 : ∀ q, ¬ q = 168 * r + 2 → ¬ q = 168 * r + 3 → ¬ q = 168 * r + 3 + κ → sn9 (sn8 (sn7 f6 r (eN E)) r) r κ q = f6 q := by
    intro q a b c
    unfold sn9 sn8 sn7
    rw [pk_un c, pk_un b, pk_un a]
  have hu : sndE E ln (nI κ) nu le se al = eS' (eN' (eL' E (upd (upd (upd (upd (upd (upd (eL E) (6 * eN E) ln) (6 * eN E + 1) (nI κ)) (6 * eN E + 2) nu) (6 * eN E + 3) le) (6 * eN E + 4) se) (6 * eN E + 5) al)) (eN E + 1)) (upd (upd (eS E) κ (eS E κ + 1)) 0 (upd (eS E) κ (eS E κ + 1) 0 + 1)) := by
    unfold sndE
    rw [if_pos hkd, hcl]
  rw [hu]
  refine ⟨?_, fun q => ?_, ?_, fun k hk => ?_, fun j hj => ?_, fun k j hk hj => ?_, by show eN E + 1 ≤ 12; omega⟩
  · rw [o9 _ (by omega) (by omega) (by omega), o6 _ (by unfold leA; omega)]; exact h1
  · rw [o9 _ (by omega) (by omega) (by omega), o6 _ (by unfold leA; omega)]; exact h2 q
  · unfold sn9 sn8 sn7
    rw [pk_un (by omega), pk_un (by omega), pk_us]
    rfl
  · show sn9 (sn8 (sn7 f6 r (eN E)) r) r κ (168 * r + 3 + k) = upd (upd (eS E) κ (eS E κ + 1)) 0 (upd (eS E) κ (eS E κ + 1) 0 + 1) k
    have g : ∀ k, k < 8 → sn7 f6 r (eN E) (168 * r + 3 + k) = eS E k := fun k hk => by
      unfold sn7
      rw [pk_un (by omega), o6 _ (by unfold leA; omega)]
      exact h4 k hk
    by_cases k0 : k = 0
    · subst k0
      rw [pk_us, pk_un (by omega)]
      unfold sn9
      rw [pk_un (by omega)]
      unfold sn8
      rw [show 168 * r + 3 + 0 = 168 * r + 3 from rfl, pk_us]
      have := g 0 (by omega)
      rw [show 168 * r + 3 + 0 = 168 * r + 3 from rfl] at this
      rw [this]
    · rw [pk_un k0]
      by_cases kk : k = κ
      · subst kk
        unfold sn9
        rw [pk_us, pk_us]
        unfold sn8
        rw [pk_un (by omega), g k hk]
      · unfold sn9
        rw [pk_un (by omega), pk_un kk]
        unfold sn8
        rw [pk_un (by omega)]
        exact g k hk
  · have g : ∀ w, w < 10 → sn9 (sn8 (sn7 f6 r (eN E)) r) r κ (ctA r j w) = row (ctA r j w) := fun w hw => by
      rw [o9 _ (by unfold ctA; omega) (by unfold ctA; omega) (by unfold ctA; omega), o6 _ (by unfold ctA leA; omega)]
    rw [g 0 (by omega), g 1 (by omega), g 2 (by omega), g 3 (by omega), g 4 (by omega), g 5 (by omega), g 6 (by omega), g 7 (by omega), g 8 (by omega)]
    exact h5 j hj
  · have hk2 : k < eN E + 1 := hk
    rw [o9 _ (by unfold leA; omega) (by unfold leA; omega) (by unfold leA; omega)]
    show f6 (leA r k j) = upd (upd (upd (upd (upd (upd (eL E) (6 * eN E) ln) (6 * eN E + 1) (nI κ)) (6 * eN E + 2) nu) (6 * eN E + 3) le) (6 * eN E + 4) se) (6 * eN E + 5) al (6 * k + j)
    rw [← hf6]
    unfold sn6
    by_cases hke : k < eN E
    · rw [pk_un (by unfold leA; omega), pk_un (by unfold leA; omega), pk_un (by unfold leA; omega), pk_un (by unfold leA; omega), pk_un (by unfold leA; omega), pk_un (by unfold leA; omega), pk_un (by omega), pk_un (by omega), pk_un (by omega), pk_un (by omega), pk_un (by omega), pk_un (by omega)]
      exact h6 k j hke hj
    · have hke : k = eN E := by omega
      subst hke
      simp only [upd_if]
      rcases (show j = 0 ∨ j = 1 ∨ j = 2 ∨ j = 3 ∨ j = 4 ∨ j = 5 by omega) with q | q | q | q | q | q <;> subst q <;> simp [leA]
end RE
theorem eH_set (E : ET) (w k v : Int32) : eH (setE E w k v) = eH E := by unfold setE; split <;> rfl
theorem eW_set (E : ET) (w k v : Int32) : eW (setE E w k v) = eW E := by unfold setE; split <;> rfl
theorem eG_set (E : ET) (w k v : Int32) : eG (setE E w k v) = eG E := by unfold setE; split <;> rfl
theorem eN_set (E : ET) (w k v : Int32) : eN (setE E w k v) = eN E := by unfold setE; split <;> rfl
theorem eL_set (E : ET) (w k v : Int32) : eL (setE E w k v) = eL E := by unfold setE; split <;> rfl
theorem eS_set (E : ET) (w k v : Int32) : eS (setE E w k v) = eS E := by unfold setE; split <;> rfl
theorem eC_set (E : ET) {i c : Nat} (hi : i < 6) (hc : c < 8) (v : Int32) : eC (setE E (nI i) (nI c) v) = upd (eC E) (8 * i + c) v := by rw [setE_nI E hi hc]; rfl
theorem eH_snd (E : ET) (a b c d e f : Int32) : eH (sndE E a b c d e f) = eH E := by unfold sndE; split <;> rfl
theorem eW_snd (E : ET) (a b c d e f : Int32) : eW (sndE E a b c d e f) = eW E := by unfold sndE; split <;> rfl
theorem eG_snd (E : ET) (a b c d e f : Int32) : eG (sndE E a b c d e f) = eG E := by unfold sndE; split <;> rfl
theorem eC_snd (E : ET) (a b c d e f : Int32) : eC (sndE E a b c d e f) = eC E := by unfold sndE; split <;> rfl
theorem eN_snd (E : ET) (a b c d e f : Int32) : eN (sndE E a b c d e f) ≤ eN E + 1 := by
  unfold sndE
  split
  · exact Nat.le_refl _
  · omega
theorem fo_nI {a : Nat} (ha : a < 2 ^ 31) : (nI a).toInt64 * 16807 - (nI a).toInt64 * 16807 / 2147483647 * 2147483647 = lN (a * 16807 % 2147483647) := by
  rw [nI_l ha, show (16807 : Int64) = lN 16807 from rfl, show (2147483647 : Int64) = lN 2147483647 from rfl, lN_mul, pk_lRem (by omega) (by omega) (by omega)]
theorem fo_nI2 {a : Nat} (ha : a < 2 ^ 31) : fo (nI a) = nI (a * 16807 % 2147483647) := by
  unfold fo
  rw [fo_nI ha, lN_i]
section M26
variable {l : Launch} {G : zGT} {h h0 : hpT} {sz : Nat} {Post : Option Value → hpT → Nat → Prop} {m r : Nat} {M M0 : MT} {Q : RG} {E : ET}
theorem MF.seg {r : Nat} {M0 M : MT} (hF : MF r M0 M) {f : Nat → Int32} (hf : ∀ q, ¬ (168 * r ≤ q ∧ q < 168 * r + 168) → f q = M.2.2.1 3 q) : MF r M0 (mJ M 3 f) := by
  obtain ⟨a, b, c, d, e⟩ := hF
  refine ⟨a, b, fun k hk => ?_, d, fun z hz => ?_⟩
  · show va_up M.2.2.1 3 _ k = _
    rw [va_up_ne _ _ hk]
    exact c k hk
  · show f z = _
    rw [hf z hz]
    exact e z hz
theorem mJ_mJ (M : MT) (f g : Nat → Int32) : mJ (mJ M 3 f) 3 g = mJ M 3 g := by
  unfold mJ
  have e : va_up (va_up M.2.2.1 3 f) 3 g = va_up M.2.2.1 3 g := by
    funext q
    by_cases hq : q = 3
    · rw [hq, va_up_self, va_up_self]
    · rw [va_up_ne _ _ hq, va_up_ne _ _ hq, va_up_ne _ _ hq]
  show (M.1, M.2.1, va_up (va_up M.2.2.1 3 f) 3 g, M.2.2.2) = _
  rw [e]
set_option maxHeartbeats 1000000 in
set_option maxRecDepth 100000 in
theorem c_X6_sends (hX : WX G h0 h m M0 M r E Q) (hc : eN E < 12) (κ : Nat) (hκ : 1 ≤ κ ∧ κ ≤ 7) {ln nu le se al : Int32} (k : ∀ h M1, WX G h0 h m M0 M1 r (sndE E ln (nI κ) nu le se al) Q → M1.1 = M.1 → Post none h sz) : Cn l G yX6_sends cX6_sends 9 none 1 0 0 [.ref m, .int (nI r), .int ln, .int (nI κ), .int nu, .int le, .int se, .int al] h sz Post := by
  refine Cn.of RX6 false (by decide) rfl (fun q => by cases q) (Nat.le_of_ble_eq_true rfl) ?_
  have hR := hX.2.2.2.2.1
  have hr := hX.2.2.2.2.2.1
  have hM := hX.1
  refine V_aload_n 0 dX6_sends_0 rfl ?_
  refine V_get 1 dX6_sends_1 fdX6_16 (by first | exact hM.1.1 | exact hM.1.2.1 | exact hM.1.2.2.1 | exact hM.1.2.2.2.1 | exact hM.1.2.2.2.2.1 | exact hM.1.2.2.2.2.2.1 | exact hM.1.2.2.2.2.2.2.1 | exact hM.1.2.2.2.2.2.2.2.1 | exact hM.1.2.2.2.2.2.2.2.2.1 | exact hM.1.2.2.2.2.2.2.2.2.2.1 | exact hM.1.2.2.2.2.2.2.2.2.2.2) rfl ?_
  refine V_sipushv 4 (168) dX6_sends_4 (by decide) ?_
  refine V_iload_n 7 dX6_sends_7 rfl ?_
  refine V_imul 8 dX6_sends_8 ?_
  refine V_topi (nI (168 * r)) (pk_mul 168 r) ?_
  refine V_iconstv 9 (2) dX6_sends_9 (by decide) ?_
  refine V_iadd 10 dX6_sends_10 ?_
  refine V_topi (nI (168 * r + 2)) (nI_add _ 2) ?_
  refine V_ialdk 11 (168 * r + 2) (nI_clamp (by omega)) dX6_sends_11 (by first | exact hM.1.1 | exact hM.1.2.1 | exact hM.1.2.2.1 | exact hM.1.2.2.2.1 | exact hM.1.2.2.2.2.1 | exact hM.1.2.2.2.2.2.1 | exact hM.1.2.2.2.2.2.2.1 | exact hM.1.2.2.2.2.2.2.2.1 | exact hM.1.2.2.2.2.2.2.2.2.1 | exact hM.1.2.2.2.2.2.2.2.2.2.1 | exact hM.1.2.2.2.2.2.2.2.2.2.2) (vp_in_nI (by omega) (by decide)) ?_
  refine V_topi (nI (eN E)) hR.2.2.1 ?_
  refine V_istore 12 dX6_sends_12 rfl rfl ?_
  refine V_aload_n 14 dX6_sends_14 rfl ?_
  refine V_get 15 dX6_sends_15 fdX6_16 (by first | exact hM.1.1 | exact hM.1.2.1 | exact hM.1.2.2.1 | exact hM.1.2.2.2.1 | exact hM.1.2.2.2.2.1 | exact hM.1.2.2.2.2.2.1 | exact hM.1.2.2.2.2.2.2.1 | exact hM.1.2.2.2.2.2.2.2.1 | exact hM.1.2.2.2.2.2.2.2.2.1 | exact hM.1.2.2.2.2.2.2.2.2.2.1 | exact hM.1.2.2.2.2.2.2.2.2.2.2) rfl ?_
  refine V_iload_n 18 dX6_sends_18 rfl ?_
  refine V_iload 19 dX6_sends_19 rfl ?_
  refine V_iconstv 21 (0) dX6_sends_21 (by decide) ?_
  refine V_is3 22 dX6_sends_22 ksX6_53 rfl rfl (c_X6_ofLetter r (eN E) 0 ?_)
  refine V_iload_n 25 dX6_sends_25 rfl ?_
  refine V_ia3 26 (leA r (eN E) 0) (nI_clamp (by unfold leA; omega)) dX6_sends_26 hM (vp_in_nI (by unfold leA; omega) (by decide)) (fun h hM => ?_)
  refine V_aload_n 27 dX6_sends_27 rfl ?_
  refine V_get 28 dX6_sends_28 fdX6_16 (by first | exact hM.1.1 | exact hM.1.2.1 | exact hM.1.2.2.1 | exact hM.1.2.2.2.1 | exact hM.1.2.2.2.2.1 | exact hM.1.2.2.2.2.2.1 | exact hM.1.2.2.2.2.2.2.1 | exact hM.1.2.2.2.2.2.2.2.1 | exact hM.1.2.2.2.2.2.2.2.2.1 | exact hM.1.2.2.2.2.2.2.2.2.2.1 | exact hM.1.2.2.2.2.2.2.2.2.2.2) rfl ?_
  refine V_iload_n 31 dX6_sends_31 rfl ?_
  refine V_iload 32 dX6_sends_32 rfl ?_
  refine V_iconstv 34 (1) dX6_sends_34 (by decide) ?_
  refine V_is3 35 dX6_sends_35 ksX6_53 rfl rfl (c_X6_ofLetter r (eN E) 1 ?_)
  refine V_iload_n 38 dX6_sends_38 rfl ?_
  refine V_ia3 39 (leA r (eN E) 1) (nI_clamp (by unfold leA; omega)) dX6_sends_39 hM (vp_in_nI (by unfold leA; omega) (by decide)) (fun h hM => ?_)
  refine V_aload_n 40 dX6_sends_40 rfl ?_
  refine V_get 41 dX6_sends_41 fdX6_16 (by first | exact hM.1.1 | exact hM.1.2.1 | exact hM.1.2.2.1 | exact hM.1.2.2.2.1 | exact hM.1.2.2.2.2.1 | exact hM.1.2.2.2.2.2.1 | exact hM.1.2.2.2.2.2.2.1 | exact hM.1.2.2.2.2.2.2.2.1 | exact hM.1.2.2.2.2.2.2.2.2.1 | exact hM.1.2.2.2.2.2.2.2.2.2.1 | exact hM.1.2.2.2.2.2.2.2.2.2.2) rfl ?_
  refine V_iload_n 44 dX6_sends_44 rfl ?_
  refine V_iload 45 dX6_sends_45 rfl ?_
  refine V_iconstv 47 (2) dX6_sends_47 (by decide) ?_
  refine V_is3 48 dX6_sends_48 ksX6_53 rfl rfl (c_X6_ofLetter r (eN E) 2 ?_)
  refine V_iload 51 dX6_sends_51 rfl ?_
  refine V_ia3 53 (leA r (eN E) 2) (nI_clamp (by unfold leA; omega)) dX6_sends_53 hM (vp_in_nI (by unfold leA; omega) (by decide)) (fun h hM => ?_)
  refine V_aload_n 54 dX6_sends_54 rfl ?_
  refine V_get 55 dX6_sends_55 fdX6_16 (by first | exact hM.1.1 | exact hM.1.2.1 | exact hM.1.2.2.1 | exact hM.1.2.2.2.1 | exact hM.1.2.2.2.2.1 | exact hM.1.2.2.2.2.2.1 | exact hM.1.2.2.2.2.2.2.1 | exact hM.1.2.2.2.2.2.2.2.1 | exact hM.1.2.2.2.2.2.2.2.2.1 | exact hM.1.2.2.2.2.2.2.2.2.2.1 | exact hM.1.2.2.2.2.2.2.2.2.2.2) rfl ?_
  refine V_iload_n 58 dX6_sends_58 rfl ?_
  refine V_iload 59 dX6_sends_59 rfl ?_
  refine V_iconstv 61 (3) dX6_sends_61 (by decide) ?_
  refine V_is3 62 dX6_sends_62 ksX6_53 rfl rfl (c_X6_ofLetter r (eN E) 3 ?_)
  refine V_iload 65 dX6_sends_65 rfl ?_
  refine V_ia3 67 (leA r (eN E) 3) (nI_clamp (by unfold leA; omega)) dX6_sends_67 hM (vp_in_nI (by unfold leA; omega) (by decide)) (fun h hM => ?_)
  refine V_aload_n 68 dX6_sends_68 rfl ?_
  refine V_get 69 dX6_sends_69 fdX6_16 (by first | exact hM.1.1 | exact hM.1.2.1 | exact hM.1.2.2.1 | exact hM.1.2.2.2.1 | exact hM.1.2.2.2.2.1 | exact hM.1.2.2.2.2.2.1 | exact hM.1.2.2.2.2.2.2.1 | exact hM.1.2.2.2.2.2.2.2.1 | exact hM.1.2.2.2.2.2.2.2.2.1 | exact hM.1.2.2.2.2.2.2.2.2.2.1 | exact hM.1.2.2.2.2.2.2.2.2.2.2) rfl ?_
  refine V_iload_n 72 dX6_sends_72 rfl ?_
  refine V_iload 73 dX6_sends_73 rfl ?_
  refine V_iconstv 75 (4) dX6_sends_75 (by decide) ?_
  refine V_is3 76 dX6_sends_76 ksX6_53 rfl rfl (c_X6_ofLetter r (eN E) 4 ?_)
  refine V_iload 79 dX6_sends_79 rfl ?_
  refine V_ia3 81 (leA r (eN E) 4) (nI_clamp (by unfold leA; omega)) dX6_sends_81 hM (vp_in_nI (by unfold leA; omega) (by decide)) (fun h hM => ?_)
  refine V_aload_n 82 dX6_sends_82 rfl ?_
  refine V_get 83 dX6_sends_83 fdX6_16 (by first | exact hM.1.1 | exact hM.1.2.1 | exact hM.1.2.2.1 | exact hM.1.2.2.2.1 | exact hM.1.2.2.2.2.1 | exact hM.1.2.2.2.2.2.1 | exact hM.1.2.2.2.2.2.2.1 | exact hM.1.2.2.2.2.2.2.2.1 | exact hM.1.2.2.2.2.2.2.2.2.1 | exact hM.1.2.2.2.2.2.2.2.2.2.1 | exact hM.1.2.2.2.2.2.2.2.2.2.2) rfl ?_
  refine V_iload_n 86 dX6_sends_86 rfl ?_
  refine V_iload 87 dX6_sends_87 rfl ?_
  refine V_iconstv 89 (5) dX6_sends_89 (by decide) ?_
  refine V_is3 90 dX6_sends_90 ksX6_53 rfl rfl (c_X6_ofLetter r (eN E) 5 ?_)
  refine V_iload 93 dX6_sends_93 rfl ?_
  refine V_ia3 95 (leA r (eN E) 5) (nI_clamp (by unfold leA; omega)) dX6_sends_95 hM (vp_in_nI (by unfold leA; omega) (by decide)) (fun h hM => ?_)
  refine V_aload_n 96 dX6_sends_96 rfl ?_
  refine V_get 97 dX6_sends_97 fdX6_16 (by first | exact hM.1.1 | exact hM.1.2.1 | exact hM.1.2.2.1 | exact hM.1.2.2.2.1 | exact hM.1.2.2.2.2.1 | exact hM.1.2.2.2.2.2.1 | exact hM.1.2.2.2.2.2.2.1 | exact hM.1.2.2.2.2.2.2.2.1 | exact hM.1.2.2.2.2.2.2.2.2.1 | exact hM.1.2.2.2.2.2.2.2.2.2.1 | exact hM.1.2.2.2.2.2.2.2.2.2.2) rfl ?_
  refine V_sipushv 100 (168) dX6_sends_100 (by decide) ?_
  refine V_iload_n 103 dX6_sends_103 rfl ?_
  refine V_imul 104 dX6_sends_104 ?_
  refine V_topi (nI (168 * r)) (pk_mul 168 r) ?_
  refine V_iconstv 105 (2) dX6_sends_105 (by decide) ?_
  refine V_iadd 106 dX6_sends_106 ?_
  refine V_topi (nI (168 * r + 2)) (nI_add _ 2) ?_
  refine V_iload 107 dX6_sends_107 rfl ?_
  refine V_iconstv 109 (1) dX6_sends_109 (by decide) ?_
  refine V_iadd 110 dX6_sends_110 ?_
  refine V_topi (nI (eN E + 1)) (nI_1 _) ?_
  refine V_ia3 111 (168 * r + 2) (nI_clamp (by omega)) dX6_sends_111 hM (vp_in_nI (by omega) (by decide)) (fun h hM => ?_)
  refine V_aload_n 112 dX6_sends_112 rfl ?_
  refine V_get 113 dX6_sends_113 fdX6_16 (by first | exact hM.1.1 | exact hM.1.2.1 | exact hM.1.2.2.1 | exact hM.1.2.2.2.1 | exact hM.1.2.2.2.2.1 | exact hM.1.2.2.2.2.2.1 | exact hM.1.2.2.2.2.2.2.1 | exact hM.1.2.2.2.2.2.2.2.1 | exact hM.1.2.2.2.2.2.2.2.2.1 | exact hM.1.2.2.2.2.2.2.2.2.2.1 | exact hM.1.2.2.2.2.2.2.2.2.2.2) rfl ?_
  refine V_sipushv 116 (168) dX6_sends_116 (by decide) ?_
  refine V_iload_n 119 dX6_sends_119 rfl ?_
  refine V_imul 120 dX6_sends_120 ?_
  refine V_topi (nI (168 * r)) (pk_mul 168 r) ?_
  refine V_iconstv 121 (3) dX6_sends_121 (by decide) ?_
  refine V_iadd 122 dX6_sends_122 ?_
  refine V_topi (nI (168 * r + 3)) (nI_add _ 3) ?_
  refine V_dup2 123 dX6_sends_123 ?_
  refine V_ialdk 124 (168 * r + 3) (nI_clamp (by omega)) dX6_sends_124 (by first | exact hM.1.1 | exact hM.1.2.1 | exact hM.1.2.2.1 | exact hM.1.2.2.2.1 | exact hM.1.2.2.2.2.1 | exact hM.1.2.2.2.2.2.1 | exact hM.1.2.2.2.2.2.2.1 | exact hM.1.2.2.2.2.2.2.2.1 | exact hM.1.2.2.2.2.2.2.2.2.1 | exact hM.1.2.2.2.2.2.2.2.2.2.1 | exact hM.1.2.2.2.2.2.2.2.2.2.2) (vp_in_nI (by omega) (by decide)) ?_
  refine V_iconstv 125 (1) dX6_sends_125 (by decide) ?_
  refine V_iadd 126 dX6_sends_126 ?_
  refine V_ia3 127 (168 * r + 3) (nI_clamp (by omega)) dX6_sends_127 hM (vp_in_nI (by omega) (by decide)) (fun h hM => ?_)
  refine V_aload_n 128 dX6_sends_128 rfl ?_
  refine V_get 129 dX6_sends_129 fdX6_16 (by first | exact hM.1.1 | exact hM.1.2.1 | exact hM.1.2.2.1 | exact hM.1.2.2.2.1 | exact hM.1.2.2.2.2.1 | exact hM.1.2.2.2.2.2.1 | exact hM.1.2.2.2.2.2.2.1 | exact hM.1.2.2.2.2.2.2.2.1 | exact hM.1.2.2.2.2.2.2.2.2.1 | exact hM.1.2.2.2.2.2.2.2.2.2.1 | exact hM.1.2.2.2.2.2.2.2.2.2.2) rfl ?_
  refine V_sipushv 132 (168) dX6_sends_132 (by decide) ?_
  refine V_iload_n 135 dX6_sends_135 rfl ?_
  refine V_imul 136 dX6_sends_136 ?_
  refine V_topi (nI (168 * r)) (pk_mul 168 r) ?_
  refine V_iconstv 137 (3) dX6_sends_137 (by decide) ?_
  refine V_iadd 138 dX6_sends_138 ?_
  refine V_topi (nI (168 * r + 3)) (nI_add _ 3) ?_
  refine V_iload_n 139 dX6_sends_139 rfl ?_
  refine V_iadd 140 dX6_sends_140 ?_
  refine V_topi (nI (168 * r + 3 + κ)) (nI_add _ κ) ?_
  refine V_dup2 141 dX6_sends_141 ?_
  refine V_ialdk 142 (168 * r + 3 + κ) (nI_clamp (by omega)) dX6_sends_142 (by first | exact hM.1.1 | exact hM.1.2.1 | exact hM.1.2.2.1 | exact hM.1.2.2.2.1 | exact hM.1.2.2.2.2.1 | exact hM.1.2.2.2.2.2.1 | exact hM.1.2.2.2.2.2.2.1 | exact hM.1.2.2.2.2.2.2.2.1 | exact hM.1.2.2.2.2.2.2.2.2.1 | exact hM.1.2.2.2.2.2.2.2.2.2.1 | exact hM.1.2.2.2.2.2.2.2.2.2.2) (vp_in_nI (by omega) (by decide)) ?_
  refine V_iconstv 143 (1) dX6_sends_143 (by decide) ?_
  refine V_iadd 144 dX6_sends_144 ?_
  refine V_ia3 145 (168 * r + 3 + κ) (nI_clamp (by omega)) dX6_sends_145 hM (vp_in_nI (by omega) (by decide)) (fun h hM => ?_)
  refine V_vret 146 dX6_sends_146 ?_
  refine k h (mJ M 3 (sn9 (sn8 (sn7 (sn6 (M.2.2.1 3) r (eN E) ln (nI κ) nu le se al) r (eN E)) r) r κ)) ⟨?_, hX.2.1.seg (fun q hq => ?_), hX.2.2.1, hX.2.2.2.1, hR.snd hX.2.2.2.2.2.2 hc hκ, hX.2.2.2.2.2⟩ rfl
  · simp only [mJ_mJ] at hM
    exact hM
  · unfold sn9 sn8 sn7 sn6 leA
    rw [pk_un (by omega), pk_un (by omega), pk_un (by omega), pk_un (by omega), pk_un (by omega), pk_un (by omega), pk_un (by omega), pk_un (by omega), pk_un (by omega)]
theorem nmR_nI {Q : RG} {i : Nat} (hi : i < 6) : nmR Q (nI i) = Q.2.1 i := by
  unfold nmR
  rw [if_pos (inb_nI hi (by decide)), nI_clamp (by omega)]
theorem spE_eq (Q : RG) (E : ET) {i : Nat} (hi : i < 6) : spE Q E (nI i) = sndE (sndE (setE E (nI i) 5 0) (2 * nI i) 2 (Q.2.1 i) (eC E (8 * i + 3)) (1 <<< (eC E (8 * i + 3) &&& 31)) (-1)) (2 * nI i + 1) 2 (Q.2.1 i) (eC E (8 * i + 3)) (1 <<< (eC E (8 * i + 3) &&& 31)) (-1) := by
  unfold spE sp1
  rw [nmR_nI hi, show (3 : Int32) = nI 3 from rfl, celE_nI E hi (by omega)]
  simp
theorem bhE_eq (E : ET) {i : Nat} (hi : i < 6) (v : Int32) : bhE E (nI i) v = sndE (setE (setE E (nI i) 0 3) (nI i) 4 v) (2 * nI i + eC (setE (setE E (nI i) 0 3) (nI i) 4 v) (8 * i + 1)) 7 v (-1) (-1) (-1) := by
  unfold bhE bh1
  rw [show (1 : Int32) = nI 1 from rfl, celE_nI _ hi (by omega)]
theorem srE_eq (E : ET) {i : Nat} (hi : i < 6) (k v : Int32) : srE E (nI i) k v = sndE E (2 * nI i + eC E (8 * i + 1)) k v (-1) (-1) (-1) := by
  unfold srE
  rw [show (1 : Int32) = nI 1 from rfl, celE_nI _ hi (by omega)]
set_option maxHeartbeats 1000000 in
set_option maxRecDepth 100000 in
theorem c_X6_probes (hX : WX G h0 h m M0 M r E Q) (i : Nat) (hi : i < Q.1) (hw : eW E = 2) (hc : eN E ≤ 10) (k : ∀ h M1, WX G h0 h m M0 M1 r (spE Q E (nI i)) Q → M1.1 = M.1 → Post none h sz) : Cn l G yX6_probes cX6_probes 4 none 2 0 0 [.ref m, .int (nI r), .int (nI i)] h sz Post := by
  refine Cn.of RX6 false (by decide) rfl (fun q => by cases q) (Nat.le_of_ble_eq_true rfl) ?_
  have hn := hX.2.2.2.2.2.2
  have hr := hX.2.2.2.2.2.1
  refine V_aload_n 0 dX6_probes_0 rfl ?_
  refine V_iload_n 1 dX6_probes_1 rfl ?_
  refine V_iload_n 2 dX6_probes_2 rfl ?_
  refine V_iconstv 3 (3) dX6_probes_3 (by decide) ?_
  refine V_iv3 4 dX6_probes_4 kvX6_56 rfl (by first | exact hX.1.1.1 | exact hX.1.1.2.1 | exact hX.1.1.2.2.1 | exact hX.1.1.2.2.2.1 | exact hX.1.1.2.2.2.2.1 | exact hX.1.1.2.2.2.2.2.1 | exact hX.1.1.2.2.2.2.2.2.1 | exact hX.1.1.2.2.2.2.2.2.2.1 | exact hX.1.1.2.2.2.2.2.2.2.2.1 | exact hX.1.1.2.2.2.2.2.2.2.2.2.1 | exact hX.1.1.2.2.2.2.2.2.2.2.2.2) rfl rfl (c_X6_has hX.1 r i 3 (by unfold ctA; have := hX.2.2.2.2.2; omega) ?_)
  refine V_topi _ ((hX.2.2.2.2.1.2.2.2.2.1 i hi).2.2.2.1) ?_
  refine V_istore_n 7 dX6_probes_7 rfl rfl ?_
  refine V_aload_n 8 dX6_probes_8 rfl ?_
  refine V_iload_n 9 dX6_probes_9 rfl ?_
  refine V_iload_n 10 dX6_probes_10 rfl ?_
  refine V_iconstv 11 (5) dX6_probes_11 (by decide) ?_
  refine V_iconstv 12 (0) dX6_probes_12 (by decide) ?_
  refine V_iv4 13 dX6_probes_13 kvX6_59 rfl (by first | exact hX.1.1.1 | exact hX.1.1.2.1 | exact hX.1.1.2.2.1 | exact hX.1.1.2.2.2.1 | exact hX.1.1.2.2.2.2.1 | exact hX.1.1.2.2.2.2.2.1 | exact hX.1.1.2.2.2.2.2.2.1 | exact hX.1.1.2.2.2.2.2.2.2.1 | exact hX.1.1.2.2.2.2.2.2.2.2.1 | exact hX.1.1.2.2.2.2.2.2.2.2.2.1 | exact hX.1.1.2.2.2.2.2.2.2.2.2.2) rfl rfl (c_X6_set hX.1 r i 5 (by unfold ctA; have := hX.2.2.2.2.2; omega) (fun h hM => ?_))
  replace hX := hX.row (by unfold ctA; omega) (by have := hX.2.2.2.2.2; unfold ctA; omega) hM (hX.2.2.2.2.1.s5 hi hn hw)
  refine V_aload_n 16 dX6_probes_16 rfl ?_
  refine V_iload_n 17 dX6_probes_17 rfl ?_
  refine V_iconstv 18 (2) dX6_probes_18 (by decide) ?_
  refine V_iload_n 19 dX6_probes_19 rfl ?_
  refine V_imul 20 dX6_probes_20 ?_
  refine V_iconstv 21 (2) dX6_probes_21 (by decide) ?_
  refine V_aload_n 22 dX6_probes_22 rfl ?_
  refine V_get 23 dX6_probes_23 fdX6_7 (by first | exact hX.1.1.1 | exact hX.1.1.2.1 | exact hX.1.1.2.2.1 | exact hX.1.1.2.2.2.1 | exact hX.1.1.2.2.2.2.1 | exact hX.1.1.2.2.2.2.2.1 | exact hX.1.1.2.2.2.2.2.2.1 | exact hX.1.1.2.2.2.2.2.2.2.1 | exact hX.1.1.2.2.2.2.2.2.2.2.1 | exact hX.1.1.2.2.2.2.2.2.2.2.2.1 | exact hX.1.1.2.2.2.2.2.2.2.2.2.2) rfl ?_
  refine V_iload_n 26 dX6_probes_26 rfl ?_
  refine V_ialdk 27 i (nI_clamp (by omega)) dX6_probes_27 (by first | exact hX.1.1.1 | exact hX.1.1.2.1 | exact hX.1.1.2.2.1 | exact hX.1.1.2.2.2.1 | exact hX.1.1.2.2.2.2.1 | exact hX.1.1.2.2.2.2.2.1 | exact hX.1.1.2.2.2.2.2.2.1 | exact hX.1.1.2.2.2.2.2.2.2.1 | exact hX.1.1.2.2.2.2.2.2.2.2.1 | exact hX.1.1.2.2.2.2.2.2.2.2.2.1 | exact hX.1.1.2.2.2.2.2.2.2.2.2.2) (vp_in_nI (by omega) (by decide)) ?_
  refine V_topi (Q.2.1 i) (hX.2.2.2.1 i hi) ?_
  refine V_iload_n 28 dX6_probes_28 rfl ?_
  refine V_iconstv 29 (1) dX6_probes_29 (by decide) ?_
  refine V_iload_n 30 dX6_probes_30 rfl ?_
  refine V_ishl 31 dX6_probes_31 ?_
  refine V_iconstv 32 (-1) dX6_probes_32 (by decide) ?_
  refine V_iv7 33 dX6_probes_33 kvX6_63 rfl (by first | exact hX.1.1.1 | exact hX.1.1.2.1 | exact hX.1.1.2.2.1 | exact hX.1.1.2.2.2.1 | exact hX.1.1.2.2.2.2.1 | exact hX.1.1.2.2.2.2.2.1 | exact hX.1.1.2.2.2.2.2.2.1 | exact hX.1.1.2.2.2.2.2.2.2.1 | exact hX.1.1.2.2.2.2.2.2.2.2.1 | exact hX.1.1.2.2.2.2.2.2.2.2.2.1 | exact hX.1.1.2.2.2.2.2.2.2.2.2.2) rfl rfl (c_X6_sends hX (by rw [eN_set]; omega) 2 (by decide) (fun h M1 hX hI => ?_))
  refine V_aload_n 36 dX6_probes_36 rfl ?_
  refine V_iload_n 37 dX6_probes_37 rfl ?_
  refine V_iconstv 38 (2) dX6_probes_38 (by decide) ?_
  refine V_iload_n 39 dX6_probes_39 rfl ?_
  refine V_imul 40 dX6_probes_40 ?_
  refine V_iconstv 41 (1) dX6_probes_41 (by decide) ?_
  refine V_iadd 42 dX6_probes_42 ?_
  refine V_iconstv 43 (2) dX6_probes_43 (by decide) ?_
  refine V_aload_n 44 dX6_probes_44 rfl ?_
  refine V_get 45 dX6_probes_45 fdX6_7 (by first | exact hX.1.1.1 | exact hX.1.1.2.1 | exact hX.1.1.2.2.1 | exact hX.1.1.2.2.2.1 | exact hX.1.1.2.2.2.2.1 | exact hX.1.1.2.2.2.2.2.1 | exact hX.1.1.2.2.2.2.2.2.1 | exact hX.1.1.2.2.2.2.2.2.2.1 | exact hX.1.1.2.2.2.2.2.2.2.2.1 | exact hX.1.1.2.2.2.2.2.2.2.2.2.1 | exact hX.1.1.2.2.2.2.2.2.2.2.2.2) rfl ?_
  refine V_iload_n 48 dX6_probes_48 rfl ?_
  refine V_ialdk 49 i (nI_clamp (by omega)) dX6_probes_49 (by first | exact hX.1.1.1 | exact hX.1.1.2.1 | exact hX.1.1.2.2.1 | exact hX.1.1.2.2.2.1 | exact hX.1.1.2.2.2.2.1 | exact hX.1.1.2.2.2.2.2.1 | exact hX.1.1.2.2.2.2.2.2.1 | exact hX.1.1.2.2.2.2.2.2.2.1 | exact hX.1.1.2.2.2.2.2.2.2.2.1 | exact hX.1.1.2.2.2.2.2.2.2.2.2.1 | exact hX.1.1.2.2.2.2.2.2.2.2.2.2) (vp_in_nI (by omega) (by decide)) ?_
  refine V_topi (Q.2.1 i) (hX.2.2.2.1 i hi) ?_
  refine V_iload_n 50 dX6_probes_50 rfl ?_
  refine V_iconstv 51 (1) dX6_probes_51 (by decide) ?_
  refine V_iload_n 52 dX6_probes_52 rfl ?_
  refine V_ishl 53 dX6_probes_53 ?_
  refine V_iconstv 54 (-1) dX6_probes_54 (by decide) ?_
  refine V_iv7 55 dX6_probes_55 kvX6_63 rfl (by first | exact hX.1.1.1 | exact hX.1.1.2.1 | exact hX.1.1.2.2.1 | exact hX.1.1.2.2.2.1 | exact hX.1.1.2.2.2.2.1 | exact hX.1.1.2.2.2.2.2.1 | exact hX.1.1.2.2.2.2.2.2.1 | exact hX.1.1.2.2.2.2.2.2.2.1 | exact hX.1.1.2.2.2.2.2.2.2.2.1 | exact hX.1.1.2.2.2.2.2.2.2.2.2.1 | exact hX.1.1.2.2.2.2.2.2.2.2.2.2) rfl rfl (c_X6_sends hX (by have := eN_snd (setE E (nI i) 5 0) (2 * nI i) (nI 2) (Q.2.1 i) (eC E (8 * i + 3)) (1 <<< (eC E (8 * i + 3) &&& 31)) (-1); rw [eN_set] at this; omega) 2 (by decide) (fun h M2 hX hI2 => ?_))
  refine V_vret 58 dX6_probes_58 ?_
  rw [spE_eq Q E (by omega)] at k
  exact k _ _ hX (hI2.trans hI)
set_option maxHeartbeats 1000000 in
set_option maxRecDepth 100000 in
theorem c_X6_heads (hX : WX G h0 h m M0 M r E Q) (i : Nat) (hi : i < Q.1) (hc : eN E < 12) {v : Int32} (k : ∀ h M1, WX G h0 h m M0 M1 r (bhE E (nI i) v) Q → M1.1 = M.1 → Post none h sz) : Cn l G yX6_heads cX6_heads 4 none 3 0 0 [.ref m, .int (nI r), .int (nI i), .int v] h sz Post := by
  refine Cn.of RX6 false (by decide) rfl (fun q => by cases q) (Nat.le_of_ble_eq_true rfl) ?_
  have hn := hX.2.2.2.2.2.2
  have hr := hX.2.2.2.2.2.1
  refine V_aload_n 0 dX6_heads_0 rfl ?_
  refine V_iload_n 1 dX6_heads_1 rfl ?_
  refine V_iload_n 2 dX6_heads_2 rfl ?_
  refine V_iconstv 3 (1) dX6_heads_3 (by decide) ?_
  refine V_iconstv 4 (3) dX6_heads_4 (by decide) ?_
  refine V_iv4 5 dX6_heads_5 kvX6_59 rfl (by first | exact hX.1.1.1 | exact hX.1.1.2.1 | exact hX.1.1.2.2.1 | exact hX.1.1.2.2.2.1 | exact hX.1.1.2.2.2.2.1 | exact hX.1.1.2.2.2.2.2.1 | exact hX.1.1.2.2.2.2.2.2.1 | exact hX.1.1.2.2.2.2.2.2.2.1 | exact hX.1.1.2.2.2.2.2.2.2.2.1 | exact hX.1.1.2.2.2.2.2.2.2.2.2.1 | exact hX.1.1.2.2.2.2.2.2.2.2.2.2) rfl rfl (c_X6_set hX.1 r i 1 (by unfold ctA; have := hX.2.2.2.2.2; omega) (fun h hM => ?_))
  replace hX := hX.row (by unfold ctA; omega) (by have := hX.2.2.2.2.2; unfold ctA; omega) hM (hX.2.2.2.2.1.st hi hn 1 0 (by omega))
  refine V_aload_n 8 dX6_heads_8 rfl ?_
  refine V_iload_n 9 dX6_heads_9 rfl ?_
  refine V_iload_n 10 dX6_heads_10 rfl ?_
  refine V_iconstv 11 (4) dX6_heads_11 (by decide) ?_
  refine V_iload_n 12 dX6_heads_12 rfl ?_
  refine V_iv4 13 dX6_heads_13 kvX6_59 rfl (by first | exact hX.1.1.1 | exact hX.1.1.2.1 | exact hX.1.1.2.2.1 | exact hX.1.1.2.2.2.1 | exact hX.1.1.2.2.2.2.1 | exact hX.1.1.2.2.2.2.2.1 | exact hX.1.1.2.2.2.2.2.2.1 | exact hX.1.1.2.2.2.2.2.2.2.1 | exact hX.1.1.2.2.2.2.2.2.2.2.1 | exact hX.1.1.2.2.2.2.2.2.2.2.2.1 | exact hX.1.1.2.2.2.2.2.2.2.2.2.2) rfl rfl (c_X6_set hX.1 r i 4 (by unfold ctA; have := hX.2.2.2.2.2; omega) (fun h hM => ?_))
  replace hX := hX.row (by unfold ctA; omega) (by have := hX.2.2.2.2.2; unfold ctA; omega) hM (hX.2.2.2.2.1.st hi hn 4 4 (by omega))
  refine V_aload_n 16 dX6_heads_16 rfl ?_
  refine V_iload_n 17 dX6_heads_17 rfl ?_
  refine V_aload_n 18 dX6_heads_18 rfl ?_
  refine V_iload_n 19 dX6_heads_19 rfl ?_
  refine V_iload_n 20 dX6_heads_20 rfl ?_
  refine V_iv2 21 dX6_heads_21 kvX6_71 rfl (by first | exact hX.1.1.1 | exact hX.1.1.2.1 | exact hX.1.1.2.2.1 | exact hX.1.1.2.2.2.1 | exact hX.1.1.2.2.2.2.1 | exact hX.1.1.2.2.2.2.2.1 | exact hX.1.1.2.2.2.2.2.2.1 | exact hX.1.1.2.2.2.2.2.2.2.1 | exact hX.1.1.2.2.2.2.2.2.2.2.1 | exact hX.1.1.2.2.2.2.2.2.2.2.2.1 | exact hX.1.1.2.2.2.2.2.2.2.2.2.2) rfl rfl (c_X6_rightOf hX.1 r i (by unfold ctA; have := hX.2.2.2.2.2; omega) ?_)
  refine V_topi (2 * nI i + eC _ (8 * i + 1)) (congrArg (fun z => 2 * nI i + z) (hX.2.2.2.2.1.2.2.2.2.1 i hi).1) ?_
  refine V_bipushv 24 (7) dX6_heads_24 (by decide) ?_
  refine V_iload_n 26 dX6_heads_26 rfl ?_
  refine V_iconstv 27 (-1) dX6_heads_27 (by decide) ?_
  refine V_iconstv 28 (-1) dX6_heads_28 (by decide) ?_
  refine V_iconstv 29 (-1) dX6_heads_29 (by decide) ?_
  refine V_iv7 30 dX6_heads_30 kvX6_63 rfl (by first | exact hX.1.1.1 | exact hX.1.1.2.1 | exact hX.1.1.2.2.1 | exact hX.1.1.2.2.2.1 | exact hX.1.1.2.2.2.2.1 | exact hX.1.1.2.2.2.2.2.1 | exact hX.1.1.2.2.2.2.2.2.1 | exact hX.1.1.2.2.2.2.2.2.2.1 | exact hX.1.1.2.2.2.2.2.2.2.2.1 | exact hX.1.1.2.2.2.2.2.2.2.2.2.1 | exact hX.1.1.2.2.2.2.2.2.2.2.2.2) rfl rfl (c_X6_sends hX (by rw [eN_set, eN_set]; exact hc) 7 (by decide) (fun h M1 hX hI => ?_))
  refine V_vret 33 dX6_heads_33 ?_
  rw [bhE_eq E (by omega)] at k
  exact k _ _ hX hI
theorem drM_eq {E : ET} {a b : Nat} (ha : a < 2 ^ 31) (hb : 1 ≤ b) (hb9 : b ≤ 9) (hG : eG E = nI b) : 1 + (lN (a * 16807 % 2147483647) - lN (a * 16807 % 2147483647) / (nI b).toInt64 * (nI b).toInt64).toInt32 = drM E (fo (nI a)) := by
  unfold drM
  rw [hG, if_neg (nI_nle hb (by omega)), fo_nI2 ha, nI_l (by omega), pk_lRem (by omega) (by omega) (by omega), pk_rem (by omega) (by omega) (by omega), lN_i]
theorem drE_eq (E : ET) {i : Nat} (hi : i < 6) {x mk : Int32} (hx : x = fo (eC E (8 * i + 7))) (hm : mk = drM E x) : drE E (nI i) = sndE (setE (setE E (nI i) 7 x) (nI i) 2 mk) (2 * nI i + eC (setE (setE E (nI i) 7 x) (nI i) 2 mk) (8 * i + 1)) 6 (eC (setE (setE E (nI i) 7 x) (nI i) 2 mk) (8 * i + 2)) (eC (setE (setE E (nI i) 7 x) (nI i) 2 mk) (8 * i + 3)) 1 1 := by
  subst hx
  have c7 : ∀ (E : ET), celE E (nI i) 7 = eC E (8 * i + 7) := fun E => celE_nI E (k := 7) hi (by omega)
  have c1 : ∀ (E : ET), celE E (nI i) 1 = eC E (8 * i + 1) := fun E => celE_nI E (k := 1) hi (by omega)
  have c3 : ∀ (E : ET), celE E (nI i) 3 = eC E (8 * i + 3) := fun E => celE_nI E (k := 3) hi (by omega)
  have e7 : ∀ (E : ET) (v : Int32), eC (setE E (nI i) 7 v) = upd (eC E) (8 * i + 7) v := fun E v => eC_set E (c := 7) hi (by omega) v
  have e2 : ∀ (E : ET) (v : Int32), eC (setE E (nI i) 2 v) = upd (eC E) (8 * i + 2) v := fun E v => eC_set E (c := 2) hi (by omega) v
  unfold drE dr1
  rw [c7, c1, c3, ← hm, e2, e7]
  rw [pk_us, pk_un (show ¬ 8 * i + 1 = 8 * i + 2 by omega), pk_un (show ¬ 8 * i + 1 = 8 * i + 7 by omega)]
set_option maxHeartbeats 1000000 in
set_option maxRecDepth 100000 in
theorem c_X6_draws (hX : WX G h0 h m M0 M r E Q) (i : Nat) (hi : i < Q.1) (hw : ¬ eW E = 0) (hc : eN E < 12) (a : Nat) (ha : a < 2 ^ 31) (hxa : eC E (8 * i + 7) = nI a) (b : Nat) (hb : 1 ≤ b) (hb9 : b ≤ 9) (hG : eG E = nI b) (k : ∀ h M1, WX G h0 h m M0 M1 r (drE E (nI i)) Q → M1.1 = M.1 → Post none h sz) : Cn l G yX6_draws cX6_draws 5 none 3 0 0 [.ref m, .int (nI r), .int (nI i)] h sz Post := by
  refine Cn.of RX6 false (by decide) rfl (fun q => by cases q) (Nat.le_of_ble_eq_true rfl) ?_
  have hn := hX.2.2.2.2.2.2
  have hr := hX.2.2.2.2.2.1
  refine V_aload_n 0 dX6_draws_0 rfl ?_
  refine V_iload_n 1 dX6_draws_1 rfl ?_
  refine V_iload_n 2 dX6_draws_2 rfl ?_
  refine V_bipushv 3 (8) dX6_draws_3 (by decide) ?_
  refine V_iv3 5 dX6_draws_5 kvX6_56 rfl (by first | exact hX.1.1.1 | exact hX.1.1.2.1 | exact hX.1.1.2.2.1 | exact hX.1.1.2.2.2.1 | exact hX.1.1.2.2.2.2.1 | exact hX.1.1.2.2.2.2.2.1 | exact hX.1.1.2.2.2.2.2.2.1 | exact hX.1.1.2.2.2.2.2.2.2.1 | exact hX.1.1.2.2.2.2.2.2.2.2.1 | exact hX.1.1.2.2.2.2.2.2.2.2.2.1 | exact hX.1.1.2.2.2.2.2.2.2.2.2.2) rfl rfl (c_X6_has hX.1 r i 8 (by unfold ctA; have := hX.2.2.2.2.2; omega) ?_)
  refine V_topi (nI a) (((hX.2.2.2.2.1.2.2.2.2.1 i hi).2.2.2.2.2.2.2.2 hw).trans hxa) ?_
  refine V_i2l 8 dX6_draws_8 ?_
  refine V_ldc2 9 dX6_draws_9 knX6_67 ?_
  refine V_lmul 12 dX6_draws_12 ?_
  refine V_ldc2 13 dX6_draws_13 knX6_69 ?_
  refine V_lrem 16 dX6_draws_16 (by decide) ?_
  refine V_topl _ (fo_nI ha) ?_
  refine V_lstore_n 17 dX6_draws_17 rfl rfl ?_
  refine V_aload_n 18 dX6_draws_18 rfl ?_
  refine V_iload_n 19 dX6_draws_19 rfl ?_
  refine V_iload_n 20 dX6_draws_20 rfl ?_
  refine V_bipushv 21 (8) dX6_draws_21 (by decide) ?_
  refine V_lload_n 23 dX6_draws_23 rfl ?_
  refine V_l2i 24 dX6_draws_24 ?_
  refine V_topi (fo (nI a)) (by rw [fo_nI2 ha, lN_i]) ?_
  refine V_iv4 25 dX6_draws_25 kvX6_59 rfl (by first | exact hX.1.1.1 | exact hX.1.1.2.1 | exact hX.1.1.2.2.1 | exact hX.1.1.2.2.2.1 | exact hX.1.1.2.2.2.2.1 | exact hX.1.1.2.2.2.2.2.1 | exact hX.1.1.2.2.2.2.2.2.1 | exact hX.1.1.2.2.2.2.2.2.2.1 | exact hX.1.1.2.2.2.2.2.2.2.2.1 | exact hX.1.1.2.2.2.2.2.2.2.2.2.1 | exact hX.1.1.2.2.2.2.2.2.2.2.2.2) rfl rfl (c_X6_set hX.1 r i 8 (by unfold ctA; have := hX.2.2.2.2.2; omega) (fun h hM => ?_))
  replace hX := hX.row (by unfold ctA; omega) (by have := hX.2.2.2.2.2; unfold ctA; omega) hM (hX.2.2.2.2.1.st hi hn 8 7 (by omega))
  refine V_aload_n 28 dX6_draws_28 rfl ?_
  refine V_iload_n 29 dX6_draws_29 rfl ?_
  refine V_iload_n 30 dX6_draws_30 rfl ?_
  refine V_iconstv 31 (2) dX6_draws_31 (by decide) ?_
  refine V_iconstv 32 (1) dX6_draws_32 (by decide) ?_
  refine V_lload_n 33 dX6_draws_33 rfl ?_
  refine V_aload_n 34 dX6_draws_34 rfl ?_
  refine V_get 35 dX6_draws_35 fdX6_16 (by first | exact hX.1.1.1 | exact hX.1.1.2.1 | exact hX.1.1.2.2.1 | exact hX.1.1.2.2.2.1 | exact hX.1.1.2.2.2.2.1 | exact hX.1.1.2.2.2.2.2.1 | exact hX.1.1.2.2.2.2.2.2.1 | exact hX.1.1.2.2.2.2.2.2.2.1 | exact hX.1.1.2.2.2.2.2.2.2.2.1 | exact hX.1.1.2.2.2.2.2.2.2.2.2.1 | exact hX.1.1.2.2.2.2.2.2.2.2.2.2) rfl ?_
  refine V_sipushv 38 (168) dX6_draws_38 (by decide) ?_
  refine V_iload_n 41 dX6_draws_41 rfl ?_
  refine V_imul 42 dX6_draws_42 ?_
  refine V_topi (nI (168 * r)) (pk_mul 168 r) ?_
  refine V_iconstv 43 (1) dX6_draws_43 (by decide) ?_
  refine V_iadd 44 dX6_draws_44 ?_
  refine V_topi (nI (168 * r + 1)) (nI_add _ 1) ?_
  refine V_ialdk 45 (168 * r + 1) (nI_clamp (by omega)) dX6_draws_45 (by first | exact hX.1.1.1 | exact hX.1.1.2.1 | exact hX.1.1.2.2.1 | exact hX.1.1.2.2.2.1 | exact hX.1.1.2.2.2.2.1 | exact hX.1.1.2.2.2.2.2.1 | exact hX.1.1.2.2.2.2.2.2.1 | exact hX.1.1.2.2.2.2.2.2.2.1 | exact hX.1.1.2.2.2.2.2.2.2.2.1 | exact hX.1.1.2.2.2.2.2.2.2.2.2.1 | exact hX.1.1.2.2.2.2.2.2.2.2.2.2) (vp_in_nI (by omega) (by decide)) ?_
  refine V_topi (nI b) ((hX.2.2.2.2.1.2.1 (by rw [eW_set]; exact hw)).trans ((eG_set _ _ _ _).trans hG)) ?_
  refine V_i2l 46 dX6_draws_46 ?_
  refine V_lrem 47 dX6_draws_47 (nI_l0 (by omega) (by omega)) ?_
  refine V_l2i 48 dX6_draws_48 ?_
  refine V_iadd 49 dX6_draws_49 ?_
  refine V_topi (drM E (fo (nI a))) (drM_eq ha hb hb9 hG) ?_
  refine V_iv4 50 dX6_draws_50 kvX6_59 rfl (by first | exact hX.1.1.1 | exact hX.1.1.2.1 | exact hX.1.1.2.2.1 | exact hX.1.1.2.2.2.1 | exact hX.1.1.2.2.2.2.1 | exact hX.1.1.2.2.2.2.2.1 | exact hX.1.1.2.2.2.2.2.2.1 | exact hX.1.1.2.2.2.2.2.2.2.1 | exact hX.1.1.2.2.2.2.2.2.2.2.1 | exact hX.1.1.2.2.2.2.2.2.2.2.2.1 | exact hX.1.1.2.2.2.2.2.2.2.2.2.2) rfl rfl (c_X6_set hX.1 r i 2 (by unfold ctA; have := hX.2.2.2.2.2; omega) (fun h hM => ?_))
  replace hX := hX.row (by unfold ctA; omega) (by have := hX.2.2.2.2.2; unfold ctA; omega) hM (hX.2.2.2.2.1.st hi hn 2 2 (by omega))
  refine V_aload_n 53 dX6_draws_53 rfl ?_
  refine V_iload_n 54 dX6_draws_54 rfl ?_
  refine V_aload_n 55 dX6_draws_55 rfl ?_
  refine V_iload_n 56 dX6_draws_56 rfl ?_
  refine V_iload_n 57 dX6_draws_57 rfl ?_
  refine V_iv2 58 dX6_draws_58 kvX6_71 rfl (by first | exact hX.1.1.1 | exact hX.1.1.2.1 | exact hX.1.1.2.2.1 | exact hX.1.1.2.2.2.1 | exact hX.1.1.2.2.2.2.1 | exact hX.1.1.2.2.2.2.2.1 | exact hX.1.1.2.2.2.2.2.2.1 | exact hX.1.1.2.2.2.2.2.2.2.1 | exact hX.1.1.2.2.2.2.2.2.2.2.1 | exact hX.1.1.2.2.2.2.2.2.2.2.2.1 | exact hX.1.1.2.2.2.2.2.2.2.2.2.2) rfl rfl (c_X6_rightOf hX.1 r i (by unfold ctA; have := hX.2.2.2.2.2; omega) ?_)
  refine V_topi (2 * nI i + eC _ (8 * i + 1)) (congrArg (fun z => 2 * nI i + z) (hX.2.2.2.2.1.2.2.2.2.1 i hi).1) ?_
  refine V_bipushv 61 (6) dX6_draws_61 (by decide) ?_
  refine V_aload_n 63 dX6_draws_63 rfl ?_
  refine V_iload_n 64 dX6_draws_64 rfl ?_
  refine V_iload_n 65 dX6_draws_65 rfl ?_
  refine V_iconstv 66 (2) dX6_draws_66 (by decide) ?_
  refine V_iv3 67 dX6_draws_67 kvX6_56 rfl (by first | exact hX.1.1.1 | exact hX.1.1.2.1 | exact hX.1.1.2.2.1 | exact hX.1.1.2.2.2.1 | exact hX.1.1.2.2.2.2.1 | exact hX.1.1.2.2.2.2.2.1 | exact hX.1.1.2.2.2.2.2.2.1 | exact hX.1.1.2.2.2.2.2.2.2.1 | exact hX.1.1.2.2.2.2.2.2.2.2.1 | exact hX.1.1.2.2.2.2.2.2.2.2.2.1 | exact hX.1.1.2.2.2.2.2.2.2.2.2.2) rfl rfl (c_X6_has hX.1 r i 2 (by unfold ctA; have := hX.2.2.2.2.2; omega) ?_)
  refine V_topi _ ((hX.2.2.2.2.1.2.2.2.2.1 i hi).2.2.1) ?_
  refine V_aload_n 70 dX6_draws_70 rfl ?_
  refine V_iload_n 71 dX6_draws_71 rfl ?_
  refine V_iload_n 72 dX6_draws_72 rfl ?_
  refine V_iconstv 73 (3) dX6_draws_73 (by decide) ?_
  refine V_iv3 74 dX6_draws_74 kvX6_56 rfl (by first | exact hX.1.1.1 | exact hX.1.1.2.1 | exact hX.1.1.2.2.1 | exact hX.1.1.2.2.2.1 | exact hX.1.1.2.2.2.2.1 | exact hX.1.1.2.2.2.2.2.1 | exact hX.1.1.2.2.2.2.2.2.1 | exact hX.1.1.2.2.2.2.2.2.2.1 | exact hX.1.1.2.2.2.2.2.2.2.2.1 | exact hX.1.1.2.2.2.2.2.2.2.2.2.1 | exact hX.1.1.2.2.2.2.2.2.2.2.2.2) rfl rfl (c_X6_has hX.1 r i 3 (by unfold ctA; have := hX.2.2.2.2.2; omega) ?_)
  refine V_topi _ ((hX.2.2.2.2.1.2.2.2.2.1 i hi).2.2.2.1) ?_
  refine V_iconstv 77 (1) dX6_draws_77 (by decide) ?_
  refine V_iconstv 78 (1) dX6_draws_78 (by decide) ?_
  refine V_iv7 79 dX6_draws_79 kvX6_63 rfl (by first | exact hX.1.1.1 | exact hX.1.1.2.1 | exact hX.1.1.2.2.1 | exact hX.1.1.2.2.2.1 | exact hX.1.1.2.2.2.2.1 | exact hX.1.1.2.2.2.2.2.1 | exact hX.1.1.2.2.2.2.2.2.1 | exact hX.1.1.2.2.2.2.2.2.2.1 | exact hX.1.1.2.2.2.2.2.2.2.2.1 | exact hX.1.1.2.2.2.2.2.2.2.2.2.1 | exact hX.1.1.2.2.2.2.2.2.2.2.2.2) rfl rfl (c_X6_sends hX (by rw [eN_set, eN_set]; exact hc) 6 (by decide) (fun h M1 hX hI => ?_))
  refine V_vret 82 dX6_draws_82 ?_
  rw [drE_eq E (x := fo (nI a)) (mk := drM E (fo (nI a))) (by omega) (by rw [hxa]) rfl] at k
  exact k _ _ hX hI
/-- the letter in hand: what the reference has of it -/
def HD (M : MT) (E : ET) : Prop := M.1 5 = eH E 1 ∧ M.1 6 = eH E 2 ∧ M.1 7 = eH E 3 ∧ M.1 8 = eH E 4 ∧ M.1 9 = eH E 5
set_option maxHeartbeats 1000000 in
set_option maxRecDepth 100000 in
theorem c_X6_goesOn (hX : WX G h0 h m M0 M r E Q) (hH : HD M E) (hc : eN E < 12) (κ : Nat) (hκ : 1 ≤ κ ∧ κ ≤ 7) (hk5 : eH E 1 = nI κ) {ln : Int32} (hln : M.1 10 = ln) (k : ∀ h M1, WX G h0 h m M0 M1 r (dl4 E ln) Q → M1.1 = M.1 → Post none h sz) : Cn l G yX6_goesOn cX6_goesOn 2 none 2 0 0 [.ref m, .int (nI r)] h sz Post := by
  refine Cn.of RX6 false (by decide) rfl (fun q => by cases q) (Nat.le_of_ble_eq_true rfl) ?_
  have hn := hX.2.2.2.2.2.2
  have hr := hX.2.2.2.2.2.1
  refine V_aload_n 0 dX6_goesOn_0 rfl ?_
  refine V_iload_n 1 dX6_goesOn_1 rfl ?_
  refine V_aload_n 2 dX6_goesOn_2 rfl ?_
  refine V_get 3 dX6_goesOn_3 fdX6_82 (by first | exact hX.1.1.1 | exact hX.1.1.2.1 | exact hX.1.1.2.2.1 | exact hX.1.1.2.2.2.1 | exact hX.1.1.2.2.2.2.1 | exact hX.1.1.2.2.2.2.2.1 | exact hX.1.1.2.2.2.2.2.2.1 | exact hX.1.1.2.2.2.2.2.2.2.1 | exact hX.1.1.2.2.2.2.2.2.2.2.1 | exact hX.1.1.2.2.2.2.2.2.2.2.2.1 | exact hX.1.1.2.2.2.2.2.2.2.2.2.2) rfl ?_
  refine V_topi ln hln ?_
  refine V_aload_n 6 dX6_goesOn_6 rfl ?_
  refine V_get 7 dX6_goesOn_7 fdX6_85 (by first | exact hX.1.1.1 | exact hX.1.1.2.1 | exact hX.1.1.2.2.1 | exact hX.1.1.2.2.2.1 | exact hX.1.1.2.2.2.2.1 | exact hX.1.1.2.2.2.2.2.1 | exact hX.1.1.2.2.2.2.2.2.1 | exact hX.1.1.2.2.2.2.2.2.2.1 | exact hX.1.1.2.2.2.2.2.2.2.2.1 | exact hX.1.1.2.2.2.2.2.2.2.2.2.1 | exact hX.1.1.2.2.2.2.2.2.2.2.2.2) rfl ?_
  refine V_topi (nI κ) (hH.1.trans hk5) ?_
  refine V_aload_n 10 dX6_goesOn_10 rfl ?_
  refine V_get 11 dX6_goesOn_11 fdX6_88 (by first | exact hX.1.1.1 | exact hX.1.1.2.1 | exact hX.1.1.2.2.1 | exact hX.1.1.2.2.2.1 | exact hX.1.1.2.2.2.2.1 | exact hX.1.1.2.2.2.2.2.1 | exact hX.1.1.2.2.2.2.2.2.1 | exact hX.1.1.2.2.2.2.2.2.2.1 | exact hX.1.1.2.2.2.2.2.2.2.2.1 | exact hX.1.1.2.2.2.2.2.2.2.2.2.1 | exact hX.1.1.2.2.2.2.2.2.2.2.2.2) rfl ?_
  refine V_topi _ hH.2.1 ?_
  refine V_aload_n 14 dX6_goesOn_14 rfl ?_
  refine V_get 15 dX6_goesOn_15 fdX6_91 (by first | exact hX.1.1.1 | exact hX.1.1.2.1 | exact hX.1.1.2.2.1 | exact hX.1.1.2.2.2.1 | exact hX.1.1.2.2.2.2.1 | exact hX.1.1.2.2.2.2.2.1 | exact hX.1.1.2.2.2.2.2.2.1 | exact hX.1.1.2.2.2.2.2.2.2.1 | exact hX.1.1.2.2.2.2.2.2.2.2.1 | exact hX.1.1.2.2.2.2.2.2.2.2.2.1 | exact hX.1.1.2.2.2.2.2.2.2.2.2.2) rfl ?_
  refine V_topi _ hH.2.2.1 ?_
  refine V_aload_n 18 dX6_goesOn_18 rfl ?_
  refine V_get 19 dX6_goesOn_19 fdX6_94 (by first | exact hX.1.1.1 | exact hX.1.1.2.1 | exact hX.1.1.2.2.1 | exact hX.1.1.2.2.2.1 | exact hX.1.1.2.2.2.2.1 | exact hX.1.1.2.2.2.2.2.1 | exact hX.1.1.2.2.2.2.2.2.1 | exact hX.1.1.2.2.2.2.2.2.2.1 | exact hX.1.1.2.2.2.2.2.2.2.2.1 | exact hX.1.1.2.2.2.2.2.2.2.2.2.1 | exact hX.1.1.2.2.2.2.2.2.2.2.2.2) rfl ?_
  refine V_topi _ hH.2.2.2.1 ?_
  refine V_aload_n 22 dX6_goesOn_22 rfl ?_
  refine V_get 23 dX6_goesOn_23 fdX6_97 (by first | exact hX.1.1.1 | exact hX.1.1.2.1 | exact hX.1.1.2.2.1 | exact hX.1.1.2.2.2.1 | exact hX.1.1.2.2.2.2.1 | exact hX.1.1.2.2.2.2.2.1 | exact hX.1.1.2.2.2.2.2.2.1 | exact hX.1.1.2.2.2.2.2.2.2.1 | exact hX.1.1.2.2.2.2.2.2.2.2.1 | exact hX.1.1.2.2.2.2.2.2.2.2.2.1 | exact hX.1.1.2.2.2.2.2.2.2.2.2.2) rfl ?_
  refine V_topi _ hH.2.2.2.2 ?_
  refine V_iv7 26 dX6_goesOn_26 kvX6_63 rfl (by first | exact hX.1.1.1 | exact hX.1.1.2.1 | exact hX.1.1.2.2.1 | exact hX.1.1.2.2.2.1 | exact hX.1.1.2.2.2.2.1 | exact hX.1.1.2.2.2.2.2.1 | exact hX.1.1.2.2.2.2.2.2.1 | exact hX.1.1.2.2.2.2.2.2.2.1 | exact hX.1.1.2.2.2.2.2.2.2.2.1 | exact hX.1.1.2.2.2.2.2.2.2.2.2.1 | exact hX.1.1.2.2.2.2.2.2.2.2.2.2) rfl rfl (c_X6_sends hX hc κ hκ (fun h M1 hX hI => ?_))
  refine V_vret 29 dX6_goesOn_29 ?_
  unfold dl4 at k
  rw [hk5] at k
  exact k _ _ hX hI
end M26
