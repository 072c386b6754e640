/-- which kinds a way has -/
def kdOK (W : Int32) (κ : Nat) : Prop := κ = 7 ∨ (W = 1 ∧ κ = 1) ∨ (W = 2 ∧ (κ = 2 ∨ κ = 3)) ∨ (W = 3 ∧ (κ = 4 ∨ κ = 5)) ∨ (W = 4 ∧ κ = 6)
def LC (W : Int32) (B : Nat) (k nu le : Int32) : Prop := ∃ κ, (1 ≤ κ ∧ κ ≤ 7) ∧ k = nI κ ∧ kdOK W κ ∧ (κ = 6 → (∃ b, b < 2 ^ 30 ∧ nu = nI b) ∧ ∃ q, q ≤ B ∧ le = nI q)
def coN (W : Int32) (C : Nat → Int32) (i : Nat) : Nat := if W = 2 then (if C (8 * i) = 0 then 2 else if C (8 * i) = 1 ∧ C (8 * i + 5) = 1 then 1 else 0) else (if C (8 * i) = 0 then 1 else 0)
def suN (f : Nat → Nat) : Nat → Nat
  | 0 => 0
  | n + 1 => suN f n + f n
def CO (E : ET) (i : Nat) : Prop := (∃ s, s < 2 ∧ eC E (8 * i + 1) = nI s) ∧ (¬ eW E = 2 → ¬ eW E = 3 → eC E (8 * i + 5) = 0) ∧ (eW E = 4 → ∃ a, a < 2 ^ 31 ∧ eC E (8 * i + 7) = nI a) ∧ (eW E = 1 → eC E (8 * i + 3) = -1)
def C4 (E : ET) (B i : Nat) : Prop := eW E = 4 → eC E (8 * i) = 1 → (∃ p, p ≤ B ∧ eC E (8 * i + 3) = nI p) ∧ ∃ a, a < 2 ^ 30 ∧ eC E (8 * i + 2) = nI a
def limN (Q : RG) (E : ET) : Nat := if eW E = 2 then 2 * Q.1 else Q.1
/-- what holds of an election that is begun, with so many letters to spare, of all contenders but e -/
def PI (Q : RG) (B c e : Nat) (E : ET) : Prop :=
  (2 ≤ Q.1 ∧ Q.1 ≤ 6) ∧ (eW E = 1 ∨ eW E = 2 ∨ eW E = 3 ∨ eW E = 4) ∧ (eW E = 4 → ∃ b, 1 ≤ b ∧ b ≤ 9 ∧ eG E = nI b) ∧
  (∀ k, k < eN E → (∃ j, j < 2 * Q.1 ∧ eL E (6 * k) = nI j) ∧ LC (eW E) B (eL E (6 * k + 1)) (eL E (6 * k + 2)) (eL E (6 * k + 3))) ∧
  (∀ i, i < Q.1 → CO E i) ∧ (∀ i, i < Q.1 → ¬ i = e → C4 E B i) ∧
  eN E + suN (coN (eW E) (eC E)) Q.1 + c ≤ limN Q E
def HO (B : Nat) (E : ET) : Prop := LC (eW E) B (eH E 1) (eH E 2) (eH E 3)
theorem LC.mono {W : Int32} {B B1 : Nat} {k nu le : Int32} (hB : B ≤ B1) (h : LC W B k nu le) : LC W B1 k nu le := by
  obtain ⟨κ, a, b, c, d⟩ := h
  exact ⟨κ, a, b, c, fun q => ⟨(d q).1, (d q).2.elim (fun z hz => ⟨z, by omega, hz.2⟩)⟩⟩
theorem C4.mono {E : ET} {B B1 i : Nat} (hB : B ≤ B1) (h : C4 E B i) : C4 E B1 i := fun a b => ⟨(h a b).1.elim (fun z hz => ⟨z, by omega, hz.2⟩), (h a b).2⟩
theorem suN_cong {f g : Nat → Nat} : ∀ {n : Nat}, (∀ k, k < n → f k = g k) → suN f n = suN g n
  | 0, _ => rfl
  | n + 1, h => by rw [suN, suN, suN_cong (fun k hk => h k (by omega)), h n (by omega)]
theorem suN_ch {f g : Nat → Nat} {i : Nat} : ∀ {n : Nat}, i < n → (∀ k, k < n → ¬ k = i → f k = g k) → suN f n + g i = suN g n + f i
  | 0, h, _ => absurd h (Nat.not_lt_zero i)
  | n + 1, h, hk => by
    rw [suN, suN]
    by_cases e : i = n
    · subst e
      rw [suN_cong (f := f) (g := g) (fun k hk2 => hk k (by omega) (by omega))]
      omega
    · have := suN_ch (f := f) (g := g) (i := i) (n := n) (by omega) (fun k h1 h2 => hk k (by omega) h2)
      have := hk n (by omega) (fun q => e q.symm)
      omega
theorem PI.mono {Q : RG} {B B1 c c1 e : Nat} {E : ET} (hB : B ≤ B1) (hc : c1 ≤ c) (h : PI Q B c e E) : PI Q B1 c1 e E := by
  obtain ⟨h1, h2, h3, h4, h5, h6, h7⟩ := h
  exact ⟨h1, h2, h3, fun k hk => ⟨(h4 k hk).1, (h4 k hk).2.mono hB⟩, h5, fun i hi he => (h6 i hi he).mono hB, by omega⟩
theorem PI.ex {Q : RG} {B c : Nat} {E : ET} (e : Nat) (h : PI Q B c Q.1 E) : PI Q B c e E := by
  obtain ⟨h1, h2, h3, h4, h5, h6, h7⟩ := h
  exact ⟨h1, h2, h3, h4, h5, fun i hi _ => h6 i hi (by omega), h7⟩
theorem PI.fin {Q : RG} {B c i : Nat} {E : ET} (h : PI Q B c i E) (hc : C4 E B i) : PI Q B c Q.1 E := by
  obtain ⟨h1, h2, h3, h4, h5, h6, h7⟩ := h
  refine ⟨h1, h2, h3, h4, h5, fun j hj _ => ?_, h7⟩
  by_cases q : j = i
  · rw [q]; exact hc
  · exact h6 j hj q
theorem PI.set {Q : RG} {B c c1 e : Nat} {E : ET} (h : PI Q B c e E) {i k : Nat} {kk v : Int32} (hk : kk = nI k) (hi : i < Q.1) (h8 : k < 8) (hc : c1 + coN (eW E) (upd (eC E) (8 * i + k) v) i ≤ c + coN (eW E) (eC E) i) (hs : k = 1 → ∃ s, s < 2 ∧ v = nI s) (ht : k = 5 → eW E = 2 ∨ eW E = 3) (hx : k = 7 → ∃ a, a < 2 ^ 31 ∧ v = nI a) (h4 : ¬ i = e → C4 E B i → C4 (setE E (nI i) kk v) B i) (hp : k = 3 → ¬ eW E = 1 := by intro q; exact absurd q (by decide)) : PI Q B c1 e (setE E (nI i) kk v) := by
  obtain ⟨⟨h1, h1'⟩, h2, h3, hl, h5, h6, h7⟩ := h
  have eC1 : eC (setE E (nI i) kk v) = upd (eC E) (8 * i + k) v := by rw [hk]; exact eC_set E (by omega) h8 v
  refine ⟨⟨h1, h1'⟩, by rw [eW_set]; exact h2, by rw [eW_set, eG_set]; exact h3, by rw [eW_set, eN_set, eL_set]; exact hl, fun j hj => ?_, fun j hj he => ?_, ?_⟩
  · obtain ⟨a, b, d, f⟩ := h5 j hj
    unfold CO
    rw [eC1, eW_set]
    refine ⟨?_, fun w2 w3 => ?_, fun w4 => ?_, fun w1 => ?_⟩
    · rw [upd_if]
      by_cases q : 8 * j + 1 = 8 * i + k
      · rw [if_pos q]; exact hs (by omega)
      · rw [if_neg q]; exact a
    · rw [upd_if]
      by_cases q : 8 * j + 5 = 8 * i + k
      · exact ((ht (by omega)).elim w2 w3).elim
      · rw [if_neg q]; exact b w2 w3
    · rw [upd_if]
      by_cases q : 8 * j + 7 = 8 * i + k
      · rw [if_pos q]; exact hx (by omega)
      · rw [if_neg q]; exact d w4
    · rw [upd_if]
      by_cases q : 8 * j + 3 = 8 * i + k
      · exact absurd w1 (hp (by omega))
      · rw [if_neg q]; exact f w1
  · by_cases q : j = i
    · rw [q]; exact h4 (fun z => he (q.trans z)) (h6 i hi (fun z => he (q.trans z)))
    · have := h6 j hj he
      unfold C4 at this ⊢
      rw [eC1, eW_set, pk_un (by omega), pk_un (by omega), pk_un (by omega)]
      exact this
  · unfold limN at h7 ⊢
    rw [eW_set, eN_set, eC1]
    have := suN_ch (f := coN (eW E) (upd (eC E) (8 * i + k) v)) (g := coN (eW E) (eC E)) (i := i) (n := Q.1) hi (fun j hj q => by
      unfold coN
      rw [pk_un (by omega), pk_un (by omega)])
    omega
theorem coN_eq {W : Int32} {C D : Nat → Int32} {i : Nat} (h0 : C (8 * i) = D (8 * i)) (h5 : C (8 * i + 5) = D (8 * i + 5)) : coN W C i = coN W D i := by
  unfold coN
  rw [h0, h5]
theorem PI.setN {Q : RG} {B c i : Nat} {E : ET} (h : PI Q B c i E) (k : Nat) {kk v : Int32} (hk : kk = nI k) (hi : i < Q.1) (h8 : k < 7) (h0 : ¬ k = 0) (h1 : ¬ k = 1) (h5 : ¬ k = 5) (hp : k = 3 → ¬ eW E = 1 := by intro q; exact absurd q (by decide)) : PI Q B c i (setE E (nI i) kk v) :=
  h.set hk hi (by omega) (by rw [coN_eq (C := upd (eC E) (8 * i + k) v) (D := eC E) (pk_un (by omega)) (pk_un (by omega))]; exact Nat.le_refl _) (fun q => absurd q h1) (fun q => absurd q h5) (fun q => by omega) (fun q => absurd rfl q) hp
theorem PI.out {Q : RG} {B c i : Nat} {E : ET} (h : PI Q B c i E) {v : Int32} (hi : i < Q.1) (h0 : ¬ v = 0) (h1 : ¬ v = 1) : PI Q B c i (setE E (nI i) 0 v) :=
  h.set (k := 0) rfl hi (by omega) (by
    have e : coN (eW E) (upd (eC E) (8 * i + 0) v) i = 0 := by
      unfold coN
      rw [show 8 * i + 0 = 8 * i from rfl, pk_us]
      by_cases w : eW E = 2
      · rw [if_pos w, if_neg h0, if_neg (fun q => h1 q.1)]
      · rw [if_neg w, if_neg h0]
    rw [e]
    omega) (fun q => absurd q (by decide)) (fun q => absurd q (by decide)) (fun q => absurd q (by decide)) (fun q => absurd rfl q)
theorem sndE_on {E : ET} (hc : eN E < 12) {κ : Nat} (hκ : 1 ≤ κ ∧ κ ≤ 7) (ln nu le se al : Int32) : eN (sndE E ln (nI κ) nu le se al) = eN E + 1 ∧ eL (sndE E ln (nI κ) nu le se al) = upd (upd (upd (upd (upd (upd (eL E) (6 * eN E) ln) (6 * eN E + 1) (nI κ)) (6 * eN E + 2) nu) (6 * eN E + 3) le) (6 * eN E + 4) se) (6 * eN E + 5) al := by
  have hkd : eN E < 12 ∧ 1 ≤ nI κ ∧ nI κ ≤ 7 := ⟨hc, nI_le (a := 1) hκ.1 (by omega), nI_le (b := 7) hκ.2 (by decide)⟩
  unfold sndE
  rw [if_pos hkd]
  exact ⟨rfl, rfl⟩
theorem PI.lim {Q : RG} {B c e : Nat} {E : ET} (h : PI Q B c e E) : eN E + c ≤ 12 := by
  obtain ⟨⟨h1, h1'⟩, h2, h3, hl, h5, h6, h7⟩ := h
  unfold limN at h7
  split at h7 <;> omega
theorem PI.snd {Q : RG} {B c e : Nat} {E : ET} (h : PI Q B (c + 1) e E) {ln kd nu le se al : Int32} (hj : ∃ j, j < 2 * Q.1 ∧ ln = nI j) (hL : LC (eW E) B kd nu le) : PI Q B c e (sndE E ln kd nu le se al) := by
  have hc := h.lim
  obtain ⟨κ, hκ, hk, -⟩ := id hL
  subst hk
  obtain ⟨eN1, eL1⟩ := sndE_on (E := E) (by omega) hκ ln nu le se al
  obtain ⟨⟨h1, h1'⟩, h2, h3, hl, h5, h6, h7⟩ := h
  refine ⟨⟨h1, h1'⟩, by rw [eW_snd]; exact h2, by rw [eW_snd, eG_snd]; exact h3, fun k hk => ?_, fun i hi => ?_, fun i hi he => ?_, ?_⟩
  · rw [eW_snd, eL1]
    rw [eN1] at hk
    by_cases q : k = eN E
    · subst q
      rw [pk_un (by omega), pk_un (by omega), pk_un (by omega), pk_un (by omega), pk_un (by omega), pk_us, pk_un (by omega), pk_un (by omega), pk_un (by omega), pk_un (by omega), pk_us, pk_un (by omega), pk_un (by omega), pk_un (by omega), pk_us, pk_un (by omega), pk_un (by omega), pk_us]
      exact ⟨hj, hL⟩
    · rw [pk_un (by omega), pk_un (by omega), pk_un (by omega), pk_un (by omega), pk_un (by omega), pk_un (by omega), pk_un (by omega), pk_un (by omega), pk_un (by omega), pk_un (by omega), pk_un (by omega), pk_un (by omega), pk_un (by omega), pk_un (by omega), pk_un (by omega), pk_un (by omega), pk_un (by omega), pk_un (by omega), pk_un (by omega), pk_un (by omega), pk_un (by omega), pk_un (by omega), pk_un (by omega), pk_un (by omega)]
      exact hl k (by omega)
  · unfold CO
    rw [eW_snd, eC_snd]
    exact h5 i hi
  · unfold C4
    rw [eW_snd, eC_snd]
    exact h6 i hi he
  · unfold limN at h7 ⊢
    rw [eW_snd, eC_snd, eN1]
    omega
theorem two_s {i s n : Nat} (hi : i < n) (hs : s < 2) : ∃ j, j < 2 * n ∧ 2 * nI i + nI s = nI j := ⟨2 * i + s, by omega, by rw [i32_2, nI_add]⟩
theorem PI.right {Q : RG} {B c e i : Nat} {E : ET} (h : PI Q B c e E) (hi : i < Q.1) : ∃ j, j < 2 * Q.1 ∧ 2 * nI i + eC E (8 * i + 1) = nI j := by
  obtain ⟨s, h1, h2⟩ := (h.2.2.2.2.1 i hi).1
  rw [h2]
  exact two_s hi h1
theorem LC7 (W : Int32) (B : Nat) (nu le : Int32) : LC W B 7 nu le := ⟨7, by omega, rfl, Or.inl rfl, fun q => absurd q (by decide)⟩
theorem LCk {W : Int32} (B : Nat) (nu le : Int32) {κ : Nat} (h1 : 1 ≤ κ ∧ κ ≤ 5) (h : kdOK W κ) : LC W B (nI κ) nu le := ⟨κ, by omega, rfl, h, fun q => absurd q (by omega)⟩
theorem PI.bh {Q : RG} {B c i : Nat} {E : ET} (h : PI Q B (c + 1) i E) (hi : i < Q.1) (v : Int32) : PI Q B c i (bhE E (nI i) v) := by
  rw [bhE_eq E (by have := h.1; omega)]
  have a := ((h.out hi (v := 3) (by decide) (by decide)).setN 4 (kk := 4) (v := v) rfl hi (by omega) (by omega) (by omega) (by omega))
  exact a.snd (a.right hi) (LC7 _ _ _ _)
theorem eC_bh {E : ET} {i : Nat} (hi : i < 6) (v : Int32) : eC (bhE E (nI i) v) (8 * i) = 3 := by
  rw [bhE_eq E hi, eC_snd, show (4 : Int32) = nI 4 from rfl, eC_set _ hi (by omega), pk_un (by omega), show (0 : Int32) = nI 0 from rfl, eC_set _ hi (by omega)]
  exact pk_us
theorem eW_bh (E : ET) {i : Nat} (hi : i < 6) (v : Int32) : eW (bhE E (nI i) v) = eW E := by rw [bhE_eq E hi, eW_snd, eW_set, eW_set]
theorem eH_bh (E : ET) {i : Nat} (hi : i < 6) (v : Int32) : eH (bhE E (nI i) v) = eH E := by rw [bhE_eq E hi, eH_snd, eH_set, eH_set]
theorem PI.sr {Q : RG} {B c i : Nat} {E : ET} (h : PI Q B (c + 1) i E) (hi : i < Q.1) {k v : Int32} (hL : LC (eW E) B k v (-1)) : PI Q B c i (srE E (nI i) k v) := by
  rw [srE_eq E (by have := h.1; omega)]
  exact h.snd (h.right hi) hL
theorem eW_sr (E : ET) (w k v : Int32) : eW (srE E w k v) = eW E := eW_snd _ _ _ _ _ _ _
theorem eH_sr (E : ET) (w k v : Int32) : eH (srE E w k v) = eH E := eH_snd _ _ _ _ _ _ _
theorem PI.sp {Q : RG} {B c i : Nat} {E : ET} (h : PI Q B c i E) (hi : i < Q.1) (hw : eW E = 2) (hst : eC E (8 * i) = 1) (hc : 2 ≤ c + coN (eW E) (eC E) i) : PI Q B 0 i (spE Q E (nI i)) := by
  have h6 := h.1
  rw [spE_eq Q E (by omega)]
  have a : PI Q B 2 i (setE E (nI i) 5 0) := h.set (k := 5) rfl hi (by omega) (by
    have e : coN (eW E) (upd (eC E) (8 * i + 5) 0) i = 0 := by
      unfold coN
      rw [if_pos hw, pk_un (by omega), hst, pk_us, if_neg (by decide), if_neg (fun q => absurd q.2 (by decide))]
    rw [e]
    omega) (fun q => absurd q (by decide)) (fun _ => Or.inl hw) (fun q => absurd q (by decide)) (fun q => absurd rfl q)
  have l2 : LC (eW (setE E (nI i) 5 0)) B 2 (Q.2.1 i) (eC E (8 * i + 3)) := by
    rw [eW_set]
    exact LCk (κ := 2) B _ _ (by omega) (Or.inr (Or.inr (Or.inl ⟨hw, Or.inl rfl⟩)))
  have b := a.snd (ln := 2 * nI i) (se := 1 <<< (eC E (8 * i + 3) &&& 31)) (al := -1) ⟨2 * i, by omega, i32_2 i⟩ l2
  exact b.snd (ln := 2 * nI i + 1) ⟨2 * i + 1, by omega, by rw [i32_2, nI_1]⟩ (by rw [eW_snd]; exact l2)
theorem eW_sp (Q : RG) (E : ET) {i : Nat} (hi : i < 6) : eW (spE Q E (nI i)) = eW E := by rw [spE_eq Q E hi, eW_snd, eW_snd, eW_set]
theorem eH_sp (Q : RG) (E : ET) {i : Nat} (hi : i < 6) : eH (spE Q E (nI i)) = eH E := by rw [spE_eq Q E hi, eH_snd, eH_snd, eH_set]
theorem drM_nI {E : ET} {a b : Nat} (ha : a < 2 ^ 31) (hb : 1 ≤ b) (hb9 : b ≤ 9) (hG : eG E = nI b) : drM E (nI a) = nI (1 + a % b) := by
  unfold drM
  rw [hG, if_neg (nI_nle hb (by omega)), pk_rem (by omega) (by omega) (by omega)]
  exact nI_add 1 _
theorem PI.dr {Q : RG} {B c i : Nat} {E : ET} (h : PI Q B (c + 1) i E) (hi : i < Q.1) (hw : eW E = 4) (hp : ∃ p, p ≤ B ∧ eC E (8 * i + 3) = nI p) : PI Q B c i (drE E (nI i)) ∧ C4 (drE E (nI i)) B i ∧ eW (drE E (nI i)) = eW E ∧ eH (drE E (nI i)) = eH E := by
  have h6 := h.1
  have i6 : i < 6 := by omega
  obtain ⟨a, ha, hx⟩ := (h.2.2.2.2.1 i hi).2.2.1 hw
  obtain ⟨b, hb, hb9, hG⟩ := h.2.2.1 hw
  obtain ⟨p, hpB, hp3⟩ := hp
  have ex : fo (eC E (8 * i + 7)) = nI (a * 16807 % 2147483647) := by rw [hx]; exact fo_nI2 ha
  have em : drM E (nI (a * 16807 % 2147483647)) = nI (1 + a * 16807 % 2147483647 % b) := drM_nI (by omega) hb hb9 hG
  rw [drE_eq E i6 ex.symm em.symm]
  have e1 : eC (setE E (nI i) 7 (nI (a * 16807 % 2147483647))) = upd (eC E) (8 * i + 7) (nI (a * 16807 % 2147483647)) := eC_set E (c := 7) i6 (by omega) _
  have e2 : eC (setE (setE E (nI i) 7 (nI (a * 16807 % 2147483647))) (nI i) 2 (nI (1 + a * 16807 % 2147483647 % b))) = upd (upd (eC E) (8 * i + 7) (nI (a * 16807 % 2147483647))) (8 * i + 2) (nI (1 + a * 16807 % 2147483647 % b)) := by
    rw [show (2 : Int32) = nI 2 from rfl, eC_set _ i6 (by omega), e1]
  have A : PI Q B (c + 1) i (setE E (nI i) 7 (nI (a * 16807 % 2147483647))) := h.set (k := 7) rfl hi (by omega) (by rw [coN_eq (C := upd (eC E) (8 * i + 7) _) (D := eC E) (pk_un (by omega)) (pk_un (by omega))]; exact Nat.le_refl _) (fun q => absurd q (by decide)) (fun q => absurd q (by decide)) (fun _ => ⟨_, by omega, rfl⟩) (fun q => absurd rfl q)
  have A2 : PI Q B (c + 1) i (setE (setE E (nI i) 7 (nI (a * 16807 % 2147483647))) (nI i) 2 (nI (1 + a * 16807 % 2147483647 % b))) := A.setN 2 rfl hi (by omega) (by omega) (by omega) (by omega)
  have hm : a * 16807 % 2147483647 % b < 9 := Nat.lt_of_lt_of_le (Nat.mod_lt _ hb) hb9
  have v2 : eC (setE (setE E (nI i) 7 (nI (a * 16807 % 2147483647))) (nI i) 2 (nI (1 + a * 16807 % 2147483647 % b))) (8 * i + 2) = nI (1 + a * 16807 % 2147483647 % b) := by rw [e2]; exact pk_us
  have v3 : eC (setE (setE E (nI i) 7 (nI (a * 16807 % 2147483647))) (nI i) 2 (nI (1 + a * 16807 % 2147483647 % b))) (8 * i + 3) = nI p := by rw [e2, pk_un (by omega), pk_un (by omega)]; exact hp3
  refine ⟨A2.snd (A2.right hi) ?_, fun _ _ => ?_, by rw [eW_snd, eW_set, eW_set], by rw [eH_snd, eH_set, eH_set]⟩
  · rw [eW_set, eW_set, v2, v3]
    exact ⟨6, by omega, rfl, Or.inr (Or.inr (Or.inr (Or.inr ⟨hw, rfl⟩))), fun _ => ⟨⟨_, by omega, rfl⟩, ⟨p, hpB, rfl⟩⟩⟩
  · rw [eC_snd, v2, v3]
    exact ⟨⟨p, hpB, rfl⟩, ⟨_, by omega, rfl⟩⟩
