theorem Inv.rs {Q : RG} {B i : Nat} {E : ET} (h : Inv Q B E) (hB : 1 ≤ B) (hi : i < Q.1) (hst : eC E (8 * i) = 0) : Inv Q B (rsE Q E (nI i)) := by
  have h6 := h.1
  have i6 : i < 6 := by omega
  unfold rsE rs1
  have e1 : eC (setE E (nI i) 0 1) = upd (eC E) (8 * i) 1 := eC_set E (c := 0) i6 (by omega) _
  by_cases w2 : eW E = 2
  · have A : PI Q B (2 - coN (eW E) (upd (eC E) (8 * i) 1) i) i (setE E (nI i) 0 1) := (PI.ex i h).set (k := 0) rfl hi (by omega) (by
      have a : coN (eW E) (upd (eC E) (8 * i) 1) i ≤ 1 := by
        unfold coN
        rw [if_pos w2, pk_us, if_neg (show ¬ (1 : Int32) = 0 by decide)]
        split <;> omega
      have b : coN (eW E) (eC E) i = 2 := by
        unfold coN
        rw [if_pos w2, if_pos hst]
      show 2 - coN (eW E) (upd (eC E) (8 * i) 1) i + coN (eW E) (upd (eC E) (8 * i) 1) i ≤ _
      omega) (fun q => absurd q (by decide)) (fun q => absurd q (by decide)) (fun q => absurd q (by decide)) (fun q => absurd rfl q)
    rw [if_neg (by rw [eW_set, w2]; decide), if_pos (by rw [eW_set]; exact w2)]
    have A3 := A.setN 3 (kk := 3) (v := 0) rfl hi (by omega) (by omega) (by omega) (by omega) (fun _ => by rw [eW_set, w2]; decide)
    have e3 : eC (setE (setE E (nI i) 0 1) (nI i) 3 0) = upd (upd (eC E) (8 * i) 1) (8 * i + 3) 0 := by
      rw [show (3 : Int32) = nI 3 from rfl, eC_set _ i6 (by omega), e1]
    refine (A3.sp hi (by rw [eW_set, eW_set]; exact w2) (by rw [e3, pk_un (by omega), pk_us]) ?_).fin (C4.no (by rw [eW_sp Q _ i6, eW_set, eW_set, w2]; decide))
    rw [eW_set, eW_set, e3, coN_eq (C := upd (upd (eC E) (8 * i) 1) (8 * i + 3) 0) (D := upd (eC E) (8 * i) 1) (pk_un (by omega)) (pk_un (by omega))]
    omega
  · have A : PI Q B 1 i (setE E (nI i) 0 1) := (PI.ex i h).set (k := 0) rfl hi (by omega) (by
      have a : coN (eW E) (upd (eC E) (8 * i + 0) 1) i = 0 := by
        unfold coN
        rw [Nat.add_zero, if_neg w2, pk_us, if_neg (show ¬ (1 : Int32) = 0 by decide)]
      have b : coN (eW E) (eC E) i = 1 := by
        unfold coN
        rw [if_neg w2, if_pos hst]
      omega) (fun q => absurd q (by decide)) (fun q => absurd q (by decide)) (fun q => absurd q (by decide)) (fun q => absurd rfl q)
    by_cases w1 : eW E = 1
    · rw [if_pos (by rw [eW_set]; exact w1)]
      exact (A.sr hi (k := 1) (by rw [eW_set]; exact LCk (κ := 1) B _ _ (by omega) (Or.inr (Or.inl ⟨w1, rfl⟩)))).fin (C4.no (by rw [eW_sr, eW_set, w1]; decide))
    · rw [if_neg (by rw [eW_set]; exact w1), if_neg (by rw [eW_set]; exact w2)]
      by_cases w3 : eW E = 3
      · rw [if_pos (by rw [eW_set]; exact w3)]
        have A3 := A.setN 3 (kk := 3) (v := 0) rfl hi (by omega) (by omega) (by omega) (by omega) (fun _ => by rw [eW_set, w3]; decide)
        have A2 := A3.setN 2 (kk := 2) (v := nmR Q (nI i)) rfl hi (by omega) (by omega) (by omega) (by omega)
        exact (A2.sr hi (k := 4) (by rw [eW_set, eW_set, eW_set]; exact LCk (κ := 4) B _ _ (by omega) (Or.inr (Or.inr (Or.inr (Or.inl ⟨w3, Or.inl rfl⟩)))))).fin (C4.no (by rw [eW_sr, eW_set, eW_set, eW_set, w3]; decide))
      · rw [if_neg (by rw [eW_set]; exact w3)]
        have w4 : eW E = 4 := by rcases h.2.1 with q | q | q | q <;> first | exact q | exact absurd q w1 | exact absurd q w2 | exact absurd q w3
        have A3 := A.setN 3 (kk := 3) (v := 1) rfl hi (by omega) (by omega) (by omega) (by omega) (fun _ => by rw [eW_set, w4]; decide)
        have D := A3.dr hi (by rw [eW_set, eW_set]; exact w4) ⟨1, hB, by rw [show (3 : Int32) = nI 3 from rfl, eC_set _ i6 (by omega), pk_us]; rfl⟩
        exact D.1.fin D.2.1
theorem suN_c {f : Nat → Nat} {c : Nat} : ∀ {n : Nat}, (∀ k, k < n → f k = c) → suN f n = n * c
  | 0, _ => by rw [Nat.zero_mul]; rfl
  | n + 1, h => by rw [suN, suN_c (fun k hk => h k (by omega)), h n (by omega), Nat.succ_mul]
theorem iniC_at (Q : RG) (s : Int32) {i j : Nat} (hi : i < 6) (hj : j < 8) : iniC Q s (8 * i + j) = iniV Q s i j := by
  unfold iniC
  rw [if_pos (by omega), show (8 * i + j) / 8 = i by omega, show (8 * i + j) % 8 = j by omega]
theorem sdx_nI {s i : Nat} (hs : s ≤ 999999) (hi : i < 6) : sdx (nI s) i = nI (s * (i + 1) % 2147483647) := by
  have : s * (i + 1) < 2 ^ 31 := Nat.lt_of_le_of_lt (Nat.mul_le_mul hs (show i + 1 ≤ 6 by omega)) (by decide)
  unfold sdx
  rw [nI_l (by omega), nI_l (by omega), lN_mul, show (2147483647 : Int64) = lN 2147483647 from rfl, pk_lRem (Nat.lt_trans this (by decide)) (by decide) (by decide), lN_i]
/-- nothing is begun -/
def IN0 (Q : RG) (E : ET) : Prop := eN E = 0 ∧ ∀ i, i < Q.1 → eC E (8 * i) = 0 ∧ eC E (8 * i + 5) = 0
theorem IN0.start {Q : RG} (hn : Q.1 ≤ 6) (E : ET) (a b c : Int32) : IN0 Q (startE Q E a b c) := ⟨rfl, fun i hi => ⟨iniC_at Q c (j := 0) (by omega) (by omega), iniC_at Q c (j := 5) (by omega) (by omega)⟩⟩
theorem Inv.start {Q : RG} (hn : 2 ≤ Q.1 ∧ Q.1 ≤ 6) (hs : ∀ i, i < Q.1 → ∃ s, s < 2 ∧ Q.2.2 i = nI s) (E : ET) {a b s : Nat} (ha : 1 ≤ a ∧ a ≤ 4) (hb : 1 ≤ b ∧ b ≤ 9) (hc : s ≤ 999999) (B : Nat) : Inv Q B (startE Q E (nI a) (nI b) (nI s)) := by
  have g : ∀ i j, i < Q.1 → j < 8 → eC (startE Q E (nI a) (nI b) (nI s)) (8 * i + j) = iniV Q (nI s) i j := fun i j h1 h2 => iniC_at Q _ (by omega) h2
  refine ⟨hn, ?_, fun _ => ⟨b, hb.1, hb.2, rfl⟩, fun k hk => absurd hk (Nat.not_lt_zero k), fun i hi => ⟨?_, fun _ _ => ?_, fun _ => ?_, fun _ => g i 3 hi (by omega)⟩, fun i hi _ _ q => ?_, ?_⟩
  · show nI a = 1 ∨ nI a = 2 ∨ nI a = 3 ∨ nI a = 4
    rcases (show a = 1 ∨ a = 2 ∨ a = 3 ∨ a = 4 by omega) with q | q | q | q <;> subst q <;> decide
  · rw [g i 1 hi (by omega)]
    exact hs i hi
  · rw [g i 5 hi (by omega)]
    rfl
  · rw [g i 7 hi (by omega)]
    exact ⟨_, by have := Nat.mod_lt (s * (i + 1)) (show 0 < 2147483647 by decide); omega, sdx_nI hc (by omega)⟩
  · rw [show 8 * i = 8 * i + 0 from rfl, g i 0 hi (by omega)] at q
    exact absurd (show (0 : Int32) = 1 from q) (by decide)
  · have z : ∀ i, i < Q.1 → eC (startE Q E (nI a) (nI b) (nI s)) (8 * i) = 0 := fun i hi => g i 0 hi (by omega)
    show 0 + suN (coN (eW (startE Q E (nI a) (nI b) (nI s))) (eC (startE Q E (nI a) (nI b) (nI s)))) Q.1 + 0 ≤ limN Q _
    unfold limN
    by_cases w : eW (startE Q E (nI a) (nI b) (nI s)) = 2
    · rw [if_pos w, suN_c (c := 2) (fun k hk => by unfold coN; rw [if_pos w, if_pos (z k hk)])]
      omega
    · rw [if_neg w, suN_c (c := 1) (fun k hk => by unfold coN; rw [if_neg w, if_pos (z k hk)])]
      omega
theorem RowE.tr {row row1 : Nat → Int32} {r r1 n : Nat} {E : ET} (h : RowE row r n E) (hn : n ≤ 6) (hr : ∀ t, t < 168 → row1 (168 * r1 + t) = row (168 * r + t)) : RowE row1 r1 n E := by
  obtain ⟨h1, h2, h3, h4, h5, h6, h7⟩ := h
  have g : ∀ i w, i < n → w < 10 → row1 (ctA r1 i w) = row (ctA r i w) := fun i w hi hw => by
    have := hr (12 + 10 * i + w) (by omega)
    unfold ctA
    rw [show 168 * r1 + 12 + 10 * i + w = 168 * r1 + (12 + 10 * i + w) by omega, this]
    congr 1
    omega
  refine ⟨by have := hr 0 (by omega); rw [Nat.add_zero, Nat.add_zero] at this; rw [this]; exact h1, fun q => by rw [hr 1 (by omega)]; exact h2 q, by rw [hr 2 (by omega)]; exact h3, fun k hk => ?_, fun i hi => ?_, fun k j hk hj => ?_, h7⟩
  · have := hr (3 + k) (by omega)
    rw [show 168 * r1 + 3 + k = 168 * r1 + (3 + k) by omega, this, ← Nat.add_assoc]
    exact h4 k hk
  · rw [g i 0 hi (by omega), g i 1 hi (by omega), g i 2 hi (by omega), g i 3 hi (by omega), g i 4 hi (by omega), g i 5 hi (by omega), g i 6 hi (by omega), g i 7 hi (by omega), g i 8 hi (by omega)]
    exact h5 i hi
  · have := hr (72 + 6 * k + j) (by omega)
    have e := h6 k j hk hj
    unfold leA at e ⊢
    rw [show 168 * r1 + 72 + 6 * k + j = 168 * r1 + (72 + 6 * k + j) by omega, this, ← e]
    congr 1
    omega
/-- the text -/
def TR (X : TX) (M : MT) : Prop := M.1 14 = nI X.1 ∧ X.1 ≤ 40 ∧ (∀ k, k < X.1 → M.2.2.1 4 k = X.2.1 k ∧ 0 ≤ X.2.1 k ∧ X.2.1 k ≤ 255) ∧ M.1 15 = X.2.2.1
/-- the ring -/
def GR (Q : RG) (M : MT) : Prop := M.1 0 = nI Q.1 ∧ Q.1 ≤ 6 ∧ (Q.1 = 0 ∨ 2 ≤ Q.1) ∧ ∀ i, i < Q.1 → M.2.2.1 1 i = Q.2.1 i ∧ M.2.2.1 2 i = Q.2.2 i ∧ ∃ s, s < 2 ∧ Q.2.2 i = nI s
def kA (nx a : Nat) : Nat := (nx + 19 - a) % 20
/-- the election and what was kept -/
def ER (B : Nat) (Q : RG) (E : ET) (nx hs : Nat) (K : Nat → ET) (M : MT) : Prop := RowE (M.2.2.1 3) 0 Q.1 E ∧ M.1 4 = nI hs ∧ hs ≤ 20 ∧ nx < 20 ∧ (∀ a, a < hs → RowE (M.2.2.1 3) (hs - a) Q.1 (K (kA nx a))) ∧ ((eW E = 0 ∧ IN0 Q E ∧ hs = 0) ∨ (Inv Q B E ∧ ∀ a, a < hs → Inv Q B (K (kA nx a))))
def REL (B : Nat) (X : TX) (Q : RG) (E : ET) (nx hs : Nat) (K : Nat → ET) (M : MT) : Prop := TR X M ∧ GR Q M ∧ ER B Q E nx hs K M
theorem TR.of {X : TX} {M M1 : MT} (h : TR X M) (h1 : M1.1 14 = M.1 14) (h2 : M1.1 15 = M.1 15) (h3 : M1.2.2.1 4 = M.2.2.1 4) : TR X M1 := by
  unfold TR
  rw [h1, h2, h3]
  exact h
theorem GR.of {Q : RG} {M M1 : MT} (h : GR Q M) (h1 : M1.1 0 = M.1 0) (h2 : M1.2.2.1 1 = M.2.2.1 1) (h3 : M1.2.2.1 2 = M.2.2.1 2) : GR Q M1 := by
  unfold GR
  rw [h1, h2, h3]
  exact h
theorem ER.of {B : Nat} {Q : RG} {E : ET} {nx hs : Nat} {K : Nat → ET} {M M1 : MT} (h : ER B Q E nx hs K M) (hn : Q.1 ≤ 6) (h1 : M1.1 4 = M.1 4) (h2 : ∀ q, q < 168 * 21 → M1.2.2.1 3 q = M.2.2.1 3 q) : ER B Q E nx hs K M1 := by
  obtain ⟨a, b, c, d, e, f⟩ := h
  exact ⟨a.tr hn (fun t ht => h2 _ (by omega)), h1.trans b, c, d, fun j hj => (e j hj).tr hn (fun t ht => h2 _ (by omega)), f⟩
theorem ER.mono {B B1 : Nat} (hB : B ≤ B1) {Q : RG} {E : ET} {nx hs : Nat} {K : Nat → ET} {M : MT} (h : ER B Q E nx hs K M) : ER B1 Q E nx hs K M := by
  obtain ⟨a, b, c, d, e, f⟩ := h
  exact ⟨a, b, c, d, e, f.elim Or.inl (fun q => Or.inr ⟨PI.mono hB (Nat.le_refl _) q.1, fun j hj => PI.mono hB (Nat.le_refl _) (q.2 j hj)⟩)⟩
theorem REL.mono {B B1 : Nat} (hB : B ≤ B1) {X : TX} {Q : RG} {E : ET} {nx hs : Nat} {K : Nat → ET} {M : MT} (h : REL B X Q E nx hs K M) : REL B1 X Q E nx hs K M := ⟨h.1, h.2.1, h.2.2.mono hB⟩
/-- work on a segment beyond what is kept -/
theorem REL.far {B r : Nat} (hr : 21 ≤ r) {X : TX} {Q : RG} {E : ET} {nx hs : Nat} {K : Nat → ET} {M M1 : MT} (h : REL B X Q E nx hs K M) (hF : MF r M M1) : REL B X Q E nx hs K M1 := by
  obtain ⟨a, -, c, -, e⟩ := hF
  exact ⟨h.1.of (a _ (by omega)) (a _ (by omega)) (c _ (by omega)), h.2.1.of (a _ (by omega)) (c _ (by omega)) (c _ (by omega)), h.2.2.of h.2.1.2.1 (a _ (by omega)) (fun q hq => e q (by omega))⟩
theorem REL.y {B : Nat} {X : TX} {Q : RG} {E : ET} {nx hs : Nat} {K : Nat → ET} {M : MT} (h : REL B X Q E nx hs K M) (y : Int64) : REL B X Q E nx hs K (mY M y) := h
/-- what notes does -/
def NT (hs : Nat) (M M1 : MT) : Prop := M1.1 4 = nI (kpS hs) ∧ (∀ j, ¬ j = 4 → M1.1 j = M.1 j) ∧ M1.2.1 = M.2.1 ∧ (∀ k, ¬ k = 3 → M1.2.2.1 k = M.2.2.1 k) ∧ M1.2.2.2 = M.2.2.2 ∧ (∀ q, q < 168 ∨ 168 * 21 ≤ q → M1.2.2.1 3 q = M.2.2.1 3 q) ∧ ∀ a t, 1 ≤ a → a ≤ kpS hs → t < 168 → M1.2.2.1 3 (168 * a + t) = if a = kpS hs then M.2.2.1 3 t else M.2.2.1 3 (168 * (if hs = 20 then a + 1 else a) + t)
theorem REL.keep {B : Nat} {X : TX} {Q : RG} {E : ET} {nx hs : Nat} {K : Nat → ET} {M M1 : MT} {f : Nat → Int32} (h : REL B X Q E nx hs K M) (hN : NT hs M M1) (hb : ¬ eW E = 0) : REL B X Q E (kpN nx) (kpS hs) (va_up K nx (eH' E f)) M1 := by
  obtain ⟨n1, n2, n3, n4, n5, n6, n7⟩ := hN
  obtain ⟨t, g, a, b, c, d, e, i⟩ := h
  have hn := g.2.1
  have kn : kpN nx < 20 := by unfold kpN; split <;> omega
  have ks : kpS hs ≤ 20 := by unfold kpS; split <;> omega
  have hi : Inv Q B E ∧ ∀ a, a < hs → Inv Q B (K (kA nx a)) := i.elim (fun q => absurd q.1 hb) id
  have k0 : kA (kpN nx) 0 = nx := by unfold kA kpN; split <;> omega
  have k1 : ∀ z, 1 ≤ z → z < kpS hs → kA (kpN nx) z = kA nx (z - 1) ∧ ¬ kA (kpN nx) z = nx ∧ z - 1 < hs := by
    intro z h1 h2
    unfold kpS at h2
    unfold kA kpN
    split at h2 <;> split <;> omega
  refine ⟨t.of (n2 _ (by omega)) (n2 _ (by omega)) (n4 _ (by omega)), g.of (n2 _ (by omega)) (n4 _ (by omega)) (n4 _ (by omega)), a.tr hn (fun t ht => n6 _ (Or.inl (by omega))), n1, ks, kn, fun z hz => ?_, Or.inr ⟨hi.1, fun z hz => ?_⟩⟩
  · by_cases z0 : z = 0
    · subst z0
      rw [k0, va_up_self]
      have hp : 1 ≤ kpS hs := hz
      exact RowE.tr (r := 0) (E := eH' E f) a hn (fun t ht => by rw [Nat.sub_zero, n7 _ t hp (Nat.le_refl _) ht, if_pos rfl, Nat.mul_zero, Nat.zero_add])
    · obtain ⟨q1, q2, q3⟩ := k1 z (by omega) hz
      rw [va_up_ne _ _ q2, q1]
      refine (e (z - 1) q3).tr hn (fun t ht => ?_)
      rw [n7 _ t (by omega) (by omega) ht, if_neg (by omega)]
      have ee : (if hs = 20 then kpS hs - z + 1 else kpS hs - z) = hs - (z - 1) := by
        unfold kpS at hz ⊢
        split at hz <;> split <;> omega
      rw [ee]
  · by_cases z0 : z = 0
    · subst z0
      rw [k0, va_up_self]
      exact hi.1
    · obtain ⟨q1, q2, q3⟩ := k1 z (by omega) hz
      rw [va_up_ne _ _ q2, q1]
      exact hi.2 _ q3
section M36
variable {l : Launch} {G : zGT} {h h0 : hpT} {sz : Nat} {Post : Option Value → hpT → Nat → Prop} {m r : Nat} {M M0 : MT} {Q : RG} {E : ET}
def shS (f : Nat → Int32) (i : Nat) : Nat → Int32 := fun q => if 168 ≤ q ∧ q < 168 * i then f (q + 168) else f q
theorem shS_step (f : Nat → Int32) {i : Nat} (hi : 1 ≤ i) : cpF (shS f i) (i + 1) i 168 = shS f (i + 1) := by
  funext q
  unfold cpF shS
  by_cases h1 : 168 * i ≤ q ∧ q < 168 * i + 168
  · rw [if_pos h1, if_neg (by omega), if_pos (by omega)]
    congr 1
    omega
  · rw [if_neg h1]
    by_cases h2 : 168 ≤ q ∧ q < 168 * i
    · rw [if_pos h2, if_pos (by omega)]
    · rw [if_neg h2, if_neg (by omega)]
theorem shS_1 (f : Nat → Int32) : shS f 1 = f := by
  funext q
  unfold shS
  rw [if_neg (by omega)]
theorem mJ_self (M : MT) : mJ M 3 (M.2.2.1 3) = M := by
  unfold mJ
  have e2 : va_up M.2.2.1 3 (M.2.2.1 3) = M.2.2.1 := by
    funext q
    by_cases hq : q = 3
    · rw [hq, va_up_self]
    · rw [va_up_ne _ _ hq]
  rw [e2]
theorem NT_lt {c : Nat} (hc : c < 20) : NT c M (mJ (mI M 4 (nI (c + 1))) 3 (cpF (M.2.2.1 3) 0 (c + 1) 168)) := by
  have e : kpS c = c + 1 := if_pos hc
  refine ⟨by rw [e]; rfl, fun j hj => va_up_ne _ _ hj, rfl, fun k hk => va_up_ne _ _ hk, rfl, fun q hq => ?_, fun a t h1 h2 h3 => ?_⟩
  · show cpF (M.2.2.1 3) 0 (c + 1) 168 q = _
    unfold cpF
    rw [if_neg (by omega)]
  · show cpF (M.2.2.1 3) 0 (c + 1) 168 (168 * a + t) = _
    rw [e] at h2 ⊢
    unfold cpF
    by_cases q : a = c + 1
    · rw [if_pos (by omega), if_pos q]
      exact congrArg (M.2.2.1 3) (by omega)
    · rw [if_neg (by omega), if_neg q, if_neg (by omega)]
theorem NT_20 : NT 20 M (mJ (mI (mJ (mI M 4 (nI 19)) 3 (shS (M.2.2.1 3) 20)) 4 (nI (19 + 1))) 3 (cpF (shS (M.2.2.1 3) 20) 0 (19 + 1) 168)) := by
  refine ⟨rfl, fun j hj => (va_up_ne _ _ hj).trans (va_up_ne _ _ hj), rfl, fun k hk => (va_up_ne _ _ hk).trans (va_up_ne _ _ hk), rfl, fun q hq => ?_, fun a t h1 h2 h3 => ?_⟩
  · show cpF (shS (M.2.2.1 3) 20) 0 (19 + 1) 168 q = _
    unfold cpF shS
    rw [if_neg (by omega), if_neg (by omega)]
  · have e : kpS 20 = 20 := rfl
    show cpF (shS (M.2.2.1 3) 20) 0 (19 + 1) 168 (168 * a + t) = _
    rw [e] at h2 ⊢
    unfold cpF shS
    by_cases q : a = 20
    · rw [if_pos (by omega), if_pos q, if_neg (by omega)]
      exact congrArg (M.2.2.1 3) (by omega)
    · rw [if_neg (by omega), if_neg q, if_pos (by omega), if_pos rfl]
      exact congrArg (M.2.2.1 3) (by omega)
set_option maxHeartbeats 1000000 in
set_option maxRecDepth 100000 in
theorem c_X6_notes_t (hM : WM G h0 h m M) (c : Nat) (hc : c < 20) (hu : M.1 4 = nI c) (k : ∀ h, WM G h0 h m (mJ (mI M 4 (nI (c + 1))) 3 (cpF (M.2.2.1 3) 0 (c + 1) 168)) → Post none h sz) {lv : List (Option Value)} (hlv : zget lv 0 = some (.ref m)) : V l G RX6 cX6_notes 2 none false 1 0 0 Post 41 lv [] h sz := by
  refine V_aload_n 41 dX6_notes_41 hlv ?_
  refine V_dupr 42 dX6_notes_42 ?_
  refine V_get 43 dX6_notes_43 fdX6_153 (by first | exact hM.1.1 | exact hM.1.2.1 | exact hM.1.2.2.1 | exact hM.1.2.2.2.1 | exact hM.1.2.2.2.2.1 | exact hM.1.2.2.2.2.2.1 | exact hM.1.2.2.2.2.2.2.1 | exact hM.1.2.2.2.2.2.2.2.1 | exact hM.1.2.2.2.2.2.2.2.2.1 | exact hM.1.2.2.2.2.2.2.2.2.2.1 | exact hM.1.2.2.2.2.2.2.2.2.2.2) rfl ?_
  refine V_topi (nI c) hu ?_
  refine V_iconstv 46 (1) dX6_notes_46 (by decide) ?_
  refine V_iadd 47 dX6_notes_47 ?_
  refine V_topi (nI (c + 1)) (nI_1 c) ?_
  refine V_putM 48 dX6_notes_48 fpX6_153 hM rfl rfl (fun h hM => ?_)
  refine V_aload_n 51 dX6_notes_51 hlv ?_
  refine V_iconstv 52 (0) dX6_notes_52 (by decide) ?_
  refine V_aload_n 53 dX6_notes_53 hlv ?_
  refine V_get 54 dX6_notes_54 fdX6_153 (by first | exact hM.1.1 | exact hM.1.2.1 | exact hM.1.2.2.1 | exact hM.1.2.2.2.1 | exact hM.1.2.2.2.2.1 | exact hM.1.2.2.2.2.2.1 | exact hM.1.2.2.2.2.2.2.1 | exact hM.1.2.2.2.2.2.2.2.1 | exact hM.1.2.2.2.2.2.2.2.2.1 | exact hM.1.2.2.2.2.2.2.2.2.2.1 | exact hM.1.2.2.2.2.2.2.2.2.2.2) rfl ?_
  refine V_topi (nI (c + 1)) rfl ?_
  refine V_iv2 57 dX6_notes_57 kvX6_156 rfl (by first | exact hM.1.1 | exact hM.1.2.1 | exact hM.1.2.2.1 | exact hM.1.2.2.2.1 | exact hM.1.2.2.2.2.1 | exact hM.1.2.2.2.2.2.1 | exact hM.1.2.2.2.2.2.2.1 | exact hM.1.2.2.2.2.2.2.2.1 | exact hM.1.2.2.2.2.2.2.2.2.1 | exact hM.1.2.2.2.2.2.2.2.2.2.1 | exact hM.1.2.2.2.2.2.2.2.2.2.2) rfl rfl (c_X6_copies hM 0 (c + 1) (by omega) (by omega) (by omega) (fun h hM => ?_))
  refine V_vret 60 dX6_notes_60 ?_
  exact k h hM
set_option maxHeartbeats 1000000 in
set_option maxRecDepth 100000 in
theorem lp_X6_notes (hu : M.1 4 = nI 20) (k : ∀ h, WM G h0 h m (mJ (mI (mJ (mI M 4 (nI 19)) 3 (shS (M.2.2.1 3) 20)) 4 (nI (19 + 1))) 3 (cpF (shS (M.2.2.1 3) 20) 0 (19 + 1) 168)) → Post none h sz) : ∀ i, i ≤ 20 → 1 ≤ i → ∀ h, WM G h0 h m (mJ M 3 (shS (M.2.2.1 3) i)) → V l G RX6 cX6_notes 2 none false 1 0 0 Post 11 [some (.ref m), some (.int (nI i))] [] h sz := by
  refine up_ind 20 (fun i hi ih hi1 h hM => ?_)
  refine V_iload_n 11 dX6_notes_11 rfl ?_
  refine V_bipushv 12 (20) dX6_notes_12 (by decide) ?_
  refine V_icmp_ge 14 31 dX6_notes_14 rfl (fun c_14 => ?_) (fun c_14 => ?_)
  · have e1 : i = 20 := Nat.le_antisymm hi ((nI_leI (a := 20) (by decide) (by omega)).mp c_14)
    subst e1
    refine V_aload_n 31 dX6_notes_31 rfl ?_
    refine V_dupr 32 dX6_notes_32 ?_
    refine V_get 33 dX6_notes_33 fdX6_153 (by first | exact hM.1.1 | exact hM.1.2.1 | exact hM.1.2.2.1 | exact hM.1.2.2.2.1 | exact hM.1.2.2.2.2.1 | exact hM.1.2.2.2.2.2.1 | exact hM.1.2.2.2.2.2.2.1 | exact hM.1.2.2.2.2.2.2.2.1 | exact hM.1.2.2.2.2.2.2.2.2.1 | exact hM.1.2.2.2.2.2.2.2.2.2.1 | exact hM.1.2.2.2.2.2.2.2.2.2.2) rfl ?_
    refine V_topi (nI 20) hu ?_
    refine V_iconstv 36 (1) dX6_notes_36 (by decide) ?_
    refine V_isub 37 dX6_notes_37 ?_
    refine V_topi (nI 19) (pk_sub (a := 20) (b := 1) (by omega)) ?_
    refine V_putM 38 dX6_notes_38 fpX6_153 hM rfl rfl (fun h hM => ?_)
    exact c_X6_notes_t hM 19 (by omega) rfl (fun h hM => k h hM) rfl
  · have e1 : i < 20 := Nat.lt_of_not_le (fun q => c_14 (nI_le (a := 20) q (by omega)))
    refine V_aload_n 17 dX6_notes_17 rfl ?_
    refine V_iload_n 18 dX6_notes_18 rfl ?_
    refine V_iconstv 19 (1) dX6_notes_19 (by decide) ?_
    refine V_iadd 20 dX6_notes_20 ?_
    refine V_topi (nI (i + 1)) (nI_1 i) ?_
    refine V_iload_n 21 dX6_notes_21 rfl ?_
    refine V_iv2 22 dX6_notes_22 kvX6_156 rfl (by first | exact hM.1.1 | exact hM.1.2.1 | exact hM.1.2.2.1 | exact hM.1.2.2.2.1 | exact hM.1.2.2.2.2.1 | exact hM.1.2.2.2.2.2.1 | exact hM.1.2.2.2.2.2.2.1 | exact hM.1.2.2.2.2.2.2.2.1 | exact hM.1.2.2.2.2.2.2.2.2.1 | exact hM.1.2.2.2.2.2.2.2.2.2.1 | exact hM.1.2.2.2.2.2.2.2.2.2.2) rfl rfl (c_X6_copies hM (i + 1) i (by omega) (by omega) (by omega) (fun h hM => ?_))
    refine V_iinc 25 (nI (i + 1)) dX6_notes_25 rfl (nI_inc i) rfl rfl ?_
    refine V_goto 28 11 dX6_notes_28 rfl ?_
    refine ih (i + 1) rfl (by omega) (by omega) h ?_
    rw [← shS_step _ hi1]
    rw [← mJ_mJ M (shS (M.2.2.1 3) i)]
    exact hM
set_option maxHeartbeats 1000000 in
set_option maxRecDepth 100000 in
theorem c_X6_notes (hM : WM G h0 h m M) (c : Nat) (hc : c ≤ 20) (hu : M.1 4 = nI c) (k : ∀ h M1, WM G h0 h m M1 → NT c M M1 → Post none h sz) : Cn l G yX6_notes cX6_notes 2 none 1 0 0 [.ref m] h sz Post := by
  refine Cn.of RX6 false (by decide) rfl (fun q => by cases q) (Nat.le_of_ble_eq_true rfl) ?_
  refine V_aload_n 0 dX6_notes_0 rfl ?_
  refine V_get 1 dX6_notes_1 fdX6_153 (by first | exact hM.1.1 | exact hM.1.2.1 | exact hM.1.2.2.1 | exact hM.1.2.2.2.1 | exact hM.1.2.2.2.2.1 | exact hM.1.2.2.2.2.2.1 | exact hM.1.2.2.2.2.2.2.1 | exact hM.1.2.2.2.2.2.2.2.1 | exact hM.1.2.2.2.2.2.2.2.2.1 | exact hM.1.2.2.2.2.2.2.2.2.2.1 | exact hM.1.2.2.2.2.2.2.2.2.2.2) rfl ?_
  refine V_topi (nI c) hu ?_
  refine V_bipushv 4 (20) dX6_notes_4 (by decide) ?_
  refine V_icmp_ne 6 41 dX6_notes_6 rfl (fun c_6 => ?_) (fun c_6 => ?_)
  · have c1 : ¬ c = 20 := fun q => c_6 (by rw [q]; rfl)
    refine c_X6_notes_t hM c (by omega) hu (fun h hM => k h _ hM (NT_lt (by omega))) rfl
  · have c1 : c = 20 := (nI_eq (b := 20) (by omega) (by decide)).mp c_6
    subst c1
    refine V_iconstv 9 (1) dX6_notes_9 (by decide) ?_
    refine V_istore_n 10 dX6_notes_10 rfl rfl ?_
    refine lp_X6_notes hu (fun h hM => k h _ hM NT_20) 1 (by omega) (by omega) h ?_
    rw [shS_1, mJ_self]
    exact hM
end M36
