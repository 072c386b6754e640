theorem wk10 {Q : RG} {B i : Nat} {E : ET} (h : Inv Q B E) (hi : i < Q.1) (h0 : eC E (8 * i) = 0) : eN E ≤ 10 := by
  have s := suN_ge (f := coN (eW E) (eC E)) hi
  obtain ⟨h6, -, -, -, -, -, l⟩ := h
  unfold limN at l
  by_cases w : eW E = 2
  · have e : coN (eW E) (eC E) i = 2 := by unfold coN; rw [if_pos w, if_pos h0]
    rw [if_pos w] at l
    omega
  · rw [if_neg w] at l
    omega
theorem hd4 {Q : RG} {B i : Nat} {E : ET} (h : Inv Q B E) (hi : i < Q.1) (q : eW E = 4) : ∃ a b, a < 2 ^ 31 ∧ eC E (8 * i + 7) = nI a ∧ 1 ≤ b ∧ b ≤ 9 ∧ eG E = nI b := by
  obtain ⟨a, a1, a2⟩ := (h.2.2.2.2.1 i hi).2.2.1 q
  obtain ⟨b, b1, b2, b3⟩ := h.2.2.1 q
  exact ⟨a, b, a1, a2, b1, b2, b3⟩
theorem pl_ex {E : ET} {x i : Int32} (h : ¬ plE E x i = -1) : ∃ p, p < eN E ∧ plE E x i = nI p := by
  unfold plE at h ⊢
  by_cases q : fiN (plB E x i) (eN E) < eN E
  · rw [if_pos q]
    exact ⟨_, q, rfl⟩
  · rw [if_neg q] at h
    exact absurd rfl h
theorem letR_nI (E : ET) {p j : Nat} (hp : p < 12) (hj : j ≤ 4) : letR E (nI p) (nI j) = eL E (6 * p + (1 + j)) := by
  rcases (show j = 0 ∨ j = 1 ∨ j = 2 ∨ j = 3 ∨ j = 4 by omega) with q | q | q | q | q <;> subst q
  · exact lcE_nI E (k := 1) hp (by omega)
  · exact lcE_nI E (k := 2) hp (by omega)
  · exact lcE_nI E (k := 3) hp (by omega)
  · exact lcE_nI E (k := 4) hp (by omega)
  · exact lcE_nI E (k := 5) hp (by omega)
theorem letR_no (E : ET) (p : Int32) {y : Int32} (h : ¬ (0 ≤ y ∧ y ≤ 4)) : letR E p y = -1000002 := by
  have g : ∀ z : Int32, (0 ≤ z ∧ z ≤ 4) → ¬ y = z := fun z hz q => h (q ▸ hz)
  unfold letR
  rw [if_neg (g 0 (by decide)), if_neg (g 1 (by decide)), if_neg (g 2 (by decide)), if_neg (g 3 (by decide)), if_neg (g 4 (by decide))]
theorem REL.no {B nx hs : Nat} {X : TX} {Q : RG} {E : ET} {K : Nat → ET} {M : MT} (hR : REL B X Q E nx hs K M) (h0 : eW E = 0) (x : Int32) : bsy E x = false := by
  have : eN E = 0 := hR.2.2.2.2.2.2.2.elim (fun q => q.2.1.1) (fun q => by rcases q.1.2.1 with z | z | z | z <;> rw [z] at h0 <;> exact absurd h0 (by decide))
  unfold bsy
  rw [this]
  rfl
theorem eH_go1 (Q : RG) (E : ET) {i : Nat} (hi : i < 6) : eH (goE Q E (nI i)).2 1 = eH E 1 := by
  have bh := fun E => fun v => congrFun (eH_bh E hi v) 1
  have st : ∀ (E : ET) (w k v : Int32), eH (setE E w k v) 1 = eH E 1 := fun E w k v => congrFun (eH_set E w k v) 1
  have sn : ∀ (E : ET) (a b c d e f : Int32), eH (sndE E a b c d e f) 1 = eH E 1 := fun E a b c d e f => congrFun (eH_snd E a b c d e f) 1
  have sr : ∀ (E : ET) (w k v : Int32), eH (srE E w k v) 1 = eH E 1 := fun E w k v => congrFun (eH_sr E w k v) 1
  have h4 : ∀ (E : ET) (v : Int32), eH (eH' E (upd (eH E) 4 v)) 1 = eH E 1 := fun E v => by show upd (eH E) 4 v 1 = _; exact pk_un (by decide)
  have h5 : ∀ (E : ET) (v : Int32), eH (eH' E (upd (eH E) 5 v)) 1 = eH E 1 := fun E v => by show upd (eH E) 5 v 1 = _; exact pk_un (by decide)
  have dr : ∀ (E : ET), eH (drE E (nI i)) 1 = eH E 1 := fun E => by rw [drE_eq E hi rfl rfl, sn, st, st]
  have sp : ∀ (E : ET), eH (spE Q E (nI i)) 1 = eH E 1 := fun E => congrFun (eH_sp Q E hi) 1
  have gp : ∀ (E : ET), eH (gpE Q E (nI i)).2 1 = eH E 1 := fun E => by
    unfold gpE
    split
    · split
      · split
        · exact bh _ _
        · rfl
      · exact st _ _ _ _
    · rfl
  have pg : ∀ (E : ET), eH (pgE E (nI i)).2 1 = eH E 1 := fun E => by
    unfold pgE pg1
    split
    · exact (sn _ _ _ _ _ _ _).trans (h4 _ _)
    · exact h4 _ _
  have mk : eH (mkE E (nI i)).2 1 = eH E 1 := by
    unfold mkE
    split
    · show eH (if celE E (nI i) 5 = 1 then _ else _) 1 = _
      split
      · split
        · unfold tsE
          split
          · exact st _ _ _ _
          · split
            · exact st _ _ _ _
            · unfold ts2
              rw [sr, st, st, st]
        · rfl
      · split
        · unfold tfE
          split
          · exact bh _ _
          · rw [sr, st, st]
        · rfl
    · rfl
  have t2 : ∀ (pa ma : Int32), eH (tg2 E (nI i) pa ma).2 1 = eH E 1 := fun pa ma => by
    unfold tg2
    split
    · exact st _ _ _ _
    · split
      · split
        · rfl
        · exact st _ _ _ _
      · rfl
  unfold goE
  split
  · exact gp _
  · split
    · unfold go2
      split
      · exact gp _
      · exact (pg _).trans (gp _)
    · split
      · unfold ryE
        split
        · split
          · show eH (ry1 Q _ _) 1 = _
            unfold ry1
            split
            · rw [sp, st, st]
            · exact st _ _ _ _
          · rfl
        · rfl
      · split
        · exact mk
        · split
          · exact mk
          · split
            · unfold toE
              split
              · split
                · unfold to1 tcE
                  refine (h4 _ _).trans ?_
                  show eH (if eH E 5 = 1 then _ else _) 1 = _
                  split
                  · exact bh _ _
                  · rw [dr, st]
                · unfold to1
                  refine (h4 _ _).trans ?_
                  unfold tgE tg1
                  split
                  · split
                    · exact h5 _ _
                    · exact t2 _ _
                  · exact t2 _ _
              · split
                · exact h4 _ _
                · exact h4 _ _
            · unfold crE cr2 cr3
              show eH (setE _ _ _ _) 1 = _
              rw [st, st, st]
theorem eH_d2 (Q : RG) (E : ET) {i : Nat} (hi : i < 6) (x : Int32) : eH (dl2 Q E x (nI i)) 1 = eH E 1 := by
  have g := eH_go1 Q E hi
  unfold dl2
  split
  · rfl
  · rw [← g]
    generalize goE Q E (nI i) = Y
    unfold dl3
    split
    · rfl
    · exact congrFun (eH_snd _ _ _ _ _ _ _) 1
theorem dlR_eq {Q : RG} {B j : Nat} {E : ET} (h : Inv Q B E) (hj : j < 2 * Q.1) (hb : bsy E (nI j) = true) : dlR Q E (nI j) = eL E (6 * fiN (onB E (nI j)) (eN E) + 1) := by
  have ri : rcI Q.1 j < Q.1 := rcI_lt (by have := h.1; omega)
  have h6 := h.1
  unfold dlR dlE
  rw [if_pos hb, if_pos hb, rcv_nI h.1.2 hj, ← tk_H E _ 1 (by omega)]
  unfold dl1
  split
  · rw [eH_d2 Q _ (by omega)]
    exact congrFun (eH_set _ _ _ _) 1
  · exact eH_d2 Q _ (by omega) _
theorem inb_ex {w : Int32} {n : Nat} (h : inb w n = true) (hn : n < 1000) : ∃ i, i < n ∧ w = nI i := by
  unfold inb at h
  have a := Bool.and_eq_true_iff.mp h
  have h1 : 0 ≤ w.toInt := of_decide_eq_true a.1
  have h2 : w.toInt < n := of_decide_eq_true a.2
  refine ⟨w.toInt.toNat, by omega, ?_⟩
  apply Int32.toInt_inj.mp
  rw [nI_toInt (by omega)]
  omega
theorem pof {Post : Option Value → hpT → Nat → Prop} {a b : Int32} {h : hpT} {sz : Nat} (k : Post (some (.int a)) h sz) (e : b = a) : Post (some (.int b)) h sz := by rw [e]; exact k
theorem inl {v lo hi : Int32} {lo' hi' : Int64} (h1 : lo' = lo.toInt64) (h2 : hi' = hi.toInt64) : (lo' ≤ v.toInt64 ∧ v.toInt64 ≤ hi') ↔ (lo ≤ v ∧ v ≤ hi) := by
  rw [h1, h2]
  exact lg_in
theorem ord_of {a b : Int32} (h : okOrd a b) : (a = 0 ∨ a = 1 ∨ a = 2 ∨ a = 3) ∧ ∃ s, s ≤ 999999 ∧ b = nI s := by
  obtain ⟨⟨a1, a2⟩, b1, b2⟩ := h
  obtain ⟨j, j1, j2⟩ := nI_of2 (x := a) (M := 3) (n := 3) rfl (Int32.not_lt.mpr a1) a2
  obtain ⟨s, s1, s2⟩ := nI_of2 (x := b) (M := 999999) (n := 999999) rfl (Int32.not_lt.mpr (Int32.le_trans (by decide) b1)) b2
  refine ⟨?_, s, s1, s2⟩
  rw [j2]
  rcases (show j = 0 ∨ j = 1 ∨ j = 2 ∨ j = 3 by omega) with q | q | q | q <;> subst q <;> decide
theorem snE_0 (E : ET) : snE E 0 = eS E 0 := rfl
theorem snE_nI (E : ET) {k : Nat} (hk : k < 8) : snE E (nI k) = eS E k := by
  unfold snE
  rw [if_pos (inb_nI hk (by decide)), nI_clamp (by omega)]
section M37a
variable {B nx hs : Nat} {X : TX} {Q : RG} {E : ET} {K : Nat → ET} {M M1 : MT} {G : zGT} {h h0 : hpT} {m : Nat}
theorem REL.wx (hR : REL B X Q E nx hs K M) (hM : WM G h0 h m M) : WX G h0 h m M M 0 E Q := ⟨hM, MF.rf, hR.2.1.1, fun i hi => (hR.2.1.2.2.2 i hi).1, hR.2.2.1, by omega, hR.2.1.2.1⟩
theorem REL.bg (hR : REL B X Q E nx hs K M) : (0 < M.2.2.1 3 0 ↔ ¬ eW E = 0) ∧ (¬ eW E = 0 → Inv Q B E ∧ ∀ a, a < hs → Inv Q B (K (kA nx a))) := by
  have e : M.2.2.1 3 0 = eW E := hR.2.2.1.1
  have f := hR.2.2.2.2.2.2.2
  refine ⟨?_, fun q => f.elim (fun z => absurd z.1 q) id⟩
  rw [e]
  constructor
  · intro q z
    rw [z] at q
    exact absurd q (by decide)
  · intro q
    rcases f.elim (fun z => absurd z.1 q) (fun z => z.1.2.1) with z | z | z | z <;> rw [z] <;> decide
theorem REL.seg0 {B1 : Nat} {E1 : ET} (hR : REL B X Q E nx hs K M) (hF : MF 0 M M1) (hr : RowE (M1.2.2.1 3) 0 Q.1 E1) (hi : Inv Q B1 E1) (hB : B ≤ B1) (hb : ¬ eW E = 0) : REL B1 X Q E1 nx hs K M1 := by
  have g := hR.bg.2 hb
  obtain ⟨a, -, c, -, e⟩ := hF
  obtain ⟨t, r, x1, x2, x3, x4, x5, x6⟩ := hR
  refine ⟨t.of (a _ (by omega)) (a _ (by omega)) (c _ (by omega)), r.of (a _ (by omega)) (c _ (by omega)) (c _ (by omega)), hr, (a _ (by omega)).trans x2, x3, x4, fun z hz => (x5 z hz).tr r.2.1 (fun t ht => e _ (by omega)), Or.inr ⟨hi, fun z hz => PI.mono hB (Nat.le_refl _) (g.2 z hz)⟩⟩
theorem MF.cp {r a : Nat} : MF r M (mJ M 3 (cpF (M.2.2.1 3) a r 168)) := MF.rf.seg (fun q hq => by unfold cpF; rw [if_neg hq])
theorem RowE.cp {row : Nat → Int32} {a r n : Nat} (h : RowE row a n E) (hn : n ≤ 6) : RowE (cpF row a r 168) r n E := h.tr hn (fun t ht => by
  unfold cpF
  rw [if_pos (by omega)]
  congr 1
  omega)
theorem REL.und (hR : REL B X Q E nx hs K M) (h0 : ¬ hs = 0) {f : Nat → Int32} : REL B X Q (eH' (K (kpL nx)) f) (kpL nx) (hs - 1) K (mI (mJ M 3 (cpF (M.2.2.1 3) hs 0 168)) 4 (nI (hs - 1))) := by
  obtain ⟨t, r, x1, x2, x3, x4, x5, x6⟩ := hR
  have hi : Inv Q B E ∧ ∀ a, a < hs → Inv Q B (K (kA nx a)) := x6.elim (fun q => absurd q.2.2 h0) id
  have e0 : kpL nx = kA nx 0 := by unfold kpL kA; split <;> omega
  have e1 : ∀ a, kA (kpL nx) a = kA nx (a + 1) ∨ 19 ≤ a := by
    intro a
    unfold kpL kA
    split <;> omega
  refine ⟨t, r, ?_, rfl, by omega, by unfold kpL; split <;> omega, fun a ha => ?_, Or.inr ⟨?_, fun a ha => ?_⟩⟩
  · have := x5 0 (by omega)
    rw [e0]
    exact RowE.cp (E := eH' (K (kA nx 0)) f) this r.2.1
  · have := x5 (a + 1) (by omega)
    rw [(e1 a).resolve_right (by omega)]
    refine RowE.tr this r.2.1 (fun t ht => ?_)
    show cpF (M.2.2.1 3) hs 0 168 _ = _
    unfold cpF
    rw [if_neg (by omega)]
    exact congrArg (M.2.2.1 3) (by omega)
  · rw [e0]
    exact hi.2 0 (by omega)
  · rw [(e1 a).resolve_right (by omega)]
    exact hi.2 _ (by omega)
theorem REL.wr (hR : REL B X Q E nx hs K M) {v : Int32} (h40 : X.1 < 40) (hv : 0 ≤ v ∧ v ≤ 255) : REL B (X.1 + 1, upd X.2.1 X.1 v, X.2.2) Q E nx hs K (mI (mJ M 4 (upd (M.2.2.1 4) X.1 v)) 14 (nI (X.1 + 1))) := by
  obtain ⟨⟨t1, t2, t3, t4⟩, r, x⟩ := hR
  refine ⟨⟨rfl, h40, fun k hk => ?_, t4⟩, r, x⟩
  show upd (M.2.2.1 4) X.1 v k = upd X.2.1 X.1 v k ∧ 0 ≤ upd X.2.1 X.1 v k ∧ upd X.2.1 X.1 v k ≤ 255
  have hk' : k < X.1 + 1 := hk
  by_cases q : k = X.1
  · rw [q, pk_us, pk_us]
    exact ⟨rfl, hv⟩
  · rw [pk_un q, pk_un q]
    exact t3 k (by omega)
theorem pl_in (hN : eN E ≤ 12) (x i : Int32) : (0 ≤ i ∧ i ≤ nI (loE E x) - 1) ↔ ¬ plE E x i = -1 := by
  have hl : loE E x ≤ eN E := ctN_le _ _
  constructor
  · rintro ⟨a, b⟩
    obtain ⟨t, t1, t2⟩ := nI_of (Int32.not_lt.mpr a)
    subst t2
    have tl : t < loE E x := by
      by_cases z : loE E x = 0
      · rw [z] at b
        exact absurd b (Int32.not_le.mpr (Int32.lt_of_lt_of_le (by decide) a))
      · rw [show nI (loE E x) - 1 = nI (loE E x - 1) from pk_sub (a := loE E x) (b := 1) (by omega)] at b
        have := (nI_leI t1 (by omega)).mp b
        omega
    obtain ⟨k, k1, k2, k3⟩ := ct_ex (p := onB E x) tl
    unfold plE
    have : fiN (plB E x (nI t)) (eN E) < eN E := by
      by_cases q : fiN (plB E x (nI t)) (eN E) < eN E
      · exact q
      · exact absurd (Bool.and_eq_true_iff.mpr ⟨k2, decide_eq_true (by rw [k3])⟩) (fiN_ge q k k1)
    rw [if_pos this]
    exact nI_ne_m1 (by omega)
  · intro h
    unfold plE at h
    by_cases q : fiN (plB E x i) (eN E) < eN E
    · obtain ⟨p1, -⟩ := fiN_lt q
      have a := Bool.and_eq_true_iff.mp p1
      have e : nI (ctN (onB E x) (fiN (plB E x i) (eN E))) = i := of_decide_eq_true a.2
      have m := ctN_mono (onB E x) (show fiN (plB E x i) (eN E) + 1 ≤ eN E from q)
      rw [ctN_t a.1] at m
      have m' : ctN (onB E x) (fiN (plB E x i) (eN E)) + 1 ≤ loE E x := m
      rw [← e]
      refine ⟨nI_pos' (by omega), ?_⟩
      rw [show nI (loE E x) - 1 = nI (loE E x - 1) from pk_sub (a := loE E x) (b := 1) (by omega)]
      exact nI_le (by omega) (by omega)
    · rw [if_neg q] at h
      exact absurd rfl h
end M37a
def dnN (p : Nat → Bool) (n : Nat) : Nat → Int32
  | 0 => -1
  | k + 1 => if p (n - 1 - k) = true then nI (n - 1 - k) else dnN p n k
theorem dn_no {p : Nat → Bool} {n : Nat} : ∀ k, k ≤ n → (∀ j, n - k ≤ j → j < n → ¬ p j = true) → dnN p n k = -1
  | 0, _, _ => rfl
  | k + 1, hk, h => by
    rw [dnN, if_neg (h _ (by omega) (by omega))]
    exact dn_no k (by omega) (fun j h1 h2 => h j (by omega) h2)
theorem dn_is {p : Nat → Bool} {n j : Nat} (hj : j < n) (hp : p j = true) : ∀ k, k ≤ n → n - k ≤ j → (∀ i, n - k ≤ i → i < j → ¬ p i = true) → dnN p n k = nI j
  | 0, _, h, _ => by omega
  | k + 1, hk, h, hf => by
    rw [dnN]
    by_cases e : n - 1 - k = j
    · rw [e, if_pos hp]
    · rw [if_neg (hf _ (by omega) (by omega))]
      exact dn_is hj hp k (by omega) (by omega) (fun i h1 h2 => hf i (by omega) h2)
theorem dn_fi (p : Nat → Bool) (n : Nat) : dnN p n n = if fiN p n < n then nI (fiN p n) else -1 := by
  by_cases h : fiN p n < n
  · rw [if_pos h]
    exact dn_is h (fiN_lt h).1 n (Nat.le_refl _) (by omega) (fun i _ h2 => (fiN_lt h).2 i h2)
  · rw [if_neg h]
    exact dn_no n (Nat.le_refl _) (fun j _ h2 => fiN_ge h j h2)
section M37
variable {B nx hs : Nat} {X : TX} {K : Nat → ET}
variable {l : Launch} {G : zGT} {h h0 : hpT} {sz : Nat} {Post : Option Value → hpT → Nat → Prop} {m r : Nat} {M M0 : MT} {Q : RG} {E : ET}
theorem c_X6_inI {v lo hi : Int32} {lo' hi' : Int64} (h1 : lo' = lo.toInt64) (h2 : hi' = hi.toInt64) (k1 : (lo ≤ v ∧ v ≤ hi) → Post (some (.int 1)) h sz) (k0 : ¬ (lo ≤ v ∧ v ≤ hi) → Post (some (.int 0)) h sz) : Cn l G yX6_in cX6_in 6 (some .boolean) 0 0 0 [.long v.toInt64, .long lo', .long hi'] h sz Post := c_X6_in (fun q => k1 ((inl h1 h2).mp q)) (fun q => k0 (fun z => q ((inl h1 h2).mpr z)))
theorem c_X6_isBegunR (hM : WM G h0 h m M) (hR : REL B X Q E nx hs K M) (k1 : ¬ eW E = 0 → Post (some (.int 1)) h sz) (k0 : eW E = 0 → Post (some (.int 0)) h sz) : Cn l G yX6_isBegun cX6_isBegun 1 (some .boolean) 0 0 0 [.ref m] h sz Post := c_X6_isBegun hM (fun q => k1 (hR.bg.1.mp q)) (fun q => k0 (Classical.byContradiction (fun z => q (hR.bg.1.mpr z))))
set_option maxHeartbeats 1000000 in
set_option maxRecDepth 100000 in
theorem c_X6_fault (hM : WM G h0 h m M) (hR : REL B X Q E nx hs K M) (k : Post (some (.int X.2.2.1)) h sz) : Cn l G yX6_fault cX6_fault 1 (some .int) 0 0 0 [.ref m] h sz Post := by
  refine Cn.of RX6 false (by decide) rfl (fun q => by cases q) (Nat.le_of_ble_eq_true rfl) ?_
  have hn := hR.2.1.2.1
  refine V_aload_n 0 dX6_fault_0 rfl ?_
  refine V_get 1 dX6_fault_1 fdX6_199 (by first | exact hM.1.1 | exact hM.1.2.1 | exact hM.1.2.2.1 | exact hM.1.2.2.2.1 | exact hM.1.2.2.2.2.1 | exact hM.1.2.2.2.2.2.1 | exact hM.1.2.2.2.2.2.2.1 | exact hM.1.2.2.2.2.2.2.2.1 | exact hM.1.2.2.2.2.2.2.2.2.1 | exact hM.1.2.2.2.2.2.2.2.2.2.1 | exact hM.1.2.2.2.2.2.2.2.2.2.2) rfl ?_
  refine V_topi X.2.2.1 hR.1.2.2.2 ?_
  refine V_iret 4 dX6_fault_4 ?_
  exact k
set_option maxHeartbeats 1000000 in
set_option maxRecDepth 100000 in
theorem c_X6_write (hM : WM G h0 h m M) (hR : REL B X Q E nx hs K M) {v : Int32} (k0 : ¬ (0 ≤ v ∧ v ≤ 255) → Post (some (.int (-1000002))) h sz) (k2 : (0 ≤ v ∧ v ≤ 255) → ¬ X.1 < 40 → Post (some (.int (-1000004))) h sz) (k1 : (0 ≤ v ∧ v ≤ 255) → X.1 < 40 → ∀ h1 M1, WM G h0 h1 m M1 → REL B (X.1 + 1, upd X.2.1 X.1 v, X.2.2) Q E nx hs K M1 → Post (some (.int (nI (X.1 + 1)))) h1 sz) : Cn l G yX6_write cX6_write 2 (some .int) 1 0 0 [.ref m, .int v] h sz Post := by
  refine Cn.of RX6 false (by decide) rfl (fun q => by cases q) (Nat.le_of_ble_eq_true rfl) ?_
  have hn := hR.2.1.2.1
  refine V_iload_n 0 dX6_write_0 rfl ?_
  refine V_i2l 1 dX6_write_1 ?_
  refine V_lconstv 2 0 dX6_write_2 (by decide) ?_
  refine V_ldc2 3 dX6_write_3 knX6_159 ?_
  refine V_is3 6 dX6_write_6 ksX6_45 rfl rfl (c_X6_inI (lo := 0) (hi := 255) rfl rfl (fun c_6 => ?_) (fun c_6 => ?_))
  · refine V_if_ne 9 15 dX6_write_9 rfl (fun _ => ?_) (fun q => absurd q (by decide))
    refine V_aload_n 15 dX6_write_15 rfl ?_
    refine V_get 16 dX6_write_16 fdX6_162 (by first | exact hM.1.1 | exact hM.1.2.1 | exact hM.1.2.2.1 | exact hM.1.2.2.2.1 | exact hM.1.2.2.2.2.1 | exact hM.1.2.2.2.2.2.1 | exact hM.1.2.2.2.2.2.2.1 | exact hM.1.2.2.2.2.2.2.2.1 | exact hM.1.2.2.2.2.2.2.2.2.1 | exact hM.1.2.2.2.2.2.2.2.2.2.1 | exact hM.1.2.2.2.2.2.2.2.2.2.2) rfl ?_
    refine V_topi (nI X.1) hR.1.1 ?_
    refine V_bipushv 19 (40) dX6_write_19 (by decide) ?_
    refine V_icmp_ne 21 27 dX6_write_21 rfl (fun c_21 => ?_) (fun c_21 => ?_)
    · have e1 : X.1 < 40 := Nat.lt_of_le_of_ne hR.1.2.1 (fun q => c_21 (by rw [q]; rfl))
      refine V_aload_n 27 dX6_write_27 rfl ?_
      refine V_get 28 dX6_write_28 fdX6_19 (by first | exact hM.1.1 | exact hM.1.2.1 | exact hM.1.2.2.1 | exact hM.1.2.2.2.1 | exact hM.1.2.2.2.2.1 | exact hM.1.2.2.2.2.2.1 | exact hM.1.2.2.2.2.2.2.1 | exact hM.1.2.2.2.2.2.2.2.1 | exact hM.1.2.2.2.2.2.2.2.2.1 | exact hM.1.2.2.2.2.2.2.2.2.2.1 | exact hM.1.2.2.2.2.2.2.2.2.2.2) rfl ?_
      refine V_aload_n 31 dX6_write_31 rfl ?_
      refine V_get 32 dX6_write_32 fdX6_162 (by first | exact hM.1.1 | exact hM.1.2.1 | exact hM.1.2.2.1 | exact hM.1.2.2.2.1 | exact hM.1.2.2.2.2.1 | exact hM.1.2.2.2.2.2.1 | exact hM.1.2.2.2.2.2.2.1 | exact hM.1.2.2.2.2.2.2.2.1 | exact hM.1.2.2.2.2.2.2.2.2.1 | exact hM.1.2.2.2.2.2.2.2.2.2.1 | exact hM.1.2.2.2.2.2.2.2.2.2.2) rfl ?_
      refine V_topi (nI X.1) hR.1.1 ?_
      refine V_iload_n 35 dX6_write_35 rfl ?_
      refine V_ia4 36 X.1 (nI_clamp (by omega)) dX6_write_36 hM (vp_in_nI e1 (by decide)) (fun h hM => ?_)
      refine V_aload_n 37 dX6_write_37 rfl ?_
      refine V_dupr 38 dX6_write_38 ?_
      refine V_get 39 dX6_write_39 fdX6_162 (by first | exact hM.1.1 | exact hM.1.2.1 | exact hM.1.2.2.1 | exact hM.1.2.2.2.1 | exact hM.1.2.2.2.2.1 | exact hM.1.2.2.2.2.2.1 | exact hM.1.2.2.2.2.2.2.1 | exact hM.1.2.2.2.2.2.2.2.1 | exact hM.1.2.2.2.2.2.2.2.2.1 | exact hM.1.2.2.2.2.2.2.2.2.2.1 | exact hM.1.2.2.2.2.2.2.2.2.2.2) rfl ?_
      refine V_topi (nI X.1) hR.1.1 ?_
      refine V_iconstv 42 (1) dX6_write_42 (by decide) ?_
      refine V_iadd 43 dX6_write_43 ?_
      refine V_topi (nI (X.1 + 1)) (nI_1 _) ?_
      refine V_putM 44 dX6_write_44 fpX6_162 hM rfl rfl (fun h hM => ?_)
      refine V_aload_n 47 dX6_write_47 rfl ?_
      refine V_get 48 dX6_write_48 fdX6_162 (by first | exact hM.1.1 | exact hM.1.2.1 | exact hM.1.2.2.1 | exact hM.1.2.2.2.1 | exact hM.1.2.2.2.2.1 | exact hM.1.2.2.2.2.2.1 | exact hM.1.2.2.2.2.2.2.1 | exact hM.1.2.2.2.2.2.2.2.1 | exact hM.1.2.2.2.2.2.2.2.2.1 | exact hM.1.2.2.2.2.2.2.2.2.2.1 | exact hM.1.2.2.2.2.2.2.2.2.2.2) rfl ?_
      refine V_topi (nI (X.1 + 1)) rfl ?_
      refine V_iret 51 dX6_write_51 ?_
      exact k1 c_6 e1 h _ hM (hR.wr e1 c_6)
    · have e1 : ¬ X.1 < 40 := fun q => absurd ((nI_eq (b := 40) (by omega) (by decide)).mp c_21) (by omega)
      refine V_ldc 24 dX6_write_24 knX6_165 ?_
      refine V_iret 26 dX6_write_26 ?_
      exact k2 c_6 e1
  · refine V_if_ne 9 15 dX6_write_9 rfl (fun q => absurd q (by decide)) (fun _ => ?_)
    refine V_ldc 12 dX6_write_12 knX6_161 ?_
    refine V_iret 14 dX6_write_14 ?_
    exact k0 c_6
set_option maxHeartbeats 1000000 in
set_option maxRecDepth 100000 in
theorem c_X6_undo (hM : WM G h0 h m M) (hR : REL B X Q E nx hs K M) (k0 : hs = 0 → Post (some (.int (-1000003))) h sz) (k1 : ¬ hs = 0 → ∀ f : Nat → Int32, ∀ h1 M1, WM G h0 h1 m M1 → REL B X Q (eH' (K (kpL nx)) f) (kpL nx) (hs - 1) K M1 → Post (some (.int (nI (hs - 1)))) h1 sz) : Cn l G yX6_undo cX6_undo 1 (some .int) 1 0 0 [.ref m] h sz Post := by
  refine Cn.of RX6 false (by decide) rfl (fun q => by cases q) (Nat.le_of_ble_eq_true rfl) ?_
  have hn := hR.2.1.2.1
  have h20 := hR.2.2.2.2.1
  refine V_aload_n 0 dX6_undo_0 rfl ?_
  refine V_get 1 dX6_undo_1 fdX6_153 (by first | exact hM.1.1 | exact hM.1.2.1 | exact hM.1.2.2.1 | exact hM.1.2.2.2.1 | exact hM.1.2.2.2.2.1 | exact hM.1.2.2.2.2.2.1 | exact hM.1.2.2.2.2.2.2.1 | exact hM.1.2.2.2.2.2.2.2.1 | exact hM.1.2.2.2.2.2.2.2.2.1 | exact hM.1.2.2.2.2.2.2.2.2.2.1 | exact hM.1.2.2.2.2.2.2.2.2.2.2) rfl ?_
  refine V_topi (nI hs) hR.2.2.2.1 ?_
  refine V_if_ne 4 10 dX6_undo_4 rfl (fun c_4 => ?_) (fun c_4 => ?_)
  · have e1 : ¬ hs = 0 := fun q => c_4 (by rw [q]; rfl)
    refine V_aload_n 10 dX6_undo_10 rfl ?_
    refine V_aload_n 11 dX6_undo_11 rfl ?_
    refine V_get 12 dX6_undo_12 fdX6_153 (by first | exact hM.1.1 | exact hM.1.2.1 | exact hM.1.2.2.1 | exact hM.1.2.2.2.1 | exact hM.1.2.2.2.2.1 | exact hM.1.2.2.2.2.2.1 | exact hM.1.2.2.2.2.2.2.1 | exact hM.1.2.2.2.2.2.2.2.1 | exact hM.1.2.2.2.2.2.2.2.2.1 | exact hM.1.2.2.2.2.2.2.2.2.2.1 | exact hM.1.2.2.2.2.2.2.2.2.2.2) rfl ?_
    refine V_topi (nI hs) hR.2.2.2.1 ?_
    refine V_iconstv 15 (0) dX6_undo_15 (by decide) ?_
    refine V_iv2 16 dX6_undo_16 kvX6_156 rfl (by first | exact hM.1.1 | exact hM.1.2.1 | exact hM.1.2.2.1 | exact hM.1.2.2.2.1 | exact hM.1.2.2.2.2.1 | exact hM.1.2.2.2.2.2.1 | exact hM.1.2.2.2.2.2.2.1 | exact hM.1.2.2.2.2.2.2.2.1 | exact hM.1.2.2.2.2.2.2.2.2.1 | exact hM.1.2.2.2.2.2.2.2.2.2.1 | exact hM.1.2.2.2.2.2.2.2.2.2.2) rfl rfl (c_X6_copies hM hs 0 (by omega) (by omega) (by omega) (fun h hM => ?_))
    refine V_aload_n 19 dX6_undo_19 rfl ?_
    refine V_dupr 20 dX6_undo_20 ?_
    refine V_get 21 dX6_undo_21 fdX6_153 (by first | exact hM.1.1 | exact hM.1.2.1 | exact hM.1.2.2.1 | exact hM.1.2.2.2.1 | exact hM.1.2.2.2.2.1 | exact hM.1.2.2.2.2.2.1 | exact hM.1.2.2.2.2.2.2.1 | exact hM.1.2.2.2.2.2.2.2.1 | exact hM.1.2.2.2.2.2.2.2.2.1 | exact hM.1.2.2.2.2.2.2.2.2.2.1 | exact hM.1.2.2.2.2.2.2.2.2.2.2) rfl ?_
    refine V_topi (nI hs) hR.2.2.2.1 ?_
    refine V_iconstv 24 (1) dX6_undo_24 (by decide) ?_
    refine V_isub 25 dX6_undo_25 ?_
    refine V_topi (nI (hs - 1)) (pk_sub (a := hs) (b := 1) (by omega)) ?_
    refine V_putM 26 dX6_undo_26 fpX6_153 hM rfl rfl (fun h hM => ?_)
    refine V_aload_n 29 dX6_undo_29 rfl ?_
    refine V_get 30 dX6_undo_30 fdX6_153 (by first | exact hM.1.1 | exact hM.1.2.1 | exact hM.1.2.2.1 | exact hM.1.2.2.2.1 | exact hM.1.2.2.2.2.1 | exact hM.1.2.2.2.2.2.1 | exact hM.1.2.2.2.2.2.2.1 | exact hM.1.2.2.2.2.2.2.2.1 | exact hM.1.2.2.2.2.2.2.2.2.1 | exact hM.1.2.2.2.2.2.2.2.2.2.1 | exact hM.1.2.2.2.2.2.2.2.2.2.2) rfl ?_
    refine V_topi (nI (hs - 1)) rfl ?_
    refine V_iret 33 dX6_undo_33 ?_
    exact k1 e1 (fun _ => 0) h _ hM (hR.und e1)
  · have e1 : hs = 0 := (nI_eq (b := 0) (by omega) (by decide)).mp c_4
    refine V_ldc 7 dX6_undo_7 knX6_211 ?_
    refine V_iret 9 dX6_undo_9 ?_
    exact k0 e1
set_option maxHeartbeats 1000000 in
set_option maxRecDepth 100000 in
theorem c_X6_wake (hM : WM G h0 h m M) (hR : REL B X Q E nx hs K M) (hB : 1 ≤ B) {w : Int32} (k0 : inb w Q.1 = false → Post (some (.int (-1000001))) h sz) (k2 : inb w Q.1 = true → ¬ (¬ eW E = 0 ∧ celE E w 0 = 0) → Post (some (.int (-1000003))) h sz) (k1 : inb w Q.1 = true → ¬ eW E = 0 → celE E w 0 = 0 → ∀ f : Nat → Int32, ∀ h1 M1, WM G h0 h1 m M1 → REL B X Q (rsE Q E w) (kpN nx) (kpS hs) (va_up K nx (eH' E f)) M1 → Post (some (.int (snE (rsE Q E w) 0 - snE E 0))) h1 sz) : Cn l G yX6_wake cX6_wake 3 (some .int) 5 0 0 [.ref m, .int w] h sz Post := by
  refine Cn.of RX6 false (by decide) rfl (fun q => by cases q) (Nat.le_of_ble_eq_true rfl) ?_
  have hn := hR.2.1.2.1
  have h20 := hR.2.2.2.2.1
  refine V_aload_n 0 dX6_wake_0 rfl ?_
  refine V_iload_n 1 dX6_wake_1 rfl ?_
  refine V_iv1 2 dX6_wake_2 kvX6_212 rfl (by first | exact hM.1.1 | exact hM.1.2.1 | exact hM.1.2.2.1 | exact hM.1.2.2.2.1 | exact hM.1.2.2.2.2.1 | exact hM.1.2.2.2.2.2.1 | exact hM.1.2.2.2.2.2.2.1 | exact hM.1.2.2.2.2.2.2.2.1 | exact hM.1.2.2.2.2.2.2.2.2.1 | exact hM.1.2.2.2.2.2.2.2.2.2.1 | exact hM.1.2.2.2.2.2.2.2.2.2.2 | exact hX.1.1.1 | exact hX.1.1.2.1 | exact hX.1.1.2.2.1 | exact hX.1.1.2.2.2.1 | exact hX.1.1.2.2.2.2.1 | exact hX.1.1.2.2.2.2.2.1 | exact hX.1.1.2.2.2.2.2.2.1 | exact hX.1.1.2.2.2.2.2.2.2.1 | exact hX.1.1.2.2.2.2.2.2.2.2.1 | exact hX.1.1.2.2.2.2.2.2.2.2.2.1 | exact hX.1.1.2.2.2.2.2.2.2.2.2.2) rfl rfl (c_X6_isContender hM Q.1 hR.2.1.1 hR.2.1.2.1 (fun c_2 => ?_) (fun c_2 => ?_))
  · obtain ⟨i, hi, rfl⟩ := inb_ex c_2 (by omega)
    have e0 : celE E (nI i) 0 = eC E (8 * i) := cel E (k := 0) (by omega) rfl (by omega)
    refine V_if_ne 5 11 dX6_wake_5 rfl (fun _ => ?_) (fun q => absurd q (by decide))
    refine V_aload_n 11 dX6_wake_11 rfl ?_
    refine V_iv0 12 dX6_wake_12 kvX6_216 rfl (by first | exact hM.1.1 | exact hM.1.2.1 | exact hM.1.2.2.1 | exact hM.1.2.2.2.1 | exact hM.1.2.2.2.2.1 | exact hM.1.2.2.2.2.2.1 | exact hM.1.2.2.2.2.2.2.1 | exact hM.1.2.2.2.2.2.2.2.1 | exact hM.1.2.2.2.2.2.2.2.2.1 | exact hM.1.2.2.2.2.2.2.2.2.2.1 | exact hM.1.2.2.2.2.2.2.2.2.2.2 | exact hX.1.1.1 | exact hX.1.1.2.1 | exact hX.1.1.2.2.1 | exact hX.1.1.2.2.2.1 | exact hX.1.1.2.2.2.2.1 | exact hX.1.1.2.2.2.2.2.1 | exact hX.1.1.2.2.2.2.2.2.1 | exact hX.1.1.2.2.2.2.2.2.2.1 | exact hX.1.1.2.2.2.2.2.2.2.2.1 | exact hX.1.1.2.2.2.2.2.2.2.2.2.1 | exact hX.1.1.2.2.2.2.2.2.2.2.2.2) rfl rfl (c_X6_isBegunR hM hR (fun c_12 => ?_) (fun c_12 => ?_))
    · refine V_if_eq 15 28 dX6_wake_15 rfl (fun q => absurd q (by decide)) (fun _ => ?_)
      refine V_aload_n 18 dX6_wake_18 rfl ?_
      refine V_iconstv 19 (0) dX6_wake_19 (by decide) ?_
      refine V_iload_n 20 dX6_wake_20 rfl ?_
      refine V_iconstv 21 (1) dX6_wake_21 (by decide) ?_
      refine V_iv3 22 dX6_wake_22 kvX6_56 rfl (by first | exact hM.1.1 | exact hM.1.2.1 | exact hM.1.2.2.1 | exact hM.1.2.2.2.1 | exact hM.1.2.2.2.2.1 | exact hM.1.2.2.2.2.2.1 | exact hM.1.2.2.2.2.2.2.1 | exact hM.1.2.2.2.2.2.2.2.1 | exact hM.1.2.2.2.2.2.2.2.2.1 | exact hM.1.2.2.2.2.2.2.2.2.2.1 | exact hM.1.2.2.2.2.2.2.2.2.2.2 | exact hX.1.1.1 | exact hX.1.1.2.1 | exact hX.1.1.2.2.1 | exact hX.1.1.2.2.2.1 | exact hX.1.1.2.2.2.2.1 | exact hX.1.1.2.2.2.2.2.1 | exact hX.1.1.2.2.2.2.2.2.1 | exact hX.1.1.2.2.2.2.2.2.2.1 | exact hX.1.1.2.2.2.2.2.2.2.2.1 | exact hX.1.1.2.2.2.2.2.2.2.2.2.1 | exact hX.1.1.2.2.2.2.2.2.2.2.2.2) rfl rfl (c_X6_has hM 0 i 1 (by unfold ctA; omega) ?_)
      refine V_topi (eC E (8 * i)) (hR.2.2.1.2.2.2.2.1 i hi).2.1 ?_
      refine V_if_eq 25 31 dX6_wake_25 rfl (fun c_25 => ?_) (fun c_25 => ?_)
      · refine V_aload_n 31 dX6_wake_31 rfl ?_
        refine V_iv0 32 dX6_wake_32 kvX6_220 rfl (by first | exact hM.1.1 | exact hM.1.2.1 | exact hM.1.2.2.1 | exact hM.1.2.2.2.1 | exact hM.1.2.2.2.2.1 | exact hM.1.2.2.2.2.2.1 | exact hM.1.2.2.2.2.2.2.1 | exact hM.1.2.2.2.2.2.2.2.1 | exact hM.1.2.2.2.2.2.2.2.2.1 | exact hM.1.2.2.2.2.2.2.2.2.2.1 | exact hM.1.2.2.2.2.2.2.2.2.2.2 | exact hX.1.1.1 | exact hX.1.1.2.1 | exact hX.1.1.2.2.1 | exact hX.1.1.2.2.2.1 | exact hX.1.1.2.2.2.2.1 | exact hX.1.1.2.2.2.2.2.1 | exact hX.1.1.2.2.2.2.2.2.1 | exact hX.1.1.2.2.2.2.2.2.2.1 | exact hX.1.1.2.2.2.2.2.2.2.2.1 | exact hX.1.1.2.2.2.2.2.2.2.2.2.1 | exact hX.1.1.2.2.2.2.2.2.2.2.2.2) rfl rfl (c_X6_notes hM hs h20 hR.2.2.2.1 (fun h M1 hM hN => ?_))
        have hI := (hR.bg.2 c_12).1
        have hR1 := fun f => hR.keep (f := f) hN c_12
        have hX := (hR1 (fun _ => 0)).wx hM
        have h10 : eN E ≤ 10 := wk10 hI hi c_25
        refine V_aload_n 35 dX6_wake_35 rfl ?_
        refine V_get 36 dX6_wake_36 fdX6_16 (by first | exact hM.1.1 | exact hM.1.2.1 | exact hM.1.2.2.1 | exact hM.1.2.2.2.1 | exact hM.1.2.2.2.2.1 | exact hM.1.2.2.2.2.2.1 | exact hM.1.2.2.2.2.2.2.1 | exact hM.1.2.2.2.2.2.2.2.1 | exact hM.1.2.2.2.2.2.2.2.2.1 | exact hM.1.2.2.2.2.2.2.2.2.2.1 | exact hM.1.2.2.2.2.2.2.2.2.2.2 | exact hX.1.1.1 | exact hX.1.1.2.1 | exact hX.1.1.2.2.1 | exact hX.1.1.2.2.2.1 | exact hX.1.1.2.2.2.2.1 | exact hX.1.1.2.2.2.2.2.1 | exact hX.1.1.2.2.2.2.2.2.1 | exact hX.1.1.2.2.2.2.2.2.2.1 | exact hX.1.1.2.2.2.2.2.2.2.2.1 | exact hX.1.1.2.2.2.2.2.2.2.2.2.1 | exact hX.1.1.2.2.2.2.2.2.2.2.2.2) rfl ?_
        refine V_iconstv 39 (3) dX6_wake_39 (by decide) ?_
        refine V_ialdk 40 3 rfl dX6_wake_40 (by first | exact hM.1.1 | exact hM.1.2.1 | exact hM.1.2.2.1 | exact hM.1.2.2.2.1 | exact hM.1.2.2.2.2.1 | exact hM.1.2.2.2.2.2.1 | exact hM.1.2.2.2.2.2.2.1 | exact hM.1.2.2.2.2.2.2.2.1 | exact hM.1.2.2.2.2.2.2.2.2.1 | exact hM.1.2.2.2.2.2.2.2.2.2.1 | exact hM.1.2.2.2.2.2.2.2.2.2.2 | exact hX.1.1.1 | exact hX.1.1.2.1 | exact hX.1.1.2.2.1 | exact hX.1.1.2.2.2.1 | exact hX.1.1.2.2.2.2.1 | exact hX.1.1.2.2.2.2.2.1 | exact hX.1.1.2.2.2.2.2.2.1 | exact hX.1.1.2.2.2.2.2.2.2.1 | exact hX.1.1.2.2.2.2.2.2.2.2.1 | exact hX.1.1.2.2.2.2.2.2.2.2.2.1 | exact hX.1.1.2.2.2.2.2.2.2.2.2.2) (inb_in (by decide)) ?_
        refine V_topi (eS E 0) (hX.2.2.2.2.1.2.2.2.1 0 (by omega)) ?_
        refine V_istore_n 41 dX6_wake_41 rfl rfl ?_
        refine V_aload_n 42 dX6_wake_42 rfl ?_
        refine V_iconstv 43 (0) dX6_wake_43 (by decide) ?_
        refine V_iload_n 44 dX6_wake_44 rfl ?_
        refine V_iv2 45 dX6_wake_45 kvX6_223 rfl (by first | exact hM.1.1 | exact hM.1.2.1 | exact hM.1.2.2.1 | exact hM.1.2.2.2.1 | exact hM.1.2.2.2.2.1 | exact hM.1.2.2.2.2.2.1 | exact hM.1.2.2.2.2.2.2.1 | exact hM.1.2.2.2.2.2.2.2.1 | exact hM.1.2.2.2.2.2.2.2.2.1 | exact hM.1.2.2.2.2.2.2.2.2.2.1 | exact hM.1.2.2.2.2.2.2.2.2.2.2 | exact hX.1.1.1 | exact hX.1.1.2.1 | exact hX.1.1.2.2.1 | exact hX.1.1.2.2.2.1 | exact hX.1.1.2.2.2.2.1 | exact hX.1.1.2.2.2.2.2.1 | exact hX.1.1.2.2.2.2.2.2.1 | exact hX.1.1.2.2.2.2.2.2.2.1 | exact hX.1.1.2.2.2.2.2.2.2.2.1 | exact hX.1.1.2.2.2.2.2.2.2.2.2.1 | exact hX.1.1.2.2.2.2.2.2.2.2.2.2) rfl rfl (c_X6_begins hX i hi hI.2.1 h10 (fun q => (hI.2.2.2.2.1 i hi).2.2.2 q) (fun q => hd4 hI hi q) (fun h M1 hX => ?_))
        refine V_aload_n 48 dX6_wake_48 rfl ?_
        refine V_get 49 dX6_wake_49 fdX6_16 (by first | exact hM.1.1 | exact hM.1.2.1 | exact hM.1.2.2.1 | exact hM.1.2.2.2.1 | exact hM.1.2.2.2.2.1 | exact hM.1.2.2.2.2.2.1 | exact hM.1.2.2.2.2.2.2.1 | exact hM.1.2.2.2.2.2.2.2.1 | exact hM.1.2.2.2.2.2.2.2.2.1 | exact hM.1.2.2.2.2.2.2.2.2.2.1 | exact hM.1.2.2.2.2.2.2.2.2.2.2 | exact hX.1.1.1 | exact hX.1.1.2.1 | exact hX.1.1.2.2.1 | exact hX.1.1.2.2.2.1 | exact hX.1.1.2.2.2.2.1 | exact hX.1.1.2.2.2.2.2.1 | exact hX.1.1.2.2.2.2.2.2.1 | exact hX.1.1.2.2.2.2.2.2.2.1 | exact hX.1.1.2.2.2.2.2.2.2.2.1 | exact hX.1.1.2.2.2.2.2.2.2.2.2.1 | exact hX.1.1.2.2.2.2.2.2.2.2.2.2) rfl ?_
        refine V_iconstv 52 (3) dX6_wake_52 (by decide) ?_
        refine V_ialdk 53 3 rfl dX6_wake_53 (by first | exact hM.1.1 | exact hM.1.2.1 | exact hM.1.2.2.1 | exact hM.1.2.2.2.1 | exact hM.1.2.2.2.2.1 | exact hM.1.2.2.2.2.2.1 | exact hM.1.2.2.2.2.2.2.1 | exact hM.1.2.2.2.2.2.2.2.1 | exact hM.1.2.2.2.2.2.2.2.2.1 | exact hM.1.2.2.2.2.2.2.2.2.2.1 | exact hM.1.2.2.2.2.2.2.2.2.2.2 | exact hX.1.1.1 | exact hX.1.1.2.1 | exact hX.1.1.2.2.1 | exact hX.1.1.2.2.2.1 | exact hX.1.1.2.2.2.2.1 | exact hX.1.1.2.2.2.2.2.1 | exact hX.1.1.2.2.2.2.2.2.1 | exact hX.1.1.2.2.2.2.2.2.2.1 | exact hX.1.1.2.2.2.2.2.2.2.2.1 | exact hX.1.1.2.2.2.2.2.2.2.2.2.1 | exact hX.1.1.2.2.2.2.2.2.2.2.2.2) (inb_in (by decide)) ?_
        refine V_topi (eS (rsE Q E (nI i)) 0) (hX.2.2.2.2.1.2.2.2.1 0 (by omega)) ?_
        refine V_iload_n 54 dX6_wake_54 rfl ?_
        refine V_isub 55 dX6_wake_55 ?_
        refine V_iret 56 dX6_wake_56 ?_
        exact k1 c_2 c_12 (e0.trans c_25) (fun _ => 0) h _ hX.1 ((hR1 _).seg0 hX.2.1 hX.2.2.2.2.1 (hI.rs hB hi c_25) (Nat.le_refl _) c_12)
      · refine V_ldc 28 dX6_wake_28 knX6_211 ?_
        refine V_iret 30 dX6_wake_30 ?_
        first | exact k2 c_2 (fun q => c_25 (e0.symm.trans q.2)) | exact k2 c_2 (fun q => q.1 c_12)
    · refine V_if_eq 15 28 dX6_wake_15 rfl (fun _ => ?_) (fun q => absurd q (by decide))
      refine V_ldc 28 dX6_wake_28 knX6_211 ?_
      refine V_iret 30 dX6_wake_30 ?_
      first | exact k2 c_2 (fun q => c_25 (e0.symm.trans q.2)) | exact k2 c_2 (fun q => q.1 c_12)
  · refine V_if_ne 5 11 dX6_wake_5 rfl (fun q => absurd q (by decide)) (fun _ => ?_)
    refine V_ldc 8 dX6_wake_8 knX6_215 ?_
    refine V_iret 10 dX6_wake_10 ?_
    exact k0 c_2
set_option maxHeartbeats 1000000 in
set_option maxRecDepth 100000 in
theorem c_X6_deliver (hM : WM G h0 h m M) (hR : REL B X Q E nx hs K M) (hB : B < 2 ^ 29) {w : Int32} (k0 : inb w (2 * Q.1) = false → Post (some (.int (-1000001))) h sz) (k2 : inb w (2 * Q.1) = true → bsy E w = false → Post (some (.int (-1000003))) h sz) (k1 : inb w (2 * Q.1) = true → bsy E w = true → ∀ f : Nat → Int32, ∀ h1 M1, WM G h0 h1 m M1 → REL (B + 1) X Q (dlE Q E w) (kpN nx) (kpS hs) (va_up K nx (eH' E f)) M1 → Post (some (.int (dlR Q E w))) h1 sz) : Cn l G yX6_deliver cX6_deliver 2 (some .int) 7 0 0 [.ref m, .int w] h sz Post := by
  refine Cn.of RX6 false (by decide) rfl (fun q => by cases q) (Nat.le_of_ble_eq_true rfl) ?_
  have hn := hR.2.1.2.1
  have h20 := hR.2.2.2.2.1
  refine V_aload_n 0 dX6_deliver_0 rfl ?_
  refine V_iload_n 1 dX6_deliver_1 rfl ?_
  refine V_iv1 2 dX6_deliver_2 kvX6_226 rfl (by first | exact hM.1.1 | exact hM.1.2.1 | exact hM.1.2.2.1 | exact hM.1.2.2.2.1 | exact hM.1.2.2.2.2.1 | exact hM.1.2.2.2.2.2.1 | exact hM.1.2.2.2.2.2.2.1 | exact hM.1.2.2.2.2.2.2.2.1 | exact hM.1.2.2.2.2.2.2.2.2.1 | exact hM.1.2.2.2.2.2.2.2.2.2.1 | exact hM.1.2.2.2.2.2.2.2.2.2.2 | exact hX.1.1.1 | exact hX.1.1.2.1 | exact hX.1.1.2.2.1 | exact hX.1.1.2.2.2.1 | exact hX.1.1.2.2.2.2.1 | exact hX.1.1.2.2.2.2.2.1 | exact hX.1.1.2.2.2.2.2.2.1 | exact hX.1.1.2.2.2.2.2.2.2.1 | exact hX.1.1.2.2.2.2.2.2.2.2.1 | exact hX.1.1.2.2.2.2.2.2.2.2.2.1 | exact hX.1.1.2.2.2.2.2.2.2.2.2.2) rfl rfl (c_X6_isLink hM Q.1 hR.2.1.1 hR.2.1.2.1 (fun c_2 => ?_) (fun c_2 => ?_))
  · obtain ⟨j, hj, rfl⟩ := inb_ex c_2 (by omega)
    refine V_if_ne 5 11 dX6_deliver_5 rfl (fun _ => ?_) (fun q => absurd q (by decide))
    refine V_aload_n 11 dX6_deliver_11 rfl ?_
    refine V_iv0 12 dX6_deliver_12 kvX6_216 rfl (by first | exact hM.1.1 | exact hM.1.2.1 | exact hM.1.2.2.1 | exact hM.1.2.2.2.1 | exact hM.1.2.2.2.2.1 | exact hM.1.2.2.2.2.2.1 | exact hM.1.2.2.2.2.2.2.1 | exact hM.1.2.2.2.2.2.2.2.1 | exact hM.1.2.2.2.2.2.2.2.2.1 | exact hM.1.2.2.2.2.2.2.2.2.2.1 | exact hM.1.2.2.2.2.2.2.2.2.2.2 | exact hX.1.1.1 | exact hX.1.1.2.1 | exact hX.1.1.2.2.1 | exact hX.1.1.2.2.2.1 | exact hX.1.1.2.2.2.2.1 | exact hX.1.1.2.2.2.2.2.1 | exact hX.1.1.2.2.2.2.2.2.1 | exact hX.1.1.2.2.2.2.2.2.2.1 | exact hX.1.1.2.2.2.2.2.2.2.2.1 | exact hX.1.1.2.2.2.2.2.2.2.2.2.1 | exact hX.1.1.2.2.2.2.2.2.2.2.2.2) rfl rfl (c_X6_isBegunR hM hR (fun c_12 => ?_) (fun c_12 => ?_))
    · refine V_if_eq 15 27 dX6_deliver_15 rfl (fun q => absurd q (by decide)) (fun _ => ?_)
      refine V_aload_n 18 dX6_deliver_18 rfl ?_
      refine V_iconstv 19 (0) dX6_deliver_19 (by decide) ?_
      refine V_iload_n 20 dX6_deliver_20 rfl ?_
      refine V_iv2 21 dX6_deliver_21 kvX6_133 rfl (by first | exact hM.1.1 | exact hM.1.2.1 | exact hM.1.2.2.1 | exact hM.1.2.2.2.1 | exact hM.1.2.2.2.2.1 | exact hM.1.2.2.2.2.2.1 | exact hM.1.2.2.2.2.2.2.1 | exact hM.1.2.2.2.2.2.2.2.1 | exact hM.1.2.2.2.2.2.2.2.2.1 | exact hM.1.2.2.2.2.2.2.2.2.2.1 | exact hM.1.2.2.2.2.2.2.2.2.2.2 | exact hX.1.1.1 | exact hX.1.1.2.1 | exact hX.1.1.2.2.1 | exact hX.1.1.2.2.2.1 | exact hX.1.1.2.2.2.2.1 | exact hX.1.1.2.2.2.2.2.1 | exact hX.1.1.2.2.2.2.2.2.1 | exact hX.1.1.2.2.2.2.2.2.2.1 | exact hX.1.1.2.2.2.2.2.2.2.2.1 | exact hX.1.1.2.2.2.2.2.2.2.2.2.1 | exact hX.1.1.2.2.2.2.2.2.2.2.2.2) rfl rfl (c_X6_manyOn (hR.wx hM) ?_)
      refine V_if_ne 24 30 dX6_deliver_24 rfl (fun c_24 => ?_) (fun c_24 => ?_)
      · have hb : bsy E (nI j) = true := is_bsy (fun q => c_24 (nI_z (Nat.eq_zero_of_not_pos (fun z => nI_nle z (by have : loE E (nI j) ≤ eN E := ctN_le _ _; have := hR.2.2.1.2.2.2.2.2.2; omega) q))))
        refine V_aload_n 30 dX6_deliver_30 rfl ?_
        refine V_iv0 31 dX6_deliver_31 kvX6_220 rfl (by first | exact hM.1.1 | exact hM.1.2.1 | exact hM.1.2.2.1 | exact hM.1.2.2.2.1 | exact hM.1.2.2.2.2.1 | exact hM.1.2.2.2.2.2.1 | exact hM.1.2.2.2.2.2.2.1 | exact hM.1.2.2.2.2.2.2.2.1 | exact hM.1.2.2.2.2.2.2.2.2.1 | exact hM.1.2.2.2.2.2.2.2.2.2.1 | exact hM.1.2.2.2.2.2.2.2.2.2.2 | exact hX.1.1.1 | exact hX.1.1.2.1 | exact hX.1.1.2.2.1 | exact hX.1.1.2.2.2.1 | exact hX.1.1.2.2.2.2.1 | exact hX.1.1.2.2.2.2.2.1 | exact hX.1.1.2.2.2.2.2.2.1 | exact hX.1.1.2.2.2.2.2.2.2.1 | exact hX.1.1.2.2.2.2.2.2.2.2.1 | exact hX.1.1.2.2.2.2.2.2.2.2.2.1 | exact hX.1.1.2.2.2.2.2.2.2.2.2.2) rfl rfl (c_X6_notes hM hs h20 hR.2.2.2.1 (fun h M1 hM hN => ?_))
        have hI := (hR.bg.2 c_12).1
        have hJ := Inv.JC (Q := Q) B E hB hI
        have hR1 := fun f => hR.keep (f := f) hN c_12
        have hX := (hR1 (fun _ => 0)).wx hM
        refine V_aload_n 34 dX6_deliver_34 rfl ?_
        refine V_iconstv 35 (0) dX6_deliver_35 (by decide) ?_
        refine V_iload_n 36 dX6_deliver_36 rfl ?_
        refine V_iv2 37 dX6_deliver_37 kvX6_150 rfl (by first | exact hM.1.1 | exact hM.1.2.1 | exact hM.1.2.2.1 | exact hM.1.2.2.2.1 | exact hM.1.2.2.2.2.1 | exact hM.1.2.2.2.2.2.1 | exact hM.1.2.2.2.2.2.2.1 | exact hM.1.2.2.2.2.2.2.2.1 | exact hM.1.2.2.2.2.2.2.2.2.1 | exact hM.1.2.2.2.2.2.2.2.2.2.1 | exact hM.1.2.2.2.2.2.2.2.2.2.2 | exact hX.1.1.1 | exact hX.1.1.2.1 | exact hX.1.1.2.2.1 | exact hX.1.1.2.2.2.1 | exact hX.1.1.2.2.2.2.1 | exact hX.1.1.2.2.2.2.2.1 | exact hX.1.1.2.2.2.2.2.2.1 | exact hX.1.1.2.2.2.2.2.2.2.1 | exact hX.1.1.2.2.2.2.2.2.2.2.1 | exact hX.1.1.2.2.2.2.2.2.2.2.2.1 | exact hX.1.1.2.2.2.2.2.2.2.2.2.2) rfl rfl (c_X6_delivers hX j hj hb (hJ.2 j hj hb).1 (fun h M1 hX => ?_))
        refine V_iret 40 dX6_deliver_40 ?_
        exact pof (k1 c_2 hb (fun _ => 0) h _ hX.1 ((hR1 _).seg0 hX.2.1 hX.2.2.2.2.1 (hI.dl hj) (by omega) c_12)) (dlR_eq hI hj hb).symm
      · have hb : bsy E (nI j) = false := Bool.eq_false_iff.mpr (fun q => ne_bsy (hR.wx hM) (by rw [c_24]; decide) q)
        refine V_ldc 27 dX6_deliver_27 knX6_211 ?_
        refine V_iret 29 dX6_deliver_29 ?_
        exact k2 c_2 hb
    · have hb : bsy E (nI j) = false := (hR.no c_12 _)
      refine V_if_eq 15 27 dX6_deliver_15 rfl (fun _ => ?_) (fun q => absurd q (by decide))
      refine V_ldc 27 dX6_deliver_27 knX6_211 ?_
      refine V_iret 29 dX6_deliver_29 ?_
      exact k2 c_2 hb
  · refine V_if_ne 5 11 dX6_deliver_5 rfl (fun q => absurd q (by decide)) (fun _ => ?_)
    refine V_ldc 8 dX6_deliver_8 knX6_215 ?_
    refine V_iret 10 dX6_deliver_10 ?_
    exact k0 c_2
set_option maxHeartbeats 1000000 in
set_option maxRecDepth 100000 in
theorem c_X6_sent (hM : WM G h0 h m M) (hR : REL B X Q E nx hs K M) {w : Int32} (k0 : ¬ (0 ≤ w ∧ w ≤ 7) → Post (some (.int (-1000002))) h sz) (k1 : (0 ≤ w ∧ w ≤ 7) → Post (some (.int (snE E w))) h sz) : Cn l G yX6_sent cX6_sent 2 (some .int) 1 0 0 [.ref m, .int w] h sz Post := by
  refine Cn.of RX6 false (by decide) rfl (fun q => by cases q) (Nat.le_of_ble_eq_true rfl) ?_
  have hn := hR.2.1.2.1
  refine V_iload_n 0 dX6_sent_0 rfl ?_
  refine V_i2l 1 dX6_sent_1 ?_
  refine V_lconstv 2 0 dX6_sent_2 (by decide) ?_
  refine V_ldc2 3 dX6_sent_3 knX6_240 ?_
  refine V_is3 6 dX6_sent_6 ksX6_45 rfl rfl (c_X6_inI (lo := 0) (hi := 7) rfl rfl (fun c_6 => ?_) (fun c_6 => ?_))
  · obtain ⟨j, hj, rfl⟩ := nI_of2 (x := w) (M := 7) (n := 7) rfl (Int32.not_lt.mpr c_6.1) c_6.2
    refine V_if_eq 9 23 dX6_sent_9 rfl (fun q => absurd q (by decide)) (fun _ => ?_)
    refine V_aload_n 12 dX6_sent_12 rfl ?_
    refine V_get 13 dX6_sent_13 fdX6_16 (by first | exact hM.1.1 | exact hM.1.2.1 | exact hM.1.2.2.1 | exact hM.1.2.2.2.1 | exact hM.1.2.2.2.2.1 | exact hM.1.2.2.2.2.2.1 | exact hM.1.2.2.2.2.2.2.1 | exact hM.1.2.2.2.2.2.2.2.1 | exact hM.1.2.2.2.2.2.2.2.2.1 | exact hM.1.2.2.2.2.2.2.2.2.2.1 | exact hM.1.2.2.2.2.2.2.2.2.2.2) rfl ?_
    refine V_iconstv 16 (3) dX6_sent_16 (by decide) ?_
    refine V_iload_n 17 dX6_sent_17 rfl ?_
    refine V_iadd 18 dX6_sent_18 ?_
    refine V_topi (nI (3 + j)) (nI_add 3 j) ?_
    refine V_ialdk 19 (3 + j) (nI_clamp (by omega)) dX6_sent_19 (by first | exact hM.1.1 | exact hM.1.2.1 | exact hM.1.2.2.1 | exact hM.1.2.2.2.1 | exact hM.1.2.2.2.2.1 | exact hM.1.2.2.2.2.2.1 | exact hM.1.2.2.2.2.2.2.1 | exact hM.1.2.2.2.2.2.2.2.1 | exact hM.1.2.2.2.2.2.2.2.2.1 | exact hM.1.2.2.2.2.2.2.2.2.2.1 | exact hM.1.2.2.2.2.2.2.2.2.2.2) (vp_in_nI (by omega) (by decide)) ?_
    refine V_topi (snE E (nI j)) (by rw [snE_nI E (by omega), ← hR.2.2.1.2.2.2.1 j (by omega), Nat.mul_zero, Nat.zero_add]) ?_
    refine V_goto 20 25 dX6_sent_20 rfl ?_
    refine V_iret 25 dX6_sent_25 ?_
    first | exact k1 c_6 | exact k0 c_6
  · refine V_if_eq 9 23 dX6_sent_9 rfl (fun _ => ?_) (fun q => absurd q (by decide))
    refine V_ldc 23 dX6_sent_23 knX6_161 ?_
    refine V_iret 25 dX6_sent_25 ?_
    first | exact k1 c_6 | exact k0 c_6
set_option maxHeartbeats 1000000 in
set_option maxRecDepth 100000 in
theorem c_X6_link (hM : WM G h0 h m M) (hR : REL B X Q E nx hs K M) {w : Int32} (k0 : inb w (2 * Q.1) = false → Post (some (.int (-1000001))) h sz) (k1 : inb w (2 * Q.1) = true → Post (some (.int (nI (loE E w)))) h sz) : Cn l G yX6_link cX6_link 2 (some .int) 2 0 0 [.ref m, .int w] h sz Post := by
  refine Cn.of RX6 false (by decide) rfl (fun q => by cases q) (Nat.le_of_ble_eq_true rfl) ?_
  have hn := hR.2.1.2.1
  refine V_aload_n 0 dX6_link_0 rfl ?_
  refine V_iload_n 1 dX6_link_1 rfl ?_
  refine V_iv1 2 dX6_link_2 kvX6_226 rfl (by first | exact hM.1.1 | exact hM.1.2.1 | exact hM.1.2.2.1 | exact hM.1.2.2.2.1 | exact hM.1.2.2.2.2.1 | exact hM.1.2.2.2.2.2.1 | exact hM.1.2.2.2.2.2.2.1 | exact hM.1.2.2.2.2.2.2.2.1 | exact hM.1.2.2.2.2.2.2.2.2.1 | exact hM.1.2.2.2.2.2.2.2.2.2.1 | exact hM.1.2.2.2.2.2.2.2.2.2.2) rfl rfl (c_X6_isLink hM Q.1 hR.2.1.1 hR.2.1.2.1 (fun c_2 => ?_) (fun c_2 => ?_))
  · refine V_if_eq 5 17 dX6_link_5 rfl (fun q => absurd q (by decide)) (fun _ => ?_)
    refine V_aload_n 8 dX6_link_8 rfl ?_
    refine V_iconstv 9 (0) dX6_link_9 (by decide) ?_
    refine V_iload_n 10 dX6_link_10 rfl ?_
    refine V_iv2 11 dX6_link_11 kvX6_133 rfl (by first | exact hM.1.1 | exact hM.1.2.1 | exact hM.1.2.2.1 | exact hM.1.2.2.2.1 | exact hM.1.2.2.2.2.1 | exact hM.1.2.2.2.2.2.1 | exact hM.1.2.2.2.2.2.2.1 | exact hM.1.2.2.2.2.2.2.2.1 | exact hM.1.2.2.2.2.2.2.2.2.1 | exact hM.1.2.2.2.2.2.2.2.2.2.1 | exact hM.1.2.2.2.2.2.2.2.2.2.2) rfl rfl (c_X6_manyOn (hR.wx hM) ?_)
    refine V_goto 14 19 dX6_link_14 rfl ?_
    refine V_iret 19 dX6_link_19 ?_
    first | exact k1 c_2 | exact k0 c_2
  · refine V_if_eq 5 17 dX6_link_5 rfl (fun _ => ?_) (fun q => absurd q (by decide))
    refine V_ldc 17 dX6_link_17 knX6_215 ?_
    refine V_iret 19 dX6_link_19 ?_
    first | exact k1 c_2 | exact k0 c_2
set_option maxHeartbeats 1000000 in
set_option maxRecDepth 100000 in
theorem c_X6_letter (hM : WM G h0 h m M) (hR : REL B X Q E nx hs K M) {w i y : Int32} (k0 : inb w (2 * Q.1) = false → Post (some (.int (-1000001))) h sz) (k2 : inb w (2 * Q.1) = true → plE E w i = -1 → Post (some (.int (-1000001))) h sz) (k1 : inb w (2 * Q.1) = true → ¬ plE E w i = -1 → Post (some (.int (letR E (plE E w i) y))) h sz) : Cn l G yX6_letter cX6_letter 4 (some .int) 2 0 0 [.ref m, .int w, .int i, .int y] h sz Post := by
  refine Cn.of RX6 false (by decide) rfl (fun q => by cases q) (Nat.le_of_ble_eq_true rfl) ?_
  have hn := hR.2.1.2.1
  have hN := hR.2.2.1.2.2.2.2.2.2
  refine V_aload_n 0 dX6_letter_0 rfl ?_
  refine V_iload_n 1 dX6_letter_1 rfl ?_
  refine V_iv1 2 dX6_letter_2 kvX6_226 rfl (by first | exact hM.1.1 | exact hM.1.2.1 | exact hM.1.2.2.1 | exact hM.1.2.2.2.1 | exact hM.1.2.2.2.2.1 | exact hM.1.2.2.2.2.2.1 | exact hM.1.2.2.2.2.2.2.1 | exact hM.1.2.2.2.2.2.2.2.1 | exact hM.1.2.2.2.2.2.2.2.2.1 | exact hM.1.2.2.2.2.2.2.2.2.2.1 | exact hM.1.2.2.2.2.2.2.2.2.2.2) rfl rfl (c_X6_isLink hM Q.1 hR.2.1.1 hR.2.1.2.1 (fun c_2 => ?_) (fun c_2 => ?_))
  · refine V_if_eq 5 26 dX6_letter_5 rfl (fun q => absurd q (by decide)) (fun _ => ?_)
    refine V_iload_n 8 dX6_letter_8 rfl ?_
    refine V_i2l 9 dX6_letter_9 ?_
    refine V_lconstv 10 0 dX6_letter_10 (by decide) ?_
    refine V_aload_n 11 dX6_letter_11 rfl ?_
    refine V_iconstv 12 (0) dX6_letter_12 (by decide) ?_
    refine V_iload_n 13 dX6_letter_13 rfl ?_
    refine V_iv2 14 dX6_letter_14 kvX6_133 rfl (by first | exact hM.1.1 | exact hM.1.2.1 | exact hM.1.2.2.1 | exact hM.1.2.2.2.1 | exact hM.1.2.2.2.2.1 | exact hM.1.2.2.2.2.2.1 | exact hM.1.2.2.2.2.2.2.1 | exact hM.1.2.2.2.2.2.2.2.1 | exact hM.1.2.2.2.2.2.2.2.2.1 | exact hM.1.2.2.2.2.2.2.2.2.2.1 | exact hM.1.2.2.2.2.2.2.2.2.2.2) rfl rfl (c_X6_manyOn (hR.wx hM) ?_)
    refine V_iconstv 17 (1) dX6_letter_17 (by decide) ?_
    refine V_isub 18 dX6_letter_18 ?_
    refine V_i2l 19 dX6_letter_19 ?_
    refine V_is3 20 dX6_letter_20 ksX6_45 rfl rfl (c_X6_inI (lo := 0) (hi := nI (loE E w) - 1) rfl rfl (fun c_20 => ?_) (fun c_20 => ?_))
    · have e1 := (pl_in hN w i).mp c_20
      obtain ⟨p, p1, p2⟩ := pl_ex e1
      refine V_if_ne 23 29 dX6_letter_23 rfl (fun _ => ?_) (fun q => absurd q (by decide))
      refine V_iload_n 29 dX6_letter_29 rfl ?_
      refine V_i2l 30 dX6_letter_30 ?_
      refine V_lconstv 31 0 dX6_letter_31 (by decide) ?_
      refine V_ldc2 32 dX6_letter_32 knX6_205 ?_
      refine V_is3 35 dX6_letter_35 ksX6_45 rfl rfl (c_X6_inI (lo := 0) (hi := 4) rfl rfl (fun c_35 => ?_) (fun c_35 => ?_))
      · obtain ⟨j, hj, rfl⟩ := nI_of2 (x := y) (M := 4) (n := 4) rfl (Int32.not_lt.mpr c_35.1) c_35.2
        refine V_if_eq 38 63 dX6_letter_38 rfl (fun q => absurd q (by decide)) (fun _ => ?_)
        refine V_aload_n 41 dX6_letter_41 rfl ?_
        refine V_get 42 dX6_letter_42 fdX6_16 (by first | exact hM.1.1 | exact hM.1.2.1 | exact hM.1.2.2.1 | exact hM.1.2.2.2.1 | exact hM.1.2.2.2.2.1 | exact hM.1.2.2.2.2.2.1 | exact hM.1.2.2.2.2.2.2.1 | exact hM.1.2.2.2.2.2.2.2.1 | exact hM.1.2.2.2.2.2.2.2.2.1 | exact hM.1.2.2.2.2.2.2.2.2.2.1 | exact hM.1.2.2.2.2.2.2.2.2.2.2) rfl ?_
        refine V_iconstv 45 (0) dX6_letter_45 (by decide) ?_
        refine V_aload_n 46 dX6_letter_46 rfl ?_
        refine V_iconstv 47 (0) dX6_letter_47 (by decide) ?_
        refine V_iload_n 48 dX6_letter_48 rfl ?_
        refine V_iload_n 49 dX6_letter_49 rfl ?_
        refine V_iv3 50 dX6_letter_50 kvX6_127 rfl (by first | exact hM.1.1 | exact hM.1.2.1 | exact hM.1.2.2.1 | exact hM.1.2.2.2.1 | exact hM.1.2.2.2.2.1 | exact hM.1.2.2.2.2.2.1 | exact hM.1.2.2.2.2.2.2.1 | exact hM.1.2.2.2.2.2.2.2.1 | exact hM.1.2.2.2.2.2.2.2.2.1 | exact hM.1.2.2.2.2.2.2.2.2.2.1 | exact hM.1.2.2.2.2.2.2.2.2.2.2) rfl rfl (c_X6_letterOn (hR.wx hM) ?_)
        refine V_topi (nI p) ((la_pl E w i hN).trans p2) ?_
        refine V_iconstv 53 (1) dX6_letter_53 (by decide) ?_
        refine V_iload_n 54 dX6_letter_54 rfl ?_
        refine V_iadd 55 dX6_letter_55 ?_
        refine V_topi (nI (1 + j)) (nI_add 1 j) ?_
        refine V_is3 56 dX6_letter_56 ksX6_53 rfl rfl (c_X6_ofLetter 0 p (1 + j) ?_)
        refine V_ialdk 59 (leA 0 p (1 + j)) (nI_clamp (by unfold leA; omega)) dX6_letter_59 (by first | exact hM.1.1 | exact hM.1.2.1 | exact hM.1.2.2.1 | exact hM.1.2.2.2.1 | exact hM.1.2.2.2.2.1 | exact hM.1.2.2.2.2.2.1 | exact hM.1.2.2.2.2.2.2.1 | exact hM.1.2.2.2.2.2.2.2.1 | exact hM.1.2.2.2.2.2.2.2.2.1 | exact hM.1.2.2.2.2.2.2.2.2.2.1 | exact hM.1.2.2.2.2.2.2.2.2.2.2) (vp_in_nI (by unfold leA; omega) (by decide)) ?_
        refine V_goto 60 65 dX6_letter_60 rfl ?_
        refine V_iret 65 dX6_letter_65 ?_
        first | exact pof (k1 c_2 e1) ((hR.2.2.1.2.2.2.2.2.1 p (1 + j) p1 (by omega)).trans (by rw [p2]; exact (letR_nI E (by omega) hj).symm)) | exact pof (k1 c_2 e1) (letR_no E _ c_35).symm
      · refine V_if_eq 38 63 dX6_letter_38 rfl (fun _ => ?_) (fun q => absurd q (by decide))
        refine V_ldc 63 dX6_letter_63 knX6_161 ?_
        refine V_iret 65 dX6_letter_65 ?_
        first | exact pof (k1 c_2 e1) ((hR.2.2.1.2.2.2.2.2.1 p (1 + j) p1 (by omega)).trans (by rw [p2]; exact (letR_nI E (by omega) hj).symm)) | exact pof (k1 c_2 e1) (letR_no E _ c_35).symm
    · have e1 : plE E w i = -1 := Classical.byContradiction (fun q => c_20 ((pl_in hN w i).mpr q))
      refine V_if_ne 23 29 dX6_letter_23 rfl (fun q => absurd q (by decide)) (fun _ => ?_)
      refine V_ldc 26 dX6_letter_26 knX6_215 ?_
      refine V_iret 28 dX6_letter_28 ?_
      first | exact k2 c_2 e1 | exact k0 c_2
  · refine V_if_eq 5 26 dX6_letter_5 rfl (fun _ => ?_) (fun q => absurd q (by decide))
    refine V_ldc 26 dX6_letter_26 knX6_215 ?_
    refine V_iret 28 dX6_letter_28 ?_
    first | exact k2 c_2 e1 | exact k0 c_2
end M37
