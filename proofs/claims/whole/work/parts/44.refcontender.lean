/-- what reading a contender leaves; the told names and senses -/
def RFv (M : MT) (A S : Nat → Int32) (M1 : MT) : Prop := (∀ j, j < 16 ∨ 20 < j → M1.1 j = M.1 j) ∧ M1.2.1 = M.2.1 ∧ (∀ k, ¬ k = 5 → ¬ k = 6 → M1.2.2.1 k = M.2.2.1 k) ∧ M1.2.2.2 = M.2.2.2 ∧ M1.2.2.1 5 = A ∧ M1.2.2.1 6 = S
def RFc (M M1 : MT) : Prop := (∀ j, j < 16 ∨ 20 < j → M1.1 j = M.1 j) ∧ M1.2.1 = M.2.1 ∧ (∀ k, ¬ k = 5 → ¬ k = 6 → M1.2.2.1 k = M.2.2.1 k) ∧ M1.2.2.2 = M.2.2.2
theorem RFv.rf {M : MT} : RFv M (M.2.2.1 5) (M.2.2.1 6) M := ⟨fun _ _ => rfl, rfl, fun _ _ _ => rfl, rfl, rfl, rfl⟩
theorem RFv.rd {M M1 M2 : MT} {A S : Nat → Int32} (h : RFv M A S M1) (g : RFm M1 M2) : RFv M A S M2 := by
  obtain ⟨h1, h2, h3, h4, h5, h6⟩ := h
  obtain ⟨g1, g2⟩ := g
  exact ⟨fun j hj => (g1 j hj).trans (h1 j hj), by rw [g2]; exact h2, fun k a b => by rw [g2]; exact h3 k a b, by rw [g2]; exact h4, by rw [g2]; exact h5, by rw [g2]; exact h6⟩
theorem RFv.s5 {M M1 : MT} {A S : Nat → Int32} (h : RFv M A S M1) (f : Nat → Int32) : RFv M f S (mJ M1 5 f) := ⟨h.1, h.2.1, fun k a b => (va_up_ne _ _ a).trans (h.2.2.1 k a b), h.2.2.2.1, rfl, h.2.2.2.2.2⟩
theorem RFv.s6 {M M1 : MT} {A S : Nat → Int32} (h : RFv M A S M1) (f : Nat → Int32) : RFv M A f (mJ M1 6 f) := ⟨h.1, h.2.1, fun k a b => (va_up_ne _ _ b).trans (h.2.2.1 k a b), h.2.2.2.1, h.2.2.2.2.1, rfl⟩
theorem RFv.c {M M1 : MT} {A S : Nat → Int32} (h : RFv M A S M1) : RFc M M1 := ⟨h.1, h.2.1, h.2.2.1, h.2.2.2.1⟩
theorem RFc.rf {M : MT} : RFc M M := ⟨fun _ _ => rfl, rfl, fun _ _ _ => rfl, rfl⟩
theorem RFc.tr {M M1 M2 : MT} (h : RFc M M1) (g : RFc M1 M2) : RFc M M2 := ⟨fun j hj => (g.1 j hj).trans (h.1 j hj), g.2.1.trans h.2.1, fun k a b => (g.2.2.1 k a b).trans (h.2.2.1 k a b), g.2.2.2.trans h.2.2.2⟩
theorem TXR.fc {X : TX} {M M1 : MT} (h : TXR X M) (g : RFc M M1) : TXR X M1 := by
  unfold TXR
  rw [g.1 14 (by omega), g.2.2.1 4 (by omega) (by omega)]
  exact h
def TD (Q : RG) (M : MT) : Prop := ∀ j, j < Q.1 → M.2.2.1 5 j = Q.2.1 j ∧ M.2.2.1 6 j = Q.2.2 j ∧ ∃ s, s < 2 ∧ Q.2.2 j = nI s
/-- what the class reads, when there are turns enough -/
def RDs (nx : Nat) (X : TX) (Q : RG) (R : Int32 × TX × RG) : Prop := ∀ m, X.1 - X.2.2.2.2 < m → rdE m nx X Q = R
theorem RDs.eok {X : TX} {Q : RG} (h : X.1 ≤ tkA X) (h2 : 2 ≤ Q.1) : RDs 0 X Q (-1, fX' (ftX X) 0, Q) := fun m hm => by
  match m, hm with
  | m + 1, _ => rw [rdE, if_pos h, if_pos ⟨rfl, h2⟩]
theorem RDs.ebad {nx : Nat} {X : TX} {Q : RG} (h : X.1 ≤ tkA X) (h2 : ¬ (nx = 0 ∧ 2 ≤ Q.1)) : RDs nx X Q (nI (tkA X), fX' (ftX X) 1, Q) := fun m hm => by
  match m, hm with
  | m + 1, _ => rw [rdE, if_pos h, if_neg h2]
theorem RDs.bad {nx : Nat} {X : TX} {Q : RG} (h : tkA X < X.1) {f : Int32} (h2 : foT (ftX X) Q nx = f) (h3 : ¬ f = 0) : RDs nx X Q (nI (tkA X), fX' (ftX X) f, Q) := fun m hm => by
  match m, hm with
  | m + 1, _ => rw [rdE, if_neg (by omega), h2, if_neg h3]
theorem RDs.next {nx : Nat} {X : TX} {Q : RG} {R : Int32 × TX × RG} (h : tkA X < X.1) (hte : X.2.2.2.2 ≤ X.1) (h2 : foT (ftX X) Q nx = 0) (g : RDs (if nx = 2 then 0 else nx + 1) (fX' (ftX X) 0) (taT (fX' (ftX X) 0) Q nx) R) : RDs nx X Q R := fun m hm => by
  match m, hm with
  | m + 1, hm =>
    rw [rdE, if_neg (by omega), if_pos h2]
    refine g m ?_
    have a := ft_end X h
    have b := tkA_ge X hte
    show X.1 - (ftX X).2.2.2.2 < m
    omega
theorem tvN_f (Y : TX) (f : Int32) : ∀ k, tvN (fX' Y f) k = tvN Y k
  | 0 => rfl
  | k + 1 => by
    rw [tvN, tvN, tvN_f Y f k]
    rfl
theorem tvX_f (Y : TX) (f : Int32) : tvX (fX' Y f) = tvX Y := tvN_f Y f _
theorem ft_len {X : TX} (h : tkA X < X.1) (hd : dgB (X.2.1 (tkA X)) = true) : (ftX X).2.2.2.2 - (ftX X).2.2.2.1 = tkB X - tkA X := by
  have e : ¬ (tkB X = tkA X ∧ tkA X < X.1) := fun q => by
    have z := (fiN_lt (p := ndB X (tkA X)) (n := X.1) (by rw [show fiN (ndB X (tkA X)) X.1 = tkB X from rfl, q.1]; exact h)).1
    rw [show fiN (ndB X (tkA X)) X.1 = tkB X from rfl, q.1] at z
    have a := (Bool.and_eq_true_iff.mp z).2
    rw [hd] at a
    exact absurd a (by decide)
  show (if tkB X = tkA X ∧ tkA X < X.1 then tkA X + 1 else tkB X) - tkA X = _
  rw [if_neg e]
theorem foT0 {X : TX} {Q : RG} (h : tkA X < X.1) (hd : dgB (X.2.1 (tkA X)) = true) : foT (ftX X) Q 0 = if 2 < tkB X - tkA X then 2 else if tvX (ftX X) = 0 then 2 else if hasN Q (tvX (ftX X)) = true then 2 else if 6 ≤ Q.1 then 3 else 0 := by
  unfold foT
  rw [if_pos rfl, show (ftX X).2.1 (ftX X).2.2.2.1 = X.2.1 (tkA X) from rfl, if_pos hd]
  unfold foF
  rw [ft_len h hd]
theorem RDs.t1 {X : TX} {Q : RG} {M : MT} (hX : TXR X M) (hK : TK X M) (hne : ¬ (2 ≤ Q.1 ∧ X.1 ≤ tkA X)) (c : ¬ M.1 20 = 0) : RDs 0 X Q (nI (tkA X), fX' (ftX X) 1, Q) := by
  by_cases h : X.1 ≤ tkA X
  · exact RDs.ebad h (fun q => hne ⟨q.2, h⟩)
  · refine RDs.bad (by omega) ?_ (by decide)
    have d : ¬ dgB (X.2.1 (tkA X)) = true := fun q => c ((hK.tok hX).1.mpr ⟨by omega, q⟩)
    unfold foT
    rw [if_pos rfl, show (ftX X).2.1 (ftX X).2.2.2.1 = X.2.1 (tkA X) from rfl, if_neg d]
theorem RDs.t2 {X : TX} {Q : RG} (h : tkA X < X.1) (hd : dgB (X.2.1 (tkA X)) = true) (c : 2 < tkB X - tkA X ∨ tvX (ftX X) = 0 ∨ hasN Q (tvX (ftX X)) = true) : RDs 0 X Q (nI (tkA X), fX' (ftX X) 2, Q) := by
  refine RDs.bad h ?_ (by decide)
  rw [foT0 h hd]
  by_cases a : 2 < tkB X - tkA X
  · rw [if_pos a]
  · rw [if_neg a]
    by_cases b : tvX (ftX X) = 0
    · rw [if_pos b]
    · rw [if_neg b, if_pos (c.elim (fun q => absurd q a) (fun q => q.elim (fun q => absurd q b) id))]
theorem RDs.t3 {X : TX} {Q : RG} (h : tkA X < X.1) (hd : dgB (X.2.1 (tkA X)) = true) (a : ¬ 2 < tkB X - tkA X) (b : ¬ tvX (ftX X) = 0) (c : ¬ hasN Q (tvX (ftX X)) = true) (q6 : Q.1 = 6) : RDs 0 X Q (nI (tkA X), fX' (ftX X) 3, Q) := by
  refine RDs.bad h ?_ (by decide)
  rw [foT0 h hd, if_neg a, if_neg b, if_neg c, if_pos (by omega)]
theorem foT00 {X : TX} {Q : RG} (h : tkA X < X.1) (hd : dgB (X.2.1 (tkA X)) = true) (a : ¬ 2 < tkB X - tkA X) (b : ¬ tvX (ftX X) = 0) (c : ¬ hasN Q (tvX (ftX X)) = true) (q6 : Q.1 < 6) : foT (ftX X) Q 0 = 0 := by
  rw [foT0 h hd, if_neg a, if_neg b, if_neg c, if_neg (by omega)]
theorem foT1 (X : TX) (Q : RG) : foT (ftX X) Q 1 = if X.2.1 (tkA X) = 114 then 0 else if X.2.1 (tkA X) = 98 then 0 else 1 := rfl
theorem foT2 (X : TX) (Q : RG) : foT (ftX X) Q 2 = if X.2.1 (tkA X) = 59 then 0 else 1 := rfl
theorem RDs.s1 {X : TX} {Q : RG} {M : MT} (hX : TXR X M) (hK : TK X M) (c : ¬ M.1 20 = 114) (c2 : ¬ M.1 20 = 98) : RDs 1 X Q (nI (tkA X), fX' (ftX X) 1, Q) := by
  by_cases h : X.1 ≤ tkA X
  · exact RDs.ebad h (fun q => absurd q.1 (by decide))
  · refine RDs.bad (by omega) ?_ (by decide)
    rw [foT1, if_neg (fun q => c ((hK.tok hX).2.1.mpr ⟨by omega, q⟩)), if_neg (fun q => c2 ((hK.tok hX).2.2.1.mpr ⟨by omega, q⟩))]
theorem RDs.e1 {X : TX} {Q : RG} {M : MT} (hX : TXR X M) (hK : TK X M) (c : ¬ M.1 20 = 59) : RDs 2 X Q (nI (tkA X), fX' (ftX X) 1, Q) := by
  by_cases h : X.1 ≤ tkA X
  · exact RDs.ebad h (fun q => absurd q.1 (by decide))
  · refine RDs.bad (by omega) ?_ (by decide)
    rw [foT2, if_neg (fun q => c ((hK.tok hX).2.2.2.1.mpr ⟨by omega, q⟩))]
/-- the sense that a token tells -/
def seT (X : TX) : Int32 := if X.2.1 (tkA X) = 98 then 1 else 0
def nxX (X : TX) : TX := fX' (ftX X) 0
theorem RDs.n0 {X : TX} {Q : RG} {R : Int32 × TX × RG} (h : tkA X < X.1) (hte : X.2.2.2.2 ≤ X.1) (h2 : foT (ftX X) Q 0 = 0) (g : RDs 1 (nxX X) (taT (nxX X) Q 0) R) : RDs 0 X Q R := RDs.next h hte h2 g
theorem RDs.n1 {X : TX} {Q : RG} {R : Int32 × TX × RG} (h : tkA X < X.1) (hte : X.2.2.2.2 ≤ X.1) (h2 : foT (ftX X) Q 1 = 0) (g : RDs 2 (nxX X) (taT (nxX X) Q 1) R) : RDs 1 X Q R := RDs.next h hte h2 g
theorem RDs.n2 {X : TX} {Q : RG} {R : Int32 × TX × RG} (h : tkA X < X.1) (hte : X.2.2.2.2 ≤ X.1) (h2 : foT (ftX X) Q 2 = 0) (g : RDs 0 (nxX X) Q R) : RDs 2 X Q R := RDs.next h hte h2 g
theorem foT11 {X : TX} {Q : RG} (h : X.2.1 (tkA X) = 114 ∨ X.2.1 (tkA X) = 98) : foT (ftX X) Q 1 = 0 := by
  rw [foT1]
  rcases h with q | q
  · rw [if_pos q]
  · rw [q]
    decide
theorem foT22 {X : TX} {Q : RG} (h : X.2.1 (tkA X) = 59) : foT (ftX X) Q 2 = 0 := by
  rw [foT2, if_pos h]
theorem taT0 (X : TX) (Q : RG) : taT (nxX X) Q 0 = anR Q (tvX (nxX X)) := by
  unfold taT
  rw [if_pos rfl]
theorem taT1 (X : TX) (Q : RG) : taT (nxX X) Q 1 = slR Q (seT X) := by
  unfold taT
  rw [if_neg (by decide), if_pos rfl]
  rfl
theorem rcQ2 {X : TX} {Q : RG} (q6 : Q.1 < 6) : taT (nxX (nxX X)) (taT (nxX X) Q 0) 1 = (Q.1 + 1, upd Q.2.1 Q.1 (tvX (ftX X)), upd Q.2.2 Q.1 (seT (nxX X))) := by
  rw [taT1, taT0, show tvX (nxX X) = tvX (ftX X) from tvX_f _ _]
  unfold anR slR
  rw [if_pos q6, if_pos (by show 1 ≤ Q.1 + 1; omega)]
  rfl
theorem TD.ad {Q : RG} {M M2 : MT} {tv v : Int32} (hT : TD Q M) (hA : M2.2.2.1 5 = upd (M.2.2.1 5) Q.1 tv) (hS : M2.2.2.1 6 = upd (M.2.2.1 6) Q.1 v) (hv : ∃ s, s < 2 ∧ v = nI s) : TD (Q.1 + 1, upd Q.2.1 Q.1 tv, upd Q.2.2 Q.1 v) M2 := by
  intro j hj
  show M2.2.2.1 5 j = upd Q.2.1 Q.1 tv j ∧ M2.2.2.1 6 j = upd Q.2.2 Q.1 v j ∧ ∃ s, s < 2 ∧ upd Q.2.2 Q.1 v j = nI s
  rw [hA, hS]
  by_cases e : j = Q.1
  · subst e
    rw [pk_us, pk_us, pk_us, pk_us]
    exact ⟨rfl, rfl, hv⟩
  · have hj1 : j < Q.1 + 1 := hj
    rw [pk_un e, pk_un e, pk_un e, pk_un e]
    exact hT j (by omega)
section M44
variable {X : TX} {A S : Nat → Int32}
variable {l : Launch} {G : zGT} {h h0 : hpT} {sz : Nat} {Post : Option Value → hpT → Nat → Prop} {m r : Nat} {M M0 : MT} {Q : RG} {E : ET}
theorem RFm.c6 {M M1 : MT} {f : Nat → Int32} (h : RFm (mJ M 6 f) M1) : RFc M M1 := (((RFv.rf (M := M)).s6 f).rd h).c
theorem RFm.c5 {M M1 : MT} {f : Nat → Int32} (h : RFm (mJ M 5 f) M1) : RFc M M1 := (((RFv.rf (M := M)).s5 f).rd h).c
set_option maxHeartbeats 1000000 in
set_option maxRecDepth 100000 in
theorem t80_X6_readsContender (n : Nat) (hn : n < 6) (hM : WM G h0 h m M) (hX : TXR X M) (hK : TK X M) (hF : RFv M0 A (M.2.2.1 6) M) (hb : M.1 20 = 114 ∨ M.1 20 = 98) (k2 : ∀ h M1, WM G h0 h m M1 → RFv M0 A (upd (M.2.2.1 6) n (seT X)) M1 → TK (nxX X) M1 → ¬ M1.1 20 = 59 → Post (some (.int 1)) h sz) (k3 : ∀ h M1, WM G h0 h m M1 → RFv M0 A (upd (M.2.2.1 6) n (seT X)) M1 → TK (nxX (nxX X)) M1 → (tkA (nxX X) < (nxX X).1 ∧ (nxX X).2.1 (tkA (nxX X)) = 59) → Post (some (.int 0)) h sz) : V l G RX6 cX6_readsContender 2 (some .int) false 3 0 0 Post 80 [some (.ref m), some (.int (nI n))] [] h sz := by
  have ht : tkA X < X.1 ∧ True := ⟨hb.elim (fun q => ((hK.tok hX).2.1.mp q).1) (fun q => ((hK.tok hX).2.2.1.mp q).1), trivial⟩
  refine V_aload_n 80 dX6_readsContender_80 rfl ?_
  refine V_get 81 dX6_readsContender_81 fdX6_25 (by first | exact hM.1.1 | exact hM.1.2.1 | exact hM.1.2.2.1 | exact hM.1.2.2.2.1 | exact hM.1.2.2.2.2.1 | exact hM.1.2.2.2.2.2.1 | exact hM.1.2.2.2.2.2.2.1 | exact hM.1.2.2.2.2.2.2.2.1 | exact hM.1.2.2.2.2.2.2.2.2.1 | exact hM.1.2.2.2.2.2.2.2.2.2.1 | exact hM.1.2.2.2.2.2.2.2.2.2.2) rfl ?_
  refine V_iload_n 84 dX6_readsContender_84 rfl ?_
  refine V_aload_n 85 dX6_readsContender_85 rfl ?_
  refine V_get 86 dX6_readsContender_86 fdX6_176 (by first | exact hM.1.1 | exact hM.1.2.1 | exact hM.1.2.2.1 | exact hM.1.2.2.2.1 | exact hM.1.2.2.2.2.1 | exact hM.1.2.2.2.2.2.1 | exact hM.1.2.2.2.2.2.2.1 | exact hM.1.2.2.2.2.2.2.2.1 | exact hM.1.2.2.2.2.2.2.2.2.1 | exact hM.1.2.2.2.2.2.2.2.2.2.1 | exact hM.1.2.2.2.2.2.2.2.2.2.2) rfl ?_
  refine V_bipushv 89 (114) dX6_readsContender_89 (by decide) ?_
  refine V_icmp_ne 91 98 dX6_readsContender_91 rfl (fun c_91 => ?_) (fun c_91 => ?_)
  · have ev : (1 : Int32) = seT X := (if_pos ((hK.tok hX).2.2.1.mp (hb.resolve_left c_91)).2).symm
    refine V_iconstv 98 (1) dX6_readsContender_98 (by decide) ?_
    refine V_topi _ ev ?_
    refine V_ia6 99 n (nI_clamp (by omega)) dX6_readsContender_99 hM (vp_in_nI (by omega) (by decide)) (fun h hM => ?_)
    refine V_aload_n 100 dX6_readsContender_100 rfl ?_
    refine V_iv0 101 dX6_readsContender_101 kvX6_193 rfl (by first | exact hM.1.1 | exact hM.1.2.1 | exact hM.1.2.2.1 | exact hM.1.2.2.2.1 | exact hM.1.2.2.2.2.1 | exact hM.1.2.2.2.2.2.1 | exact hM.1.2.2.2.2.2.2.1 | exact hM.1.2.2.2.2.2.2.2.1 | exact hM.1.2.2.2.2.2.2.2.2.1 | exact hM.1.2.2.2.2.2.2.2.2.2.1 | exact hM.1.2.2.2.2.2.2.2.2.2.2) rfl rfl (c_X6_reads (X := nxX X) hM hX (ft_end X ht.1).2 hK.2.1 (fun h M1 hM hF1 hK2 => ?_))
    replace hF := (hF.s6 (upd (M.2.2.1 6) n (seT X))).rd hF1
    have hX2 : TXR (nxX X) M1 := TXR.fc (X := nxX X) hX (RFm.c6 hF1)
    refine V_aload_n 104 dX6_readsContender_104 rfl ?_
    refine V_get 105 dX6_readsContender_105 fdX6_176 (by first | exact hM.1.1 | exact hM.1.2.1 | exact hM.1.2.2.1 | exact hM.1.2.2.2.1 | exact hM.1.2.2.2.2.1 | exact hM.1.2.2.2.2.2.1 | exact hM.1.2.2.2.2.2.2.1 | exact hM.1.2.2.2.2.2.2.2.1 | exact hM.1.2.2.2.2.2.2.2.2.1 | exact hM.1.2.2.2.2.2.2.2.2.2.1 | exact hM.1.2.2.2.2.2.2.2.2.2.2) rfl ?_
    refine V_bipushv 108 (59) dX6_readsContender_108 (by decide) ?_
    refine V_icmp_eq 110 115 dX6_readsContender_110 rfl (fun c_110 => ?_) (fun c_110 => ?_)
    · have ht2 := (hK2.tok hX2).2.2.2.1.mp c_110
      refine V_aload_n 115 dX6_readsContender_115 rfl ?_
      refine V_iv0 116 dX6_readsContender_116 kvX6_193 rfl (by first | exact hM.1.1 | exact hM.1.2.1 | exact hM.1.2.2.1 | exact hM.1.2.2.2.1 | exact hM.1.2.2.2.2.1 | exact hM.1.2.2.2.2.2.1 | exact hM.1.2.2.2.2.2.2.1 | exact hM.1.2.2.2.2.2.2.2.1 | exact hM.1.2.2.2.2.2.2.2.2.1 | exact hM.1.2.2.2.2.2.2.2.2.2.1 | exact hM.1.2.2.2.2.2.2.2.2.2.2) rfl rfl (c_X6_reads (X := nxX (nxX X)) hM hX2 (ft_end (nxX X) ht2.1).2 hK2.2.1 (fun h M2 hM hF2 hK3 => ?_))
      refine V_iconstv 119 (0) dX6_readsContender_119 (by decide) ?_
      refine V_iret 120 dX6_readsContender_120 ?_
      exact k3 h M2 hM (hF.rd hF2) hK3 ht2
    · refine V_iconstv 113 (1) dX6_readsContender_113 (by decide) ?_
      refine V_iret 114 dX6_readsContender_114 ?_
      exact k2 h M1 hM hF hK2 c_110
  · have ev : (0 : Int32) = seT X := (if_neg (fun q => absurd (((hK.tok hX).2.1.mp c_91).2.symm.trans q) (by decide))).symm
    refine V_iconstv 94 (0) dX6_readsContender_94 (by decide) ?_
    refine V_goto 95 99 dX6_readsContender_95 rfl ?_
    refine V_topi _ ev ?_
    refine V_ia6 99 n (nI_clamp (by omega)) dX6_readsContender_99 hM (vp_in_nI (by omega) (by decide)) (fun h hM => ?_)
    refine V_aload_n 100 dX6_readsContender_100 rfl ?_
    refine V_iv0 101 dX6_readsContender_101 kvX6_193 rfl (by first | exact hM.1.1 | exact hM.1.2.1 | exact hM.1.2.2.1 | exact hM.1.2.2.2.1 | exact hM.1.2.2.2.2.1 | exact hM.1.2.2.2.2.2.1 | exact hM.1.2.2.2.2.2.2.1 | exact hM.1.2.2.2.2.2.2.2.1 | exact hM.1.2.2.2.2.2.2.2.2.1 | exact hM.1.2.2.2.2.2.2.2.2.2.1 | exact hM.1.2.2.2.2.2.2.2.2.2.2) rfl rfl (c_X6_reads (X := nxX X) hM hX (ft_end X ht.1).2 hK.2.1 (fun h M1 hM hF1 hK2 => ?_))
    replace hF := (hF.s6 (upd (M.2.2.1 6) n (seT X))).rd hF1
    have hX2 : TXR (nxX X) M1 := TXR.fc (X := nxX X) hX (RFm.c6 hF1)
    refine V_aload_n 104 dX6_readsContender_104 rfl ?_
    refine V_get 105 dX6_readsContender_105 fdX6_176 (by first | exact hM.1.1 | exact hM.1.2.1 | exact hM.1.2.2.1 | exact hM.1.2.2.2.1 | exact hM.1.2.2.2.2.1 | exact hM.1.2.2.2.2.2.1 | exact hM.1.2.2.2.2.2.2.1 | exact hM.1.2.2.2.2.2.2.2.1 | exact hM.1.2.2.2.2.2.2.2.2.1 | exact hM.1.2.2.2.2.2.2.2.2.2.1 | exact hM.1.2.2.2.2.2.2.2.2.2.2) rfl ?_
    refine V_bipushv 108 (59) dX6_readsContender_108 (by decide) ?_
    refine V_icmp_eq 110 115 dX6_readsContender_110 rfl (fun c_110 => ?_) (fun c_110 => ?_)
    · have ht2 := (hK2.tok hX2).2.2.2.1.mp c_110
      refine V_aload_n 115 dX6_readsContender_115 rfl ?_
      refine V_iv0 116 dX6_readsContender_116 kvX6_193 rfl (by first | exact hM.1.1 | exact hM.1.2.1 | exact hM.1.2.2.1 | exact hM.1.2.2.2.1 | exact hM.1.2.2.2.2.1 | exact hM.1.2.2.2.2.2.1 | exact hM.1.2.2.2.2.2.2.1 | exact hM.1.2.2.2.2.2.2.2.1 | exact hM.1.2.2.2.2.2.2.2.2.1 | exact hM.1.2.2.2.2.2.2.2.2.2.1 | exact hM.1.2.2.2.2.2.2.2.2.2.2) rfl rfl (c_X6_reads (X := nxX (nxX X)) hM hX2 (ft_end (nxX X) ht2.1).2 hK2.2.1 (fun h M2 hM hF2 hK3 => ?_))
      refine V_iconstv 119 (0) dX6_readsContender_119 (by decide) ?_
      refine V_iret 120 dX6_readsContender_120 ?_
      exact k3 h M2 hM (hF.rd hF2) hK3 ht2
    · refine V_iconstv 113 (1) dX6_readsContender_113 (by decide) ?_
      refine V_iret 114 dX6_readsContender_114 ?_
      exact k2 h M1 hM hF hK2 c_110
theorem seT_01 (X : TX) : ∃ s, s < 2 ∧ seT X = nI s := by
  unfold seT
  split
  · exact ⟨1, by omega, rfl⟩
  · exact ⟨0, by omega, rfl⟩
set_option maxHeartbeats 1000000 in
set_option maxRecDepth 100000 in
theorem c_X6_readsContender (hM : WM G h0 h m M) (hX : TXR X M) (hte : X.2.2.2.2 ≤ X.1) (hK : TK X M) (hT : TD Q M) (hq : Q.1 ≤ 6) (hne : ¬ (2 ≤ Q.1 ∧ X.1 ≤ tkA X)) (kb : ∀ (h : hpT) (M1 : MT) (X1 : TX) (Q1 : RG) (b : Nat), WM G h0 h m M1 → RFc M M1 → TK X1 M1 → TXR X1 M1 → (1 ≤ b ∧ b ≤ 3) → RDs 0 X Q (nI (tkA X1), fX' (ftX X1) (nI b), Q1) → Post (some (.int (nI b))) h sz) (ko : ∀ (h : hpT) (M1 : MT) (X1 : TX) (Q1 : RG), WM G h0 h m M1 → RFc M M1 → TK X1 M1 → TXR X1 M1 → X1.2.2.2.2 ≤ X1.1 → TD Q1 M1 → Q1.1 = Q.1 + 1 → Q1.1 ≤ 6 → (∀ R, RDs 0 X1 Q1 R → RDs 0 X Q R) → Post (some (.int 0)) h sz) : Cn l G yX6_readsContender cX6_readsContender 2 (some .int) 3 0 0 [.ref m, .int (nI Q.1)] h sz Post := by
  refine Cn.of RX6 false (by decide) rfl (fun q => by cases q) (Nat.le_of_ble_eq_true rfl) ?_
  refine V_aload_n 0 dX6_readsContender_0 rfl ?_
  refine V_get 1 dX6_readsContender_1 fdX6_176 (by first | exact hM.1.1 | exact hM.1.2.1 | exact hM.1.2.2.1 | exact hM.1.2.2.2.1 | exact hM.1.2.2.2.2.1 | exact hM.1.2.2.2.2.2.1 | exact hM.1.2.2.2.2.2.2.1 | exact hM.1.2.2.2.2.2.2.2.1 | exact hM.1.2.2.2.2.2.2.2.2.1 | exact hM.1.2.2.2.2.2.2.2.2.2.1 | exact hM.1.2.2.2.2.2.2.2.2.2.2) rfl ?_
  refine V_if_eq 4 9 dX6_readsContender_4 rfl (fun c_4 => ?_) (fun c_4 => ?_)
  · have t0 := (hK.tok hX).1.mp c_4
    have hd := hK.2.2.2.1 t0.1 t0.2
    have tB := tkB_le X
    have h40 := hX.2.1
    refine V_aload_n 9 dX6_readsContender_9 rfl ?_
    refine V_get 10 dX6_readsContender_10 fdX6_179 (by first | exact hM.1.1 | exact hM.1.2.1 | exact hM.1.2.2.1 | exact hM.1.2.2.2.1 | exact hM.1.2.2.2.2.1 | exact hM.1.2.2.2.2.2.1 | exact hM.1.2.2.2.2.2.2.1 | exact hM.1.2.2.2.2.2.2.2.1 | exact hM.1.2.2.2.2.2.2.2.2.1 | exact hM.1.2.2.2.2.2.2.2.2.2.1 | exact hM.1.2.2.2.2.2.2.2.2.2.2) rfl ?_
    refine V_topi (nI (tkB X - tkA X)) hd.2.1 ?_
    refine V_iconstv 13 (2) dX6_readsContender_13 (by decide) ?_
    refine V_icmp_gt 14 36 dX6_readsContender_14 rfl (fun c_14 => ?_) (fun c_14 => ?_)
    · have g2 : 2 < tkB X - tkA X ∨ tvX (ftX X) = 0 ∨ hasN Q (tvX (ftX X)) = true := Or.inl ((nI_ltI (a := 2) (by decide) (by omega)).mp c_14)
      refine V_iconstv 36 (2) dX6_readsContender_36 (by decide) ?_
      refine V_iret 37 dX6_readsContender_37 ?_
      exact kb h M X Q 2 hM RFc.rf hK hX (by omega) (RDs.t2 t0.1 t0.2 g2)
    · have e2 : ¬ 2 < tkB X - tkA X := fun q => c_14 ((nI_ltI (a := 2) (by decide) (by omega)).mpr q)
      refine V_aload_n 17 dX6_readsContender_17 rfl ?_
      refine V_get 18 dX6_readsContender_18 fdX6_182 (by first | exact hM.1.1 | exact hM.1.2.1 | exact hM.1.2.2.1 | exact hM.1.2.2.2.1 | exact hM.1.2.2.2.2.1 | exact hM.1.2.2.2.2.2.1 | exact hM.1.2.2.2.2.2.2.1 | exact hM.1.2.2.2.2.2.2.2.1 | exact hM.1.2.2.2.2.2.2.2.2.1 | exact hM.1.2.2.2.2.2.2.2.2.2.1 | exact hM.1.2.2.2.2.2.2.2.2.2.2) rfl ?_
      refine V_topi (tvX (ftX X)) (hd.2.2 (by omega)) ?_
      refine V_if_eq 21 36 dX6_readsContender_21 rfl (fun c_21 => ?_) (fun c_21 => ?_)
      · have g2 : 2 < tkB X - tkA X ∨ tvX (ftX X) = 0 ∨ hasN Q (tvX (ftX X)) = true := Or.inr (Or.inl c_21)
        refine V_iconstv 36 (2) dX6_readsContender_36 (by decide) ?_
        refine V_iret 37 dX6_readsContender_37 ?_
        exact kb h M X Q 2 hM RFc.rf hK hX (by omega) (RDs.t2 t0.1 t0.2 g2)
      · refine V_aload_n 24 dX6_readsContender_24 rfl ?_
        refine V_aload_n 25 dX6_readsContender_25 rfl ?_
        refine V_get 26 dX6_readsContender_26 fdX6_182 (by first | exact hM.1.1 | exact hM.1.2.1 | exact hM.1.2.2.1 | exact hM.1.2.2.2.1 | exact hM.1.2.2.2.2.1 | exact hM.1.2.2.2.2.2.1 | exact hM.1.2.2.2.2.2.2.1 | exact hM.1.2.2.2.2.2.2.2.1 | exact hM.1.2.2.2.2.2.2.2.2.1 | exact hM.1.2.2.2.2.2.2.2.2.2.1 | exact hM.1.2.2.2.2.2.2.2.2.2.2) rfl ?_
        refine V_topi (tvX (ftX X)) (hd.2.2 (by omega)) ?_
        refine V_iload_n 29 dX6_readsContender_29 rfl ?_
        refine V_iv2 30 dX6_readsContender_30 kvX6_189 rfl (by first | exact hM.1.1 | exact hM.1.2.1 | exact hM.1.2.2.1 | exact hM.1.2.2.2.1 | exact hM.1.2.2.2.2.1 | exact hM.1.2.2.2.2.2.1 | exact hM.1.2.2.2.2.2.2.1 | exact hM.1.2.2.2.2.2.2.2.1 | exact hM.1.2.2.2.2.2.2.2.2.1 | exact hM.1.2.2.2.2.2.2.2.2.2.1 | exact hM.1.2.2.2.2.2.2.2.2.2.2) rfl rfl (c_X6_isTold hM Q.1 hq (fun c_30 => ?_) (fun c_30 => ?_))
        · have g2 : 2 < tkB X - tkA X ∨ tvX (ftX X) = 0 ∨ hasN Q (tvX (ftX X)) = true := Or.inr (Or.inr ((hasN_iff _ _).mpr (c_30.elim (fun j hj => ⟨j, hj.1, (hT j hj.1).1.symm.trans hj.2⟩))))
          refine V_if_eq 33 38 dX6_readsContender_33 rfl (fun q => absurd q (by decide)) (fun _ => ?_)
          refine V_iconstv 36 (2) dX6_readsContender_36 (by decide) ?_
          refine V_iret 37 dX6_readsContender_37 ?_
          exact kb h M X Q 2 hM RFc.rf hK hX (by omega) (RDs.t2 t0.1 t0.2 g2)
        · have hN : ¬ hasN Q (tvX (ftX X)) = true := fun q => c_30 (((hasN_iff _ _).mp q).elim (fun j hj => ⟨j, hj.1, (hT j hj.1).1.trans hj.2⟩))
          refine V_if_eq 33 38 dX6_readsContender_33 rfl (fun _ => ?_) (fun q => absurd q (by decide))
          refine V_iload_n 38 dX6_readsContender_38 rfl ?_
          refine V_bipushv 39 (6) dX6_readsContender_39 (by decide) ?_
          refine V_icmp_ne 41 46 dX6_readsContender_41 rfl (fun c_41 => ?_) (fun c_41 => ?_)
          · have q6 : Q.1 < 6 := Nat.lt_of_le_of_ne hq (fun q => c_41 (by rw [q]; rfl))
            have hf0 : foT (ftX X) Q 0 = 0 := foT00 t0.1 t0.2 e2 c_21 hN q6
            refine V_aload_n 46 dX6_readsContender_46 rfl ?_
            refine V_get 47 dX6_readsContender_47 fdX6_22 (by first | exact hM.1.1 | exact hM.1.2.1 | exact hM.1.2.2.1 | exact hM.1.2.2.2.1 | exact hM.1.2.2.2.2.1 | exact hM.1.2.2.2.2.2.1 | exact hM.1.2.2.2.2.2.2.1 | exact hM.1.2.2.2.2.2.2.2.1 | exact hM.1.2.2.2.2.2.2.2.2.1 | exact hM.1.2.2.2.2.2.2.2.2.2.1 | exact hM.1.2.2.2.2.2.2.2.2.2.2) rfl ?_
            refine V_iload_n 50 dX6_readsContender_50 rfl ?_
            refine V_aload_n 51 dX6_readsContender_51 rfl ?_
            refine V_get 52 dX6_readsContender_52 fdX6_182 (by first | exact hM.1.1 | exact hM.1.2.1 | exact hM.1.2.2.1 | exact hM.1.2.2.2.1 | exact hM.1.2.2.2.2.1 | exact hM.1.2.2.2.2.2.1 | exact hM.1.2.2.2.2.2.2.1 | exact hM.1.2.2.2.2.2.2.2.1 | exact hM.1.2.2.2.2.2.2.2.2.1 | exact hM.1.2.2.2.2.2.2.2.2.2.1 | exact hM.1.2.2.2.2.2.2.2.2.2.2) rfl ?_
            refine V_topi (tvX (ftX X)) (hd.2.2 (by omega)) ?_
            refine V_ia5 55 Q.1 (nI_clamp (by omega)) dX6_readsContender_55 hM (vp_in_nI (by omega) (by decide)) (fun h hM => ?_)
            refine V_aload_n 56 dX6_readsContender_56 rfl ?_
            refine V_iv0 57 dX6_readsContender_57 kvX6_193 rfl (by first | exact hM.1.1 | exact hM.1.2.1 | exact hM.1.2.2.1 | exact hM.1.2.2.2.1 | exact hM.1.2.2.2.2.1 | exact hM.1.2.2.2.2.2.1 | exact hM.1.2.2.2.2.2.2.1 | exact hM.1.2.2.2.2.2.2.2.1 | exact hM.1.2.2.2.2.2.2.2.2.1 | exact hM.1.2.2.2.2.2.2.2.2.2.1 | exact hM.1.2.2.2.2.2.2.2.2.2.2) rfl rfl (c_X6_reads (X := nxX X) hM hX (ft_end X t0.1).2 hK.2.1 (fun h M1 hM hF1 hK1 => ?_))
            have hF := ((RFv.rf (M := M)).s5 (upd (M.2.2.1 5) Q.1 (tvX (ftX X)))).rd hF1
            have hX1 : TXR (nxX X) M1 := TXR.fc (X := nxX X) hX (RFm.c5 hF1)
            have hsm : M1.2.2.1 6 = M.2.2.1 6 := hF.2.2.2.2.2
            refine V_aload_n 60 dX6_readsContender_60 rfl ?_
            refine V_get 61 dX6_readsContender_61 fdX6_176 (by first | exact hM.1.1 | exact hM.1.2.1 | exact hM.1.2.2.1 | exact hM.1.2.2.2.1 | exact hM.1.2.2.2.2.1 | exact hM.1.2.2.2.2.2.1 | exact hM.1.2.2.2.2.2.2.1 | exact hM.1.2.2.2.2.2.2.2.1 | exact hM.1.2.2.2.2.2.2.2.2.1 | exact hM.1.2.2.2.2.2.2.2.2.2.1 | exact hM.1.2.2.2.2.2.2.2.2.2.2) rfl ?_
            refine V_bipushv 64 (114) dX6_readsContender_64 (by decide) ?_
            refine V_icmp_eq 66 80 dX6_readsContender_66 rfl (fun c_66 => ?_) (fun c_66 => ?_)
            · have hb : M1.1 20 = 114 ∨ M1.1 20 = 98 := by first | exact Or.inl c_66 | exact Or.inr c_75
              have ht1 : tkA (nxX X) < (nxX X).1 := hb.elim (fun q => ((hK1.tok hX1).2.1.mp q).1) (fun q => ((hK1.tok hX1).2.2.1.mp q).1)
              have hf1 : foT (ftX (nxX X)) (taT (nxX X) Q 0) 1 = 0 := foT11 (hb.elim (fun q => Or.inl ((hK1.tok hX1).2.1.mp q).2) (fun q => Or.inr ((hK1.tok hX1).2.2.1.mp q).2))
              have hte1 : (nxX X).2.2.2.2 ≤ (nxX X).1 := (ft_end X t0.1).2
              have hte2 : (nxX (nxX X)).2.2.2.2 ≤ (nxX (nxX X)).1 := (ft_end (nxX X) ht1).2
              refine t80_X6_readsContender (X := nxX X) (M0 := M) Q.1 q6 hM hX1 hK1 (by rw [hsm]; exact hF) hb (fun h M2 hM hF2 hK2 c59 => ?_) (fun h M2 hM hF2 hK3 ht2 => ?_)
              · exact kb h M2 (nxX (nxX X)) _ 1 hM hF2.c hK2 (TXR.fc (X := nxX (nxX X)) hX hF2.c) (by omega) (RDs.n0 t0.1 hte hf0 (RDs.n1 ht1 hte1 hf1 (RDs.e1 (TXR.fc (X := nxX (nxX X)) hX hF2.c) hK2 c59)))
              · rw [hsm] at hF2
                have eQ := rcQ2 (X := X) (Q := Q) q6
                exact ko h M2 (nxX (nxX (nxX X))) (taT (nxX (nxX X)) (taT (nxX X) Q 0) 1) hM hF2.c hK3 (TXR.fc (X := nxX (nxX (nxX X))) hX hF2.c) (ft_end (nxX (nxX X)) ht2.1).2 (by rw [eQ]; exact TD.ad hT hF2.2.2.2.2.1 hF2.2.2.2.2.2 (seT_01 _)) (by rw [eQ]) (by rw [eQ]; exact q6) (fun R hR => RDs.n0 t0.1 hte hf0 (RDs.n1 ht1 hte1 hf1 (RDs.n2 ht2.1 hte2 (foT22 ht2.2) hR)))
            · refine V_aload_n 69 dX6_readsContender_69 rfl ?_
              refine V_get 70 dX6_readsContender_70 fdX6_176 (by first | exact hM.1.1 | exact hM.1.2.1 | exact hM.1.2.2.1 | exact hM.1.2.2.2.1 | exact hM.1.2.2.2.2.1 | exact hM.1.2.2.2.2.2.1 | exact hM.1.2.2.2.2.2.2.1 | exact hM.1.2.2.2.2.2.2.2.1 | exact hM.1.2.2.2.2.2.2.2.2.1 | exact hM.1.2.2.2.2.2.2.2.2.2.1 | exact hM.1.2.2.2.2.2.2.2.2.2.2) rfl ?_
              refine V_bipushv 73 (98) dX6_readsContender_73 (by decide) ?_
              refine V_icmp_eq 75 80 dX6_readsContender_75 rfl (fun c_75 => ?_) (fun c_75 => ?_)
              · have hb : M1.1 20 = 114 ∨ M1.1 20 = 98 := by first | exact Or.inl c_66 | exact Or.inr c_75
                have ht1 : tkA (nxX X) < (nxX X).1 := hb.elim (fun q => ((hK1.tok hX1).2.1.mp q).1) (fun q => ((hK1.tok hX1).2.2.1.mp q).1)
                have hf1 : foT (ftX (nxX X)) (taT (nxX X) Q 0) 1 = 0 := foT11 (hb.elim (fun q => Or.inl ((hK1.tok hX1).2.1.mp q).2) (fun q => Or.inr ((hK1.tok hX1).2.2.1.mp q).2))
                have hte1 : (nxX X).2.2.2.2 ≤ (nxX X).1 := (ft_end X t0.1).2
                have hte2 : (nxX (nxX X)).2.2.2.2 ≤ (nxX (nxX X)).1 := (ft_end (nxX X) ht1).2
                refine t80_X6_readsContender (X := nxX X) (M0 := M) Q.1 q6 hM hX1 hK1 (by rw [hsm]; exact hF) hb (fun h M2 hM hF2 hK2 c59 => ?_) (fun h M2 hM hF2 hK3 ht2 => ?_)
                · exact kb h M2 (nxX (nxX X)) _ 1 hM hF2.c hK2 (TXR.fc (X := nxX (nxX X)) hX hF2.c) (by omega) (RDs.n0 t0.1 hte hf0 (RDs.n1 ht1 hte1 hf1 (RDs.e1 (TXR.fc (X := nxX (nxX X)) hX hF2.c) hK2 c59)))
                · rw [hsm] at hF2
                  have eQ := rcQ2 (X := X) (Q := Q) q6
                  exact ko h M2 (nxX (nxX (nxX X))) (taT (nxX (nxX X)) (taT (nxX X) Q 0) 1) hM hF2.c hK3 (TXR.fc (X := nxX (nxX (nxX X))) hX hF2.c) (ft_end (nxX (nxX X)) ht2.1).2 (by rw [eQ]; exact TD.ad hT hF2.2.2.2.2.1 hF2.2.2.2.2.2 (seT_01 _)) (by rw [eQ]) (by rw [eQ]; exact q6) (fun R hR => RDs.n0 t0.1 hte hf0 (RDs.n1 ht1 hte1 hf1 (RDs.n2 ht2.1 hte2 (foT22 ht2.2) hR)))
              · refine V_iconstv 78 (1) dX6_readsContender_78 (by decide) ?_
                refine V_iret 79 dX6_readsContender_79 ?_
                exact kb h M1 (nxX X) _ 1 hM hF.c hK1 hX1 (by omega) (RDs.n0 t0.1 hte hf0 (RDs.s1 hX1 hK1 c_66 c_75))
          · have q6 : Q.1 = 6 := (nI_eq (b := 6) (by omega) (by decide)).mp c_41
            refine V_iconstv 44 (3) dX6_readsContender_44 (by decide) ?_
            refine V_iret 45 dX6_readsContender_45 ?_
            exact kb h M X Q 3 hM RFc.rf hK hX (by omega) (RDs.t3 t0.1 t0.2 e2 c_21 hN q6)
  · refine V_iconstv 7 (1) dX6_readsContender_7 (by decide) ?_
    refine V_iret 8 dX6_readsContender_8 ?_
    exact kb h M X Q 1 hM RFc.rf hK hX (by omega) (RDs.t1 hX hK hne c_4)
end M44
