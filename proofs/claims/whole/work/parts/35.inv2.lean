theorem suN_ge {f : Nat → Nat} {i : Nat} : ∀ {n : Nat}, i < n → f i ≤ suN f n
  | 0, h => absurd h (Nat.not_lt_zero i)
  | n + 1, h => by
    rw [suN]
    by_cases e : i = n
    · rw [e]; omega
    · have := suN_ge (f := f) (i := i) (n := n) (by omega)
      omega
theorem cel (E : ET) {i k : Nat} {kk : Int32} (hi : i < 6) (hk : kk = nI k) (h8 : k < 8) : celE E (nI i) kk = eC E (8 * i + k) := by
  rw [hk]
  exact celE_nI E hi h8
def RS (Q : RG) (B : Nat) (X : Bool × ET) : Prop := PI Q B (if X.1 = true then 1 else 0) Q.1 X.2 ∧ HO B X.2
theorem RS.t {Q : RG} {B : Nat} {E : ET} (h : PI Q B 1 Q.1 E) (hh : HO B E) : RS Q B (true, E) := ⟨h, hh⟩
theorem RS.f {Q : RG} {B : Nat} {E : ET} (h : PI Q B 0 Q.1 E) (hh : HO B E) : RS Q B (false, E) := ⟨h, hh⟩
theorem HO.mono {B B1 : Nat} {E : ET} (hB : B ≤ B1) (h : HO B E) : HO B1 E := LC.mono hB h
theorem HO.of {B : Nat} {E E1 : ET} (h : HO B E) (hw : eW E1 = eW E) (hH : eH E1 = eH E) : HO B E1 := by
  unfold HO
  rw [hw, hH]
  exact h
theorem HO.h4 {B : Nat} {E : ET} (h : HO B E) (v : Int32) : HO B (eH' E (upd (eH E) 4 v)) := by
  unfold HO
  show LC (eW E) B (upd (eH E) 4 v 1) (upd (eH E) 4 v 2) (upd (eH E) 4 v 3)
  rw [pk_un (by decide), pk_un (by decide), pk_un (by decide)]
  exact h
theorem HO.h5 {B : Nat} {E : ET} (h : HO B E) (v : Int32) : HO B (eH' E (upd (eH E) 5 v)) := by
  unfold HO
  show LC (eW E) B (upd (eH E) 5 v 1) (upd (eH E) 5 v 2) (upd (eH E) 5 v 3)
  rw [pk_un (by decide), pk_un (by decide), pk_un (by decide)]
  exact h
theorem C4.no {E : ET} {B i : Nat} (h : ¬ eW E = 4) : C4 E B i := fun q => absurd q h
theorem C4.st {E : ET} {B i : Nat} (h : ¬ eC E (8 * i) = 1) : C4 E B i := fun _ q => absurd q h
theorem eC_s0 {E : ET} {i : Nat} (hi : i < 6) (v : Int32) : eC (setE E (nI i) 0 v) (8 * i) = v := by
  rw [show (0 : Int32) = nI 0 from rfl, eC_set E hi (by omega)]
  exact pk_us
theorem PI.outF {Q : RG} {B c i : Nat} {E : ET} (h : PI Q B c Q.1 E) {v : Int32} (hi : i < Q.1) (h0 : ¬ v = 0) (h1 : ¬ v = 1) : PI Q B c Q.1 (setE E (nI i) 0 v) := ((h.ex i).out hi h0 h1).fin (C4.st (by rw [eC_s0 (by have := h.1; omega)]; exact h1))
theorem PI.bhF {Q : RG} {B c i : Nat} {E : ET} (h : PI Q B (c + 1) Q.1 E) (hi : i < Q.1) (v : Int32) : PI Q B c Q.1 (bhE E (nI i) v) := ((h.ex i).bh hi v).fin (C4.st (by rw [eC_bh (by have := h.1; omega)]; decide))
theorem HO.bh {Q : RG} {B c e i : Nat} {E : ET} (h : PI Q B c e E) (hh : HO B E) (hi : i < Q.1) (v : Int32) : HO B (bhE E (nI i) v) := hh.of (eW_bh E (by have := h.1; omega) v) (eH_bh E (by have := h.1; omega) v)
theorem HO.st {B : Nat} {E : ET} (hh : HO B E) (w k v : Int32) : HO B (setE E w k v) := hh.of (eW_set _ _ _ _) (eH_set _ _ _ _)
section M35
variable {Q : RG} {B i : Nat} {E : ET}
theorem RS.gp (h : PI Q B 1 Q.1 E) (hh : HO B E) (hi : i < Q.1) : RS Q B (gpE Q E (nI i)) := by
  unfold gpE
  split
  · split
    · split
      · exact RS.f (h.bhF hi _) (HO.bh h hh hi _)
      · exact RS.f (h.mono (Nat.le_refl _) (by omega)) hh
    · exact RS.t (h.outF hi (by decide) (by decide)) (hh.st _ _ _)
  · exact RS.t h hh
theorem and1 (x : Int32) : ∃ s, s < 2 ∧ x &&& 1 = nI s := by
  obtain ⟨s, h1, h2⟩ := pk_andE x (m := 1) 1 rfl
  exact ⟨s, h1, h2⟩
theorem RS.pg (h : PI Q B 1 Q.1 E) (hh : HO B E) (hi : i < Q.1) (hw : eW E = 2) : RS Q B (pgE E (nI i)) := by
  unfold pgE
  have h1 : PI Q B 1 Q.1 (eH' E (upd (eH E) 4 (eH E 4 - 1))) := h
  have hh1 := hh.h4 (eH E 4 - 1)
  have hw1 : eW (eH' E (upd (eH E) 4 (eH E 4 - 1))) = 2 := hw
  generalize eH' E (upd (eH E) 4 (eH E 4 - 1)) = F at h1 hh1 hw1
  unfold pg1
  split
  · refine RS.f (h1.snd ?_ ?_) (hh1.of (eW_snd _ _ _ _ _ _ _) (eH_snd _ _ _ _ _ _ _))
    · obtain ⟨s, s1, s2⟩ := and1 (eH F 0)
      rw [s2]
      have e : (1 : Int32) - nI s = nI (1 - s) := pk_sub (a := 1) (b := s) (by omega)
      rw [e]
      exact two_s hi (by omega)
    · exact LCk (κ := 3) B _ _ (by omega) (Or.inr (Or.inr (Or.inl ⟨hw1, Or.inr rfl⟩)))
  · exact RS.t h1 hh1
theorem eW_gp (hi : i < 6) : eW (gpE Q E (nI i)).2 = eW E := by
  unfold gpE
  split
  · split
    · split
      · exact eW_bh E hi _
      · rfl
    · exact eW_set _ _ _ _
  · rfl
theorem RS.g2 {X : Bool × ET} (h : RS Q B X) (hi : i < Q.1) (hw : eW X.2 = 2) : RS Q B (go2 X (nI i)) := by
  obtain ⟨b, F⟩ := X
  unfold go2
  cases b
  · rw [if_pos (show b2i false = 0 from rfl)]
    exact h
  · rw [if_neg (show ¬ b2i true = 0 by decide)]
    exact RS.pg h.1 h.2 hi hw
theorem RS.ry (h : PI Q B 1 Q.1 E) (hh : HO B E) (hi : i < Q.1) (hw : eW E = 2) : RS Q B (ryE Q E (nI i)) := by
  have h6 := h.1
  have i6 : i < 6 := by omega
  have w4 : ¬ eW E = 4 := by rw [hw]; decide
  unfold ryE
  split
  · split
    · rename_i c
      rw [cel E (k := 0) (kk := 0) i6 rfl (by omega)] at c
      have c0 : eC E (8 * i) = 1 := c
      refine RS.f ?_ ?_
      · have e1 : eC (setE E (nI i) 5 (celE E (nI i) 5 + 1)) = upd (eC E) (8 * i + 5) (eC E (8 * i + 5) + 1) := by
          rw [cel E (k := 5) (kk := 5) i6 rfl (by omega)]
          exact eC_set E (c := 5) i6 (by omega) _
        have A : PI Q B (if eC E (8 * i + 5) = 1 then 2 else 0) i (setE E (nI i) 5 (celE E (nI i) 5 + 1)) := (h.ex i).set (k := 5) rfl hi (by omega) (by
          rw [cel E (k := 5) (kk := 5) i6 rfl (by omega)]
          unfold coN
          rw [if_pos hw, if_pos hw, pk_un (by omega), c0, pk_us, if_neg (show ¬ (1 : Int32) = 0 by decide), if_neg (show ¬ (1 : Int32) = 0 by decide)]
          by_cases t1 : eC E (8 * i + 5) = 1
          · rw [if_pos t1, t1]
            decide
          · rw [if_neg t1, if_neg (c := (1 : Int32) = 1 ∧ eC E (8 * i + 5) = 1) (fun q => t1 q.2)]
            split <;> omega) (fun q => absurd q (by decide)) (fun _ => Or.inl hw) (fun q => absurd q (by decide)) (fun q => absurd rfl q)
        unfold ry1
        rw [cel _ (k := 5) (kk := 5) i6 rfl (by omega), e1, pk_us]
        split
        · rename_i t2
          have t1 : eC E (8 * i + 5) = 1 := by
            have := congrArg (· - 1) t2
            simpa using this
          rw [if_pos t1] at A
          have A3 := A.setN 3 (kk := 3) (v := celE (setE E (nI i) 5 (celE E (nI i) 5 + 1)) (nI i) 3 + 1) rfl hi (by omega) (by omega) (by omega) (by omega) (fun _ => by rw [eW_set, hw]; decide)
          refine (A3.sp hi (by rw [eW_set, eW_set]; exact hw) ?_ (Nat.le_add_right _ _)).fin (C4.no ?_)
          · rw [show (3 : Int32) = nI 3 from rfl, eC_set _ i6 (by omega), pk_un (by omega), e1, pk_un (by omega)]
            exact c0
          · rw [eW_sp Q _ i6, eW_set, eW_set]
            exact w4
        · exact ((A.mono (Nat.le_refl _) (Nat.zero_le _))).fin (C4.no (by rw [eW_set]; exact w4))
      · unfold ry1
        split
        · exact hh.of (by rw [eW_sp Q _ i6, eW_set, eW_set]) (by rw [eH_sp Q _ i6, eH_set, eH_set])
        · exact hh.st _ _ _
    · exact RS.f (h.mono (Nat.le_refl _) (by omega)) hh
  · exact RS.t h hh
theorem PI.set5 {c : Nat} (h : PI Q B c i E) (hi : i < Q.1) (hw : eW E = 3) (v : Int32) : PI Q B c i (setE E (nI i) 5 v) := h.set (k := 5) rfl hi (by omega) (by
    have e : coN (eW E) (upd (eC E) (8 * i + 5) v) i = coN (eW E) (eC E) i := by
      unfold coN
      have w2 : ¬ eW E = 2 := by rw [hw]; decide
      rw [if_neg w2, if_neg w2, pk_un (by omega)]
    rw [e]
    exact Nat.le_refl _) (fun q => absurd q (by decide)) (fun _ => Or.inr hw) (fun q => absurd q (by decide)) (fun q => absurd rfl q)
theorem RS.mk (h : PI Q B 1 Q.1 E) (hh : HO B E) (hi : i < Q.1) (hw : eW E = 3) : RS Q B (mkE E (nI i)) := by
  have h6 := h.1
  have i6 : i < 6 := by omega
  have w4 : ¬ eW E = 4 := by rw [hw]; decide
  have hE : RS Q B (false, E) := RS.f (h.mono (Nat.le_refl _) (by omega)) hh
  have hO : RS Q B (false, setE E (nI i) 0 2) := RS.f ((h.outF hi (by decide) (by decide)).mono (Nat.le_refl _) (by omega)) (hh.st _ _ _)
  unfold mkE
  split
  · split
    · split
      · unfold tsE
        split
        · exact hO
        · split
          · exact hO
          · unfold ts2
            have A := (h.ex i).setN 2 (kk := 2) (v := celE E (nI i) 6) rfl hi (by omega) (by omega) (by omega) (by omega)
            have A2 := A.setN 3 (kk := 3) (v := celE (setE E (nI i) 2 (celE E (nI i) 6)) (nI i) 3 + 1) rfl hi (by omega) (by omega) (by omega) (by omega) (fun _ => by rw [eW_set, hw]; decide)
            have A3 := A2.set5 hi (by rw [eW_set, eW_set]; exact hw) 0
            refine RS.f ((A3.sr hi (k := 4) ?_).fin (C4.no ?_)) (hh.of ?_ ?_)
            · rw [eW_set, eW_set, eW_set]
              exact LCk (κ := 4) B _ _ (by omega) (Or.inr (Or.inr (Or.inr (Or.inl ⟨hw, Or.inl rfl⟩))))
            · rw [eW_sr, eW_set, eW_set, eW_set]; exact w4
            · rw [eW_sr, eW_set, eW_set, eW_set]
            · rw [eH_sr, eH_set, eH_set, eH_set]
      · exact hE
    · split
      · unfold tfE
        split
        · exact RS.f (h.bhF hi _) (HO.bh h hh hi _)
        · have A := (h.ex i).setN 6 (kk := 6) (v := eH E 2) rfl hi (by omega) (by omega) (by omega) (by omega)
          have A3 := A.set5 hi (by rw [eW_set]; exact hw) 1
          refine RS.f ((A3.sr hi (k := 5) ?_).fin (C4.no ?_)) (hh.of ?_ ?_)
          · rw [eW_set, eW_set]
            exact LCk (κ := 5) B _ _ (by omega) (Or.inr (Or.inr (Or.inr (Or.inl ⟨hw, Or.inr rfl⟩))))
          · rw [eW_sr, eW_set, eW_set]; exact w4
          · rw [eW_sr, eW_set, eW_set]
          · rw [eH_sr, eH_set, eH_set]
      · exact hE
  · exact RS.t h hh
theorem RS.o1 {X : Bool × ET} (h : RS Q B X) : RS Q B (to1 X) := ⟨h.1, h.2.h4 _⟩
theorem RS.mono {X : Bool × ET} {B1 : Nat} (hB : B ≤ B1) (h : RS Q B X) : RS Q B1 X := ⟨h.1.mono hB (Nat.le_refl _), h.2.mono hB⟩
theorem RS.t2 (h : PI Q B 1 Q.1 E) (hh : HO B E) (hi : i < Q.1) (pa ma : Int32) : RS Q B (tg2 E (nI i) pa ma) := by
  have hE : RS Q B (false, E) := RS.f (h.mono (Nat.le_refl _) (by omega)) hh
  have hO : RS Q B (true, setE E (nI i) 0 2) := RS.t (h.outF hi (by decide) (by decide)) (hh.st _ _ _)
  unfold tg2
  split
  · exact hO
  · split
    · split
      · exact hE
      · exact hO
    · exact hE
theorem RS.to (h : PI Q B 1 Q.1 E) (hh : HO B E) (hi : i < Q.1) (hw : eW E = 4) : RS Q (B + 1) (toE Q E (nI i)) := by
  have h6 := h.1
  have i6 : i < 6 := by omega
  have hE : RS Q B (false, E) := RS.f (h.mono (Nat.le_refl _) (by omega)) hh
  unfold toE
  split
  · rename_i c
    rw [cel E (k := 0) (kk := 0) i6 rfl (by omega)] at c
    have c0 : eC E (8 * i) = 1 := c
    obtain ⟨⟨p, hp, hp3⟩, -⟩ := h.2.2.2.2.2.1 i hi (by omega) hw c0
    split
    · unfold tcE
      refine RS.o1 ?_
      split
      · exact (RS.f (h.bhF hi _) (HO.bh h hh hi _)).mono (by omega)
      · rw [cel E (k := 3) (kk := 3) i6 rfl (by omega), hp3]
        have A := ((h.ex i).mono (B1 := B + 1) (by omega) (Nat.le_refl _)).setN 3 (kk := 3) (v := nI p + 1) rfl hi (by omega) (by omega) (by omega) (by omega) (fun _ => by rw [hw]; decide)
        have D := A.dr hi (by rw [eW_set]; exact hw) ⟨p + 1, by omega, by rw [show (3 : Int32) = nI 3 from rfl, eC_set E i6 (by omega), pk_us, nI_1]⟩
        exact RS.f (D.1.fin D.2.1) ((hh.mono (by omega)).of (by rw [D.2.2.1, eW_set]) (by rw [D.2.2.2, eH_set]))
    · refine RS.o1 (RS.mono (B := B) (by omega) ?_)
      unfold tgE tg1
      split
      · split
        · exact RS.t (E := eH' E (upd (eH E) 5 0)) h (hh.h5 0)
        · exact RS.t2 h hh hi _ _
      · exact RS.t2 h hh hi _ _
  · split
    · exact RS.o1 (hE.mono (by omega))
    · exact RS.o1 ((RS.t h hh).mono (by omega))
theorem RS.cr (h : PI Q B 1 Q.1 E) (hh : HO B E) (hi : i < Q.1) : RS Q B (crE E (nI i)) := by
  have h6 := h.1
  have i6 : i < 6 := by omega
  unfold crE cr2 cr3
  have A := (h.ex i).out hi (v := 4) (by decide) (by decide)
  have A2 := A.setN 4 (kk := 4) (v := eH (setE E (nI i) 0 4) 2) rfl hi (by omega) (by omega) (by omega) (by omega)
  obtain ⟨s, s1, s2⟩ := and1 (eH (setE (setE E (nI i) 0 4) (nI i) 4 (eH (setE E (nI i) 0 4) 2)) 0)
  have A3 := A2.set (c1 := 1) (k := 1) (kk := 1) (v := eH (setE (setE E (nI i) 0 4) (nI i) 4 (eH (setE E (nI i) 0 4) 2)) 0 &&& 1) rfl hi (by omega) (by
    rw [coN_eq (C := upd (eC (setE (setE E (nI i) 0 4) (nI i) 4 (eH (setE E (nI i) 0 4) 2))) (8 * i + 1) _) (D := eC (setE (setE E (nI i) 0 4) (nI i) 4 (eH (setE E (nI i) 0 4) 2))) (pk_un (by omega)) (pk_un (by omega))]
    exact Nat.le_refl _) (fun _ => ⟨s, s1, s2⟩) (fun q => absurd q (by decide)) (fun q => absurd q (by decide)) (fun q => absurd rfl q)
  refine RS.t (A3.fin (C4.st ?_)) (((hh.st _ _ _).st _ _ _).st _ _ _)
  rw [show (1 : Int32) = nI 1 from rfl, eC_set _ i6 (by omega), pk_un (by omega), show (4 : Int32) = nI 4 from rfl, eC_set _ i6 (by omega), pk_un (by omega), ← show (4 : Int32) = nI 4 from rfl, eC_s0 i6]
  decide
theorem RS.go (h : PI Q B 1 Q.1 E) (hh : HO B E) (hi : i < Q.1) : RS Q (B + 1) (goE Q E (nI i)) := by
  have h6 := h.1
  obtain ⟨κ, hκ, hk, hd, -⟩ := id hh
  have nk : ∀ a, 1 ≤ a ∧ a ≤ 7 → (eH E 1 = nI a ↔ κ = a) := fun a ha => by rw [hk]; exact nI_eq (by omega) (by omega)
  have n1 : eH E 1 = 1 ↔ κ = 1 := nk 1 (by omega)
  have n2 : eH E 1 = 2 ↔ κ = 2 := nk 2 (by omega)
  have n3 : eH E 1 = 3 ↔ κ = 3 := nk 3 (by omega)
  have n4 : eH E 1 = 4 ↔ κ = 4 := nk 4 (by omega)
  have n5 : eH E 1 = 5 ↔ κ = 5 := nk 5 (by omega)
  have n6 : eH E 1 = 6 ↔ κ = 6 := nk 6 (by omega)
  unfold goE
  by_cases c1 : κ = 1
  · rw [if_pos (n1.mpr c1)]
    exact (RS.gp h hh hi).mono (by omega)
  · rw [if_neg (fun q => c1 (n1.mp q))]
    by_cases c2 : κ = 2
    · rw [if_pos (n2.mpr c2)]
      have w2 : eW E = 2 := by rcases hd with q | q | q | q | q <;> first | omega | exact q.1
      exact ((RS.gp h hh hi).g2 hi (by rw [eW_gp (by omega)]; exact w2)).mono (by omega)
    · rw [if_neg (fun q => c2 (n2.mp q))]
      by_cases c3 : κ = 3
      · rw [if_pos (n3.mpr c3)]
        have w2 : eW E = 2 := by rcases hd with q | q | q | q | q <;> first | omega | exact q.1
        exact (RS.ry h hh hi w2).mono (by omega)
      · rw [if_neg (fun q => c3 (n3.mp q))]
        by_cases c4 : κ = 4
        · rw [if_pos (n4.mpr c4)]
          have w2 : eW E = 3 := by rcases hd with q | q | q | q | q <;> first | omega | exact q.1
          exact (RS.mk h hh hi w2).mono (by omega)
        · rw [if_neg (fun q => c4 (n4.mp q))]
          by_cases c5 : κ = 5
          · rw [if_pos (n5.mpr c5)]
            have w2 : eW E = 3 := by rcases hd with q | q | q | q | q <;> first | omega | exact q.1
            exact (RS.mk h hh hi w2).mono (by omega)
          · rw [if_neg (fun q => c5 (n5.mp q))]
            by_cases c6 : κ = 6
            · rw [if_pos (n6.mpr c6)]
              have w2 : eW E = 4 := by rcases hd with q | q | q | q | q <;> first | omega | exact q.1
              exact RS.to h hh hi w2
            · rw [if_neg (fun q => c6 (n6.mp q))]
              exact (RS.cr h hh hi).mono (by omega)
theorem PI.d3 {X : Bool × ET} (h : RS Q B X) (hi : i < Q.1) (x : Int32) : PI Q B 0 Q.1 (dl3 X x (nI i)) := by
  obtain ⟨b, F⟩ := X
  cases b
  · rw [dl3_f]
    exact h.1
  · rw [dl3_t]
    unfold dl4
    obtain ⟨s, s1, s2⟩ := and1 x
    exact PI.snd (c := 0) h.1 (by rw [s2]; exact two_s hi s1) h.2
theorem PI.d2 (h : PI Q B 1 Q.1 E) (hh : HO B E) (hi : i < Q.1) (x : Int32) : PI Q (B + 1) 0 Q.1 (dl2 Q E x (nI i)) := by
  unfold dl2
  split
  · exact h.mono (by omega) (by omega)
  · exact PI.d3 (RS.go h hh hi) hi x
theorem PI.d1 (h : PI Q B 1 Q.1 E) (hh : HO B E) (hi : i < Q.1) (x : Int32) : PI Q (B + 1) 0 Q.1 (dl1 Q E x (nI i)) := by
  unfold dl1
  split
  · exact PI.d2 (h.outF hi (by decide) (by decide)) (hh.st _ _ _) hi x
  · exact PI.d2 h hh hi x
theorem tk_H (E : ET) (p w : Nat) (hw : w < 6) : eH (tkE E p) w = eL E (6 * p + w) := by
  show va_cpy (eL E) (eH E) (6 * p) 0 6 w = _
  rw [pk_cpy_in (by omega) (by omega)]
  rfl
theorem PI.tk (h : PI Q B 0 Q.1 E) {p : Nat} (hp : p < eN E) : PI Q B 1 Q.1 (tkE E p) ∧ HO B (tkE E p) := by
  obtain ⟨h1, h2, h3, hl, h5, h6, h7⟩ := h
  refine ⟨⟨h1, h2, h3, fun k hk => ?_, h5, h6, ?_⟩, ?_⟩
  · have hk2 : k < eN E - 1 := hk
    have g : ∀ j, j < 6 → eL (tkE E p) (6 * k + j) = eL E (6 * (if p ≤ k then k + 1 else k) + j) := by
      intro j hj
      show va_cpy (eL E) (eL E) (6 * p + 6) (6 * p) (6 * (eN E - 1 - p)) (6 * k + j) = _
      by_cases e : p ≤ k
      · rw [if_pos e, pk_cpy_in (by omega) (by omega)]
        congr 1
        omega
      · rw [if_neg e, pk_cpy_out (by omega)]
    have g0 := g 0 (by omega)
    rw [Nat.add_zero, Nat.add_zero] at g0
    rw [g0, g 1 (by omega), g 2 (by omega), g 3 (by omega)]
    exact hl _ (by split <;> omega)
  · show eN E - 1 + suN (coN (eW E) (eC E)) Q.1 + 1 ≤ limN Q E
    omega
  · unfold HO
    rw [tk_H E p 1 (by omega), tk_H E p 2 (by omega), tk_H E p 3 (by omega)]
    exact (hl p hp).2
/-- an election that is begun -/
def Inv (Q : RG) (B : Nat) (E : ET) : Prop := PI Q B 0 Q.1 E
theorem bsy_p {E : ET} {x : Int32} (h : bsy E x = true) : fiN (onB E x) (eN E) < eN E := by simpa [bsy] using h
theorem Inv.dl (h : Inv Q B E) {j : Nat} (hj : j < 2 * Q.1) : Inv Q (B + 1) (dlE Q E (nI j)) := by
  unfold dlE
  by_cases hb : bsy E (nI j) = true
  · rw [if_pos hb, rcv_nI h.1.2 hj]
    obtain ⟨a, b⟩ := PI.tk h (bsy_p hb)
    exact PI.d1 a b (rcI_lt (by have := h.1; omega)) _
  · rw [if_neg hb]
    exact PI.mono (by omega) (by omega) h
theorem Inv.JC : JC Q (Inv Q) := by
  intro b E hb h
  refine ⟨fun hn => ?_, fun j hj hbs => ⟨?_, Inv.dl h hj⟩⟩
  · obtain ⟨j, j1, j2⟩ := (h.2.2.2.1 0 hn).1
    refine ⟨j, j1, ?_⟩
    unfold bsy
    refine decide_eq_true ?_
    by_cases c : fiN (onB E (nI j)) (eN E) < eN E
    · exact c
    · exact absurd (by unfold onB; exact decide_eq_true j2) (fiN_ge c 0 hn)
  · have hp := bsy_p hbs
    obtain ⟨A, H⟩ := PI.tk h hp
    obtain ⟨κ, hκ, hk, hd, h6⟩ := id H
    have ri : rcI Q.1 j < Q.1 := rcI_lt (by have := h.1; omega)
    refine ⟨κ, hκ, (tk_H E _ 1 (by omega)).symm.trans hk, fun q => ⟨?_, fun _ hs ht => ?_⟩, fun q => ?_, fun q => ⟨?_, fun hs => ?_⟩⟩
    · rcases hd with z | z | z | z | z <;> first | omega | exact z.1
    · have w2 : eW (tkE E (fiN (onB E (nI j)) (eN E))) = 2 := by rcases hd with z | z | z | z | z <;> first | omega | exact z.1
      have t1 : eC (tkE E (fiN (onB E (nI j)) (eN E))) (8 * rcI Q.1 j + 5) = 1 := by
        have := congrArg (· - 1) ht
        simpa using this
      have e : coN (eW (tkE E (fiN (onB E (nI j)) (eN E)))) (eC (tkE E (fiN (onB E (nI j)) (eN E)))) (rcI Q.1 j) = 1 := by
        unfold coN
        rw [if_pos w2, hs, t1, if_neg (by decide), if_pos ⟨rfl, rfl⟩]
      have s := suN_ge (f := coN (eW (tkE E (fiN (onB E (nI j)) (eN E)))) (eC (tkE E (fiN (onB E (nI j)) (eN E))))) ri
      have l := A.2.2.2.2.2.2
      have n6 := A.1
      unfold limN at l
      rw [if_pos w2] at l
      omega
    · rcases hd with z | z | z | z | z <;> first | omega | exact z.1
    · rcases A.2.1 with z | z | z | z <;> rw [z] <;> decide
    · have w4 : eW (tkE E (fiN (onB E (nI j)) (eN E))) = 4 := by rcases hd with z | z | z | z | z <;> first | omega | exact z.1
      obtain ⟨⟨p, p1, p2⟩, a, a1, a2⟩ := A.2.2.2.2.2.1 _ ri (by omega) w4 hs
      obtain ⟨⟨b2, b3, b4⟩, q2, q3, q4⟩ := h6 q
      obtain ⟨a0, x1, x2⟩ := (A.2.2.2.2.1 _ ri).2.2.1 w4
      obtain ⟨b0, y1, y2, y3⟩ := A.2.2.1 w4
      exact ⟨p, q2, a, b2, a0, b0, by omega, by omega, a1, b3, p2, q4, a2, b4, x1, x2, y1, y2, y3⟩
end M35
