def frc {α : Type} (n : Nat) (k : Nat → α) : α := match n with
  | 0 => k 0
  | m + 1 => k (Nat.succ m)
theorem frc_eq {α : Type} (n : Nat) (k : Nat → α) : frc n k = k n := by cases n <;> rfl
def nxt (d : Nat) (a : Bool) (b : Nat → Bool) : Bool := match d with
  | 0 => a
  | i + 1 => b i
def dgC (c j : Nat) : Nat := c / 8 ^ j % 8
def encN (s : Nat → Nat) : Nat := s 0 + 8 * (s 1 + 8 * (s 2 + 8 * (s 3 + 8 * (s 4 + 8 * s 5))))
theorem SB.dg (c : Nat) : SB (dgC c) := fun _ => Nat.mod_lt _ (by decide)
theorem dg_enc {s : Nat → Nat} (h : SB s) {j : Nat} (hj : j < 6) : dgC (encN s) j = s j := by
  have h0 := h 0
  have h1 := h 1
  have h2 := h 2
  have h3 := h 3
  have h4 := h 4
  have h5 := h 5
  unfold dgC encN
  match j, hj with
  | 0, _ => show _ / 1 % 8 = _; omega
  | 1, _ => show _ / 8 % 8 = _; omega
  | 2, _ => show _ / 64 % 8 = _; omega
  | 3, _ => show _ / 512 % 8 = _; omega
  | 4, _ => show _ / 4096 % 8 = _; omega
  | 5, _ => show _ / 32768 % 8 = _; omega
  | q + 6, hq => omega
theorem SE.enc {g : Nat → Int32} {n : Nat} {s : Nat → Nat} (h : SE g n s) (hb : SB s) (hn : n ≤ 6) : SE g n (dgC (encN s)) := fun j hj => by
  rw [dg_enc hb (by omega)]
  exact h j hj
/-- all ways to sit -/
def sitL (n : Nat) (P : Nat → Nat → Nat → Nat → Bool) : Nat → Nat → Nat → Nat → Nat → Nat → Bool
  | 0, _, _, _, _, _ => false
  | f + 1, c, l, mo, su, w =>
    frc (ltS (dgC c) n n 0 0) fun its =>
    frc (cond (Nat.blt its l) its l) fun l1 =>
    frc (cond (Nat.blt mo its) its mo) fun mo1 =>
    frc (su + its) fun su1 =>
    frc (w + 1) fun w1 =>
    nxt (dnI (dgC c) (n - 1)) (P l1 mo1 su1 w1) (fun i => frc (encN (nsE (dgC c) n i)) fun c1 => sitL n P f c1 l1 mo1 su1 w1)
theorem sitL_s (n : Nat) (P : Nat → Nat → Nat → Nat → Bool) (f c l mo su w : Nat) : sitL n P (f + 1) c l mo su w = nxt (dnI (dgC c) (n - 1)) (P (cond (Nat.blt (ltS (dgC c) n n 0 0) l) (ltS (dgC c) n n 0 0) l) (cond (Nat.blt mo (ltS (dgC c) n n 0 0)) (ltS (dgC c) n n 0 0) mo) (su + ltS (dgC c) n n 0 0) (w + 1)) (fun i => sitL n P f (encN (nsE (dgC c) n i)) (cond (Nat.blt (ltS (dgC c) n n 0 0) l) (ltS (dgC c) n n 0 0) l) (cond (Nat.blt mo (ltS (dgC c) n n 0 0)) (ltS (dgC c) n n 0 0) mo) (su + ltS (dgC c) n n 0 0) (w + 1)) := by
  simp only [sitL, frc_eq]
def sitP (n l mo su w : Nat) : Bool := decide (nI l = sitR n 0 ∧ nI mo = sitR n 1 ∧ 0 < Nat.gcd su w ∧ nI (su / Nat.gcd su w) = sitR n 2 ∧ nI (w / Nat.gcd su w) = sitR n 3)
def idC : Nat := 181896
theorem sit2 : sitL 2 (sitP 2) 800 idC 1000 0 0 0 = true := by decide +kernel
theorem sit3 : sitL 3 (sitP 3) 800 idC 1000 0 0 0 = true := by decide +kernel
theorem sit4 : sitL 4 (sitP 4) 800 idC 1000 0 0 0 = true := by decide +kernel
theorem sit5 : sitL 5 (sitP 5) 800 idC 1000 0 0 0 = true := by decide +kernel
theorem sit6 : sitL 6 (sitP 6) 800 idC 1000 0 0 0 = true := by decide +kernel
theorem sitAll {n : Nat} (h : 2 ≤ n ∧ n ≤ 6) : sitL n (sitP n) 800 idC 1000 0 0 0 = true := by
  rcases (show n = 2 ∨ n = 3 ∨ n = 4 ∨ n = 5 ∨ n = 6 by omega) with q | q | q | q | q <;> subst q
  · exact sit2
  · exact sit3
  · exact sit4
  · exact sit5
  · exact sit6
theorem REL.j8 {B : Nat} {X : TX} {Q : RG} {E : ET} {nx hs : Nat} {K : Nat → ET} {M : MT} (h : REL B X Q E nx hs K M) (g : Nat → Int32) : REL B X Q E nx hs K (mJ M 8 g) := by
  have e : ∀ k, ¬ k = 8 → (mJ M 8 g).2.2.1 k = M.2.2.1 k := fun k hk => va_up_ne _ _ hk
  exact ⟨h.1.of rfl rfl (e 4 (by decide)), h.2.1.of rfl (e 1 (by decide)) (e 2 (by decide)), h.2.2.of h.2.1.2.1 rfl (fun q _ => by rw [e 3 (by decide)])⟩
section M48
variable {n : Nat} {P : Nat → Nat → Nat → Nat → Bool}
variable {B nx hs : Nat} {X : TX} {K : Nat → ET}
variable {l : Launch} {G : zGT} {h h0 : hpT} {sz : Nat} {Post : Option Value → hpT → Nat → Prop} {m r : Nat} {M M0 : MT} {Q : RG} {E : ET}
set_option maxHeartbeats 1000000 in
set_option maxRecDepth 100000 in
theorem lp_X6_sit {y : Int32} (hn : 2 ≤ n ∧ n ≤ 6) (hn0 : M.1 0 = nI n) (k : ∀ (h : hpT) (g : Nat → Int32) (le mo su w : Nat) (v7 : Int32), WM G h0 h m (mJ M 8 g) → P le mo su w = true → le ≤ 1000 → mo ≤ 36 → su ≤ 36 * w → w ≤ 1000 → V l G RX6 cX6_sit 8 (some .int) false 1 0 0 Post 119 [some (.ref m), some (.int y), some (.int (nI le)), some (.int (nI mo)), some (.int (nI su)), some (.int (nI w)), some (.int 0), some (.int v7)] [] h sz) : ∀ (f c le mo su w : Nat) (g : Nat → Int32) (h : hpT) (v7 : Option Value), WM G h0 h m (mJ M 8 g) → SE g n (dgC c) → sitL n P f c le mo su w = true → w + f ≤ 1000 → su ≤ 36 * w → le ≤ 1000 → mo ≤ 36 → V l G RX6 cX6_sit 8 (some .int) false 1 0 0 Post 63 [some (.ref m), some (.int y), some (.int (nI le)), some (.int (nI mo)), some (.int (nI su)), some (.int (nI w)), some (.int 1), v7] [] h sz := by
  intro f
  induction f with
  | zero =>
    intro c le mo su w g h v7 hM hs hS
    exact absurd hS (by rw [sitL]; decide)
  | succ f ih =>
    intro c le mo su w g h v7 hM hs hS hw hsu hl hmo
    have hi := ltS_le (dgC c) (n := n) (by omega) hn.2 n 0 0
    rw [sitL_s] at hS
    obtain ⟨its, hits⟩ : ∃ z, z = ltS (dgC c) n n 0 0 := ⟨_, rfl⟩
    rw [← hits] at hS hi
    have hl1 : cond (Nat.blt its le) its le ≤ 1000 := by
      cases Nat.blt its le
      · exact hl
      · show its ≤ 1000
        omega
    have hmo1 : cond (Nat.blt mo its) its mo ≤ 36 := by
      cases Nat.blt mo its
      · exact hmo
      · show its ≤ 36
        omega
    refine V_iload 63 dX6_sit_63 rfl ?_
    refine V_if_eq 65 119 dX6_sit_65 rfl (fun q => absurd q (show ¬ (1 : Int32) = 0 by decide)) (fun _ => ?_)
    refine V_aload_n 68 dX6_sit_68 rfl ?_
    refine V_iv0 69 dX6_sit_69 kvX6_266 rfl (by first | exact hM.1.1 | exact hM.1.2.1 | exact hM.1.2.2.1 | exact hM.1.2.2.2.1 | exact hM.1.2.2.2.2.1 | exact hM.1.2.2.2.2.2.1 | exact hM.1.2.2.2.2.2.2.1 | exact hM.1.2.2.2.2.2.2.2.1 | exact hM.1.2.2.2.2.2.2.2.2.1 | exact hM.1.2.2.2.2.2.2.2.2.2.1 | exact hM.1.2.2.2.2.2.2.2.2.2.2) rfl rfl (c_X6_letters (M := mJ M 8 g) hM hs (SB.dg c) hn hn0 ?_)
    refine V_topi (nI its) (by rw [hits]) ?_
    refine V_istore 72 dX6_sit_72 rfl rfl ?_
    refine V_iload 74 dX6_sit_74 rfl ?_
    refine V_iload_n 76 dX6_sit_76 rfl ?_
    refine V_icmp_ge 77 85 dX6_sit_77 rfl (fun c_77 => ?_) (fun c_77 => ?_)
    · have e77 : nI le = nI (cond (Nat.blt its le) its le) := by rw [blt_f (by have := (nI_leI (by omega) (by omega)).mp c_77; omega)]; rfl
      refine V_iload_n 85 dX6_sit_85 rfl ?_
      refine V_topi _ e77 ?_
      refine V_istore_n 86 dX6_sit_86 rfl rfl ?_
      refine V_iload 87 dX6_sit_87 rfl ?_
      refine V_iload_n 89 dX6_sit_89 rfl ?_
      refine V_icmp_le 90 98 dX6_sit_90 rfl (fun c_90 => ?_) (fun c_90 => ?_)
      · have e90 : nI mo = nI (cond (Nat.blt mo its) its mo) := by rw [blt_f (by have := (nI_leI (by omega) (by omega)).mp c_90; omega)]; rfl
        refine V_iload_n 98 dX6_sit_98 rfl ?_
        refine V_topi _ e90 ?_
        refine V_istore_n 99 dX6_sit_99 rfl rfl ?_
        refine V_iload 100 dX6_sit_100 rfl ?_
        refine V_iload 102 dX6_sit_102 rfl ?_
        refine V_iadd 104 dX6_sit_104 ?_
        refine V_topi (nI (su + its)) (nI_add _ _) ?_
        refine V_istore 105 dX6_sit_105 rfl rfl ?_
        refine V_iinc 107 (nI (w + 1)) dX6_sit_107 rfl (nI_inc w) rfl rfl ?_
        refine V_aload_n 110 dX6_sit_110 rfl ?_
        refine V_iv0 111 dX6_sit_111 kvX6_270 rfl (by first | exact hM.1.1 | exact hM.1.2.1 | exact hM.1.2.2.1 | exact hM.1.2.2.2.1 | exact hM.1.2.2.2.2.1 | exact hM.1.2.2.2.2.2.1 | exact hM.1.2.2.2.2.2.2.1 | exact hM.1.2.2.2.2.2.2.2.1 | exact hM.1.2.2.2.2.2.2.2.2.1 | exact hM.1.2.2.2.2.2.2.2.2.2.1 | exact hM.1.2.2.2.2.2.2.2.2.2.2) rfl rfl (c_X6_nextSeats (M := mJ M 8 g) hM hs (SB.dg c) hn hn0 (fun ed => ?_) (fun i ed h g1 hM hg1 => ?_))
        · refine V_istore 114 dX6_sit_114 rfl rfl ?_
          refine V_goto 116 63 dX6_sit_116 rfl ?_
          first
          | (rw [ed] at hS
             rw [mJ_mJ8] at hM
             exact ih _ _ _ _ _ g1 h _ hM (hg1.enc ((SB.dg c).ns n i) hn.2) hS (by omega) (by omega) hl1 hmo1)
          | (rw [ed] at hS
             refine V_iload 63 dX6_sit_63 rfl ?_
             refine V_if_eq 65 119 dX6_sit_65 rfl (fun _ => ?_) (fun q => absurd rfl q)
             exact k h g _ _ _ _ _ hM hS hl1 hmo1 (by omega) (by omega))
        · refine V_istore 114 dX6_sit_114 rfl rfl ?_
          refine V_goto 116 63 dX6_sit_116 rfl ?_
          first
          | (rw [ed] at hS
             rw [mJ_mJ8] at hM
             exact ih _ _ _ _ _ g1 h _ hM (hg1.enc ((SB.dg c).ns n i) hn.2) hS (by omega) (by omega) hl1 hmo1)
          | (rw [ed] at hS
             refine V_iload 63 dX6_sit_63 rfl ?_
             refine V_if_eq 65 119 dX6_sit_65 rfl (fun _ => ?_) (fun q => absurd rfl q)
             exact k h g _ _ _ _ _ hM hS hl1 hmo1 (by omega) (by omega))
      · have e90 : nI its = nI (cond (Nat.blt mo its) its mo) := by rw [blt_t (Nat.lt_of_not_le (fun q => c_90 (nI_le q (by omega))))]; rfl
        refine V_iload 93 dX6_sit_93 rfl ?_
        refine V_goto 95 99 dX6_sit_95 rfl ?_
        refine V_topi _ e90 ?_
        refine V_istore_n 99 dX6_sit_99 rfl rfl ?_
        refine V_iload 100 dX6_sit_100 rfl ?_
        refine V_iload 102 dX6_sit_102 rfl ?_
        refine V_iadd 104 dX6_sit_104 ?_
        refine V_topi (nI (su + its)) (nI_add _ _) ?_
        refine V_istore 105 dX6_sit_105 rfl rfl ?_
        refine V_iinc 107 (nI (w + 1)) dX6_sit_107 rfl (nI_inc w) rfl rfl ?_
        refine V_aload_n 110 dX6_sit_110 rfl ?_
        refine V_iv0 111 dX6_sit_111 kvX6_270 rfl (by first | exact hM.1.1 | exact hM.1.2.1 | exact hM.1.2.2.1 | exact hM.1.2.2.2.1 | exact hM.1.2.2.2.2.1 | exact hM.1.2.2.2.2.2.1 | exact hM.1.2.2.2.2.2.2.1 | exact hM.1.2.2.2.2.2.2.2.1 | exact hM.1.2.2.2.2.2.2.2.2.1 | exact hM.1.2.2.2.2.2.2.2.2.2.1 | exact hM.1.2.2.2.2.2.2.2.2.2.2) rfl rfl (c_X6_nextSeats (M := mJ M 8 g) hM hs (SB.dg c) hn hn0 (fun ed => ?_) (fun i ed h g1 hM hg1 => ?_))
        · refine V_istore 114 dX6_sit_114 rfl rfl ?_
          refine V_goto 116 63 dX6_sit_116 rfl ?_
          first
          | (rw [ed] at hS
             rw [mJ_mJ8] at hM
             exact ih _ _ _ _ _ g1 h _ hM (hg1.enc ((SB.dg c).ns n i) hn.2) hS (by omega) (by omega) hl1 hmo1)
          | (rw [ed] at hS
             refine V_iload 63 dX6_sit_63 rfl ?_
             refine V_if_eq 65 119 dX6_sit_65 rfl (fun _ => ?_) (fun q => absurd rfl q)
             exact k h g _ _ _ _ _ hM hS hl1 hmo1 (by omega) (by omega))
        · refine V_istore 114 dX6_sit_114 rfl rfl ?_
          refine V_goto 116 63 dX6_sit_116 rfl ?_
          first
          | (rw [ed] at hS
             rw [mJ_mJ8] at hM
             exact ih _ _ _ _ _ g1 h _ hM (hg1.enc ((SB.dg c).ns n i) hn.2) hS (by omega) (by omega) hl1 hmo1)
          | (rw [ed] at hS
             refine V_iload 63 dX6_sit_63 rfl ?_
             refine V_if_eq 65 119 dX6_sit_65 rfl (fun _ => ?_) (fun q => absurd rfl q)
             exact k h g _ _ _ _ _ hM hS hl1 hmo1 (by omega) (by omega))
    · have e77 : nI its = nI (cond (Nat.blt its le) its le) := by rw [blt_t (Nat.lt_of_not_le (fun q => c_77 (nI_le q (by omega))))]; rfl
      refine V_iload 80 dX6_sit_80 rfl ?_
      refine V_goto 82 86 dX6_sit_82 rfl ?_
      refine V_topi _ e77 ?_
      refine V_istore_n 86 dX6_sit_86 rfl rfl ?_
      refine V_iload 87 dX6_sit_87 rfl ?_
      refine V_iload_n 89 dX6_sit_89 rfl ?_
      refine V_icmp_le 90 98 dX6_sit_90 rfl (fun c_90 => ?_) (fun c_90 => ?_)
      · have e90 : nI mo = nI (cond (Nat.blt mo its) its mo) := by rw [blt_f (by have := (nI_leI (by omega) (by omega)).mp c_90; omega)]; rfl
        refine V_iload_n 98 dX6_sit_98 rfl ?_
        refine V_topi _ e90 ?_
        refine V_istore_n 99 dX6_sit_99 rfl rfl ?_
        refine V_iload 100 dX6_sit_100 rfl ?_
        refine V_iload 102 dX6_sit_102 rfl ?_
        refine V_iadd 104 dX6_sit_104 ?_
        refine V_topi (nI (su + its)) (nI_add _ _) ?_
        refine V_istore 105 dX6_sit_105 rfl rfl ?_
        refine V_iinc 107 (nI (w + 1)) dX6_sit_107 rfl (nI_inc w) rfl rfl ?_
        refine V_aload_n 110 dX6_sit_110 rfl ?_
        refine V_iv0 111 dX6_sit_111 kvX6_270 rfl (by first | exact hM.1.1 | exact hM.1.2.1 | exact hM.1.2.2.1 | exact hM.1.2.2.2.1 | exact hM.1.2.2.2.2.1 | exact hM.1.2.2.2.2.2.1 | exact hM.1.2.2.2.2.2.2.1 | exact hM.1.2.2.2.2.2.2.2.1 | exact hM.1.2.2.2.2.2.2.2.2.1 | exact hM.1.2.2.2.2.2.2.2.2.2.1 | exact hM.1.2.2.2.2.2.2.2.2.2.2) rfl rfl (c_X6_nextSeats (M := mJ M 8 g) hM hs (SB.dg c) hn hn0 (fun ed => ?_) (fun i ed h g1 hM hg1 => ?_))
        · refine V_istore 114 dX6_sit_114 rfl rfl ?_
          refine V_goto 116 63 dX6_sit_116 rfl ?_
          first
          | (rw [ed] at hS
             rw [mJ_mJ8] at hM
             exact ih _ _ _ _ _ g1 h _ hM (hg1.enc ((SB.dg c).ns n i) hn.2) hS (by omega) (by omega) hl1 hmo1)
          | (rw [ed] at hS
             refine V_iload 63 dX6_sit_63 rfl ?_
             refine V_if_eq 65 119 dX6_sit_65 rfl (fun _ => ?_) (fun q => absurd rfl q)
             exact k h g _ _ _ _ _ hM hS hl1 hmo1 (by omega) (by omega))
        · refine V_istore 114 dX6_sit_114 rfl rfl ?_
          refine V_goto 116 63 dX6_sit_116 rfl ?_
          first
          | (rw [ed] at hS
             rw [mJ_mJ8] at hM
             exact ih _ _ _ _ _ g1 h _ hM (hg1.enc ((SB.dg c).ns n i) hn.2) hS (by omega) (by omega) hl1 hmo1)
          | (rw [ed] at hS
             refine V_iload 63 dX6_sit_63 rfl ?_
             refine V_if_eq 65 119 dX6_sit_65 rfl (fun _ => ?_) (fun q => absurd rfl q)
             exact k h g _ _ _ _ _ hM hS hl1 hmo1 (by omega) (by omega))
      · have e90 : nI its = nI (cond (Nat.blt mo its) its mo) := by rw [blt_t (Nat.lt_of_not_le (fun q => c_90 (nI_le q (by omega))))]; rfl
        refine V_iload 93 dX6_sit_93 rfl ?_
        refine V_goto 95 99 dX6_sit_95 rfl ?_
        refine V_topi _ e90 ?_
        refine V_istore_n 99 dX6_sit_99 rfl rfl ?_
        refine V_iload 100 dX6_sit_100 rfl ?_
        refine V_iload 102 dX6_sit_102 rfl ?_
        refine V_iadd 104 dX6_sit_104 ?_
        refine V_topi (nI (su + its)) (nI_add _ _) ?_
        refine V_istore 105 dX6_sit_105 rfl rfl ?_
        refine V_iinc 107 (nI (w + 1)) dX6_sit_107 rfl (nI_inc w) rfl rfl ?_
        refine V_aload_n 110 dX6_sit_110 rfl ?_
        refine V_iv0 111 dX6_sit_111 kvX6_270 rfl (by first | exact hM.1.1 | exact hM.1.2.1 | exact hM.1.2.2.1 | exact hM.1.2.2.2.1 | exact hM.1.2.2.2.2.1 | exact hM.1.2.2.2.2.2.1 | exact hM.1.2.2.2.2.2.2.1 | exact hM.1.2.2.2.2.2.2.2.1 | exact hM.1.2.2.2.2.2.2.2.2.1 | exact hM.1.2.2.2.2.2.2.2.2.2.1 | exact hM.1.2.2.2.2.2.2.2.2.2.2) rfl rfl (c_X6_nextSeats (M := mJ M 8 g) hM hs (SB.dg c) hn hn0 (fun ed => ?_) (fun i ed h g1 hM hg1 => ?_))
        · refine V_istore 114 dX6_sit_114 rfl rfl ?_
          refine V_goto 116 63 dX6_sit_116 rfl ?_
          first
          | (rw [ed] at hS
             rw [mJ_mJ8] at hM
             exact ih _ _ _ _ _ g1 h _ hM (hg1.enc ((SB.dg c).ns n i) hn.2) hS (by omega) (by omega) hl1 hmo1)
          | (rw [ed] at hS
             refine V_iload 63 dX6_sit_63 rfl ?_
             refine V_if_eq 65 119 dX6_sit_65 rfl (fun _ => ?_) (fun q => absurd rfl q)
             exact k h g _ _ _ _ _ hM hS hl1 hmo1 (by omega) (by omega))
        · refine V_istore 114 dX6_sit_114 rfl rfl ?_
          refine V_goto 116 63 dX6_sit_116 rfl ?_
          first
          | (rw [ed] at hS
             rw [mJ_mJ8] at hM
             exact ih _ _ _ _ _ g1 h _ hM (hg1.enc ((SB.dg c).ns n i) hn.2) hS (by omega) (by omega) hl1 hmo1)
          | (rw [ed] at hS
             refine V_iload 63 dX6_sit_63 rfl ?_
             refine V_if_eq 65 119 dX6_sit_65 rfl (fun _ => ?_) (fun q => absurd rfl q)
             exact k h g _ _ _ _ _ hM hS hl1 hmo1 (by omega) (by omega))
theorem sitR_3 {n : Nat} {y : Int32} (h0 : ¬ y = 0) (h1 : ¬ y = 1) (h2 : ¬ y = 2) : sitR n y = sitR n 3 := by
  unfold sitR
  rw [if_neg h0, if_neg h1, if_neg h2, if_neg (by decide), if_neg (by decide), if_neg (by decide)]
set_option maxHeartbeats 1000000 in
set_option maxRecDepth 100000 in
theorem t_X6_sit {y v7 : Int32} {le mo su w : Nat} (hM : WM G h0 h m M) (hP : sitP n le mo su w = true) (hsu : su ≤ 36 * w) (hw : w ≤ 1000) (k : Post (some (.int (sitR n y))) h sz) : V l G RX6 cX6_sit 8 (some .int) false 1 0 0 Post 119 [some (.ref m), some (.int y), some (.int (nI le)), some (.int (nI mo)), some (.int (nI su)), some (.int (nI w)), some (.int 0), some (.int v7)] [] h sz := by
  obtain ⟨p0, p1, hg, p2, p3⟩ := of_decide_eq_true hP
  have hgw : Nat.gcd su w ≤ 36000 := by
    by_cases q : w = 0
    · have : su = 0 := by omega
      rw [q, this]
      decide
    · exact Nat.le_trans (Nat.gcd_le_right _ (Nat.pos_of_ne_zero q)) (by omega)
  refine V_iload 119 dX6_sit_119 rfl ?_
  refine V_i2l 121 dX6_sit_121 ?_
  refine V_topl (lN su) (nI_l (by omega)) ?_
  refine V_iload 122 dX6_sit_122 rfl ?_
  refine V_i2l 124 dX6_sit_124 ?_
  refine V_topl (lN w) (nI_l (by omega)) ?_
  refine V_is2 125 dX6_sit_125 ksX6_273 rfl rfl (c_X6_commonOf su w (by omega) (by omega) ?_)
  refine V_l2i 128 dX6_sit_128 ?_
  refine V_topi (nI (Nat.gcd su w)) (lN_i _) ?_
  refine V_istore 129 dX6_sit_129 rfl rfl ?_
  refine V_iload_n 131 dX6_sit_131 rfl ?_
  refine V_if_ne 132 139 dX6_sit_132 rfl (fun c_132 => ?_) (fun c_132 => ?_)
  · refine V_iload_n 139 dX6_sit_139 rfl ?_
    refine V_iconstv 140 (1) dX6_sit_140 (by decide) ?_
    refine V_icmp_ne 141 148 dX6_sit_141 rfl (fun c_141 => ?_) (fun c_141 => ?_)
    · refine V_iload_n 148 dX6_sit_148 rfl ?_
      refine V_iconstv 149 (2) dX6_sit_149 (by decide) ?_
      refine V_icmp_ne 150 161 dX6_sit_150 rfl (fun c_150 => ?_) (fun c_150 => ?_)
      · refine V_iload 161 dX6_sit_161 rfl ?_
        refine V_iload 163 dX6_sit_163 rfl ?_
        refine V_idiv 165 dX6_sit_165 (nI_ne0 hg (by omega)) ?_
        refine V_topi (nI (w / Nat.gcd su w)) (pk_div (by omega) hg (by omega)) ?_
        refine V_iret 166 dX6_sit_166 ?_
        first
        | (rw [c_132] at k; exact pof k p0)
        | (rw [c_141] at k; exact pof k p1)
        | (rw [c_150] at k; exact pof k p2)
        | (rw [sitR_3 c_132 c_141 c_150] at k; exact pof k p3)
      · refine V_iload 153 dX6_sit_153 rfl ?_
        refine V_iload 155 dX6_sit_155 rfl ?_
        refine V_idiv 157 dX6_sit_157 (nI_ne0 hg (by omega)) ?_
        refine V_topi (nI (su / Nat.gcd su w)) (pk_div (by omega) hg (by omega)) ?_
        refine V_goto 158 166 dX6_sit_158 rfl ?_
        refine V_iret 166 dX6_sit_166 ?_
        first
        | (rw [c_132] at k; exact pof k p0)
        | (rw [c_141] at k; exact pof k p1)
        | (rw [c_150] at k; exact pof k p2)
        | (rw [sitR_3 c_132 c_141 c_150] at k; exact pof k p3)
    · refine V_iload_n 144 dX6_sit_144 rfl ?_
      refine V_goto 145 166 dX6_sit_145 rfl ?_
      refine V_iret 166 dX6_sit_166 ?_
      first
      | (rw [c_132] at k; exact pof k p0)
      | (rw [c_141] at k; exact pof k p1)
      | (rw [c_150] at k; exact pof k p2)
      | (rw [sitR_3 c_132 c_141 c_150] at k; exact pof k p3)
  · refine V_iload_n 135 dX6_sit_135 rfl ?_
    refine V_goto 136 166 dX6_sit_136 rfl ?_
    refine V_iret 166 dX6_sit_166 ?_
    first
    | (rw [c_132] at k; exact pof k p0)
    | (rw [c_141] at k; exact pof k p1)
    | (rw [c_150] at k; exact pof k p2)
    | (rw [sitR_3 c_132 c_141 c_150] at k; exact pof k p3)
set_option maxHeartbeats 1000000 in
set_option maxRecDepth 100000 in
theorem l0_X6_sit {y : Int32} (hn : 2 ≤ n ∧ n ≤ 6) (hn0 : M.1 0 = nI n) (k : ∀ h g, WM G h0 h m (mJ M 8 g) → (∀ j, j < n → g j = nI j) → V l G RX6 cX6_sit 8 (some .int) false 1 0 0 Post 48 [some (.ref m), some (.int y), some (.int (nI n))] [] h sz) : ∀ i, i ≤ n → ∀ h g, WM G h0 h m (mJ M 8 g) → (∀ j, j < i → g j = nI j) → V l G RX6 cX6_sit 8 (some .int) false 1 0 0 Post 27 [some (.ref m), some (.int y), some (.int (nI i))] [] h sz := by
  refine up_ind n (fun i hi ih h g hM hg => ?_)
  refine V_iload_n 27 dX6_sit_27 rfl ?_
  refine V_aload_n 28 dX6_sit_28 rfl ?_
  refine V_get 29 dX6_sit_29 fdX6_41 (by first | exact hM.1.1 | exact hM.1.2.1 | exact hM.1.2.2.1 | exact hM.1.2.2.2.1 | exact hM.1.2.2.2.2.1 | exact hM.1.2.2.2.2.2.1 | exact hM.1.2.2.2.2.2.2.1 | exact hM.1.2.2.2.2.2.2.2.1 | exact hM.1.2.2.2.2.2.2.2.2.1 | exact hM.1.2.2.2.2.2.2.2.2.2.1 | exact hM.1.2.2.2.2.2.2.2.2.2.2) rfl ?_
  refine V_topi (nI n) hn0 ?_
  refine V_icmp_ge 32 48 dX6_sit_32 rfl (fun c_32 => ?_) (fun c_32 => ?_)
  · have e_9 : i = n := Nat.le_antisymm hi ((nI_leI (by omega) (by omega)).mp c_32)
    subst e_9
    exact k h g hM hg
  · have e_9 : i < n := Nat.lt_of_not_le (fun q => c_32 (nI_le q (by omega)))
    refine V_aload_n 35 dX6_sit_35 rfl ?_
    refine V_get 36 dX6_sit_36 fdX6_31 (by first | exact hM.1.1 | exact hM.1.2.1 | exact hM.1.2.2.1 | exact hM.1.2.2.2.1 | exact hM.1.2.2.2.2.1 | exact hM.1.2.2.2.2.2.1 | exact hM.1.2.2.2.2.2.2.1 | exact hM.1.2.2.2.2.2.2.2.1 | exact hM.1.2.2.2.2.2.2.2.2.1 | exact hM.1.2.2.2.2.2.2.2.2.2.1 | exact hM.1.2.2.2.2.2.2.2.2.2.2) rfl ?_
    refine V_iload_n 39 dX6_sit_39 rfl ?_
    refine V_iload_n 40 dX6_sit_40 rfl ?_
    refine V_ia8 41 i (nI_clamp (by omega)) dX6_sit_41 hM (vp_in_nI (by omega) (by decide)) (fun h hM => ?_)
    refine V_iinc 42 (nI (i + 1)) dX6_sit_42 rfl (nI_inc i) rfl rfl ?_
    refine V_goto 45 27 dX6_sit_45 rfl ?_
    refine ih (i + 1) rfl (by omega) h _ (by rw [← mJ_mJ8 M g]; exact hM) (fun j hj => ?_)
    by_cases e : j = i
    · rw [e]
      exact pk_us
    · exact (pk_un e).trans (hg j (by omega))
theorem idC_dg {j : Nat} (hj : j < 6) : dgC idC j = j := by
  match j, hj with
  | 0, _ => rfl
  | 1, _ => rfl
  | 2, _ => rfl
  | 3, _ => rfl
  | 4, _ => rfl
  | 5, _ => rfl
  | q + 6, hq => omega
set_option maxHeartbeats 1000000 in
set_option maxRecDepth 100000 in
theorem c_X6_sit (hM : WM G h0 h m M) (hR : REL B X Q E nx hs K M) {y : Int32} (k0 : ¬ (0 ≤ y ∧ y ≤ 3) → Post (some (.int (-1000002))) h sz) (k2 : (0 ≤ y ∧ y ≤ 3) → Q.1 = 0 → Post (some (.int (-1000003))) h sz) (k1 : (0 ≤ y ∧ y ≤ 3) → ¬ Q.1 = 0 → ∀ h1 M1, WM G h0 h1 m M1 → REL B X Q E nx hs K M1 → Post (some (.int (sitR Q.1 y))) h1 sz) : Cn l G yX6_sit cX6_sit 8 (some .int) 1 0 0 [.ref m, .int y] h sz Post := by
  refine Cn.of RX6 false (by decide) rfl (fun q => by cases q) (Nat.le_of_ble_eq_true rfl) ?_
  refine V_iload_n 0 dX6_sit_0 rfl ?_
  refine V_i2l 1 dX6_sit_1 ?_
  refine V_lconstv 2 0 dX6_sit_2 (by decide) ?_
  refine V_ldc2 3 dX6_sit_3 knX6_229 ?_
  refine V_is3 6 dX6_sit_6 ksX6_45 rfl rfl (c_X6_inI (lo := 0) (hi := 3) rfl rfl (fun c_6 => ?_) (fun c_6 => ?_))
  · refine V_if_ne 9 15 dX6_sit_9 rfl (fun _ => ?_) (fun q => absurd q (by decide))
    refine V_aload_n 15 dX6_sit_15 rfl ?_
    refine V_get 16 dX6_sit_16 fdX6_41 (by first | exact hM.1.1 | exact hM.1.2.1 | exact hM.1.2.2.1 | exact hM.1.2.2.2.1 | exact hM.1.2.2.2.2.1 | exact hM.1.2.2.2.2.2.1 | exact hM.1.2.2.2.2.2.2.1 | exact hM.1.2.2.2.2.2.2.2.1 | exact hM.1.2.2.2.2.2.2.2.2.1 | exact hM.1.2.2.2.2.2.2.2.2.2.1 | exact hM.1.2.2.2.2.2.2.2.2.2.2) rfl ?_
    refine V_topi (nI Q.1) hR.2.1.1 ?_
    refine V_if_ne 19 25 dX6_sit_19 rfl (fun c_19 => ?_) (fun c_19 => ?_)
    · have q0 : ¬ Q.1 = 0 := fun q => c_19 (by rw [q]; rfl)
      have q2 : 2 ≤ Q.1 ∧ Q.1 ≤ 6 := ⟨hR.2.1.2.2.1.resolve_left q0, hR.2.1.2.1⟩
      refine V_iconstv 25 (0) dX6_sit_25 (by decide) ?_
      refine V_istore_n 26 dX6_sit_26 rfl rfl ?_
      refine l0_X6_sit q2 hR.2.1.1 (fun h g hM hg => ?_) 0 (Nat.zero_le _) h (M.2.2.1 8) (by rw [mJ_id]; exact hM) (fun j hj => absurd hj (Nat.not_lt_zero j))
      refine V_sipushv 48 (1000) dX6_sit_48 (by decide) ?_
      refine V_istore_n 51 dX6_sit_51 rfl rfl ?_
      refine V_iconstv 52 (0) dX6_sit_52 (by decide) ?_
      refine V_istore_n 53 dX6_sit_53 rfl rfl ?_
      refine V_iconstv 54 (0) dX6_sit_54 (by decide) ?_
      refine V_istore 55 dX6_sit_55 rfl rfl ?_
      refine V_iconstv 57 (0) dX6_sit_57 (by decide) ?_
      refine V_istore 58 dX6_sit_58 rfl rfl ?_
      refine V_iconstv 60 (1) dX6_sit_60 (by decide) ?_
      refine V_istore 61 dX6_sit_61 rfl rfl ?_
      refine V_lvw (zget_pad _) ?_
      refine lp_X6_sit (P := sitP Q.1) q2 hR.2.1.1 (fun h g le mo su w v7 hM hP hl hmo hsu hw => ?_) 800 idC 1000 0 0 0 g h none hM (fun j hj => (hg j hj).trans (congrArg nI (idC_dg (by omega)).symm)) (sitAll q2) (by omega) (by omega) (by omega) (by omega)
      exact t_X6_sit hM hP hsu hw (k1 c_6 q0 h _ hM (hR.j8 g))
    · have q0 : Q.1 = 0 := (nI_eq (b := 0) (by have := hR.2.1.2.1; omega) (by decide)).mp c_19
      refine V_ldc 22 dX6_sit_22 knX6_211 ?_
      refine V_iret 24 dX6_sit_24 ?_
      exact k2 c_6 q0
  · refine V_if_ne 9 15 dX6_sit_9 rfl (fun q => absurd q (by decide)) (fun _ => ?_)
    refine V_ldc 12 dX6_sit_12 knX6_161 ?_
    refine V_iret 14 dX6_sit_14 ?_
    exact k0 c_6
end M48
