def b2i (b : Bool) : Int32 := if b = true then 1 else 0
theorem b2i_01 (b : Bool) : b2i b = 0 ∨ b2i b = 1 := by cases b <;> simp [b2i]
theorem b2i_0 {b : Bool} (h : b2i b = 0) : b = false := by cases b <;> simp_all [b2i]
theorem b2i_n0 {b : Bool} (h : ¬ b2i b = 0) : b = true := by cases b <;> simp_all [b2i]
def bh1 (E : ET) (w v : Int32) : ET := sndE E (2 * w + celE E w 1) 7 v (-1) (-1) (-1)
def bhE (E : ET) (w v : Int32) : ET := bh1 (setE (setE E w 0 3) w 4 v) w v
def sp1 (E : ET) (w nm ph : Int32) : ET := sndE (sndE E (2 * w + 0) 2 nm ph (1 <<< (ph &&& 31)) (-1)) (2 * w + 1) 2 nm ph (1 <<< (ph &&& 31)) (-1)
def spE (Q : RG) (E : ET) (w : Int32) : ET := sp1 (setE E w 5 0) w (nmR Q w) (celE E w 3)
def srE (E : ET) (w kind number : Int32) : ET := sndE E (2 * w + celE E w 1) kind number (-1) (-1) (-1)
def drM (E : ET) (x : Int32) : Int32 := if eG E ≤ 0 then 1 else 1 + (x - x / eG E * eG E)
def dr1 (E : ET) (w right mk : Int32) : ET := sndE E right 6 mk (celE E w 3) 1 1
def drE (E : ET) (w : Int32) : ET := dr1 (setE (setE E w 7 (fo (celE E w 7))) w 2 (drM E (fo (celE E w 7)))) w (2 * w + celE E w 1) (drM E (fo (celE E w 7)))
def rs1 (Q : RG) (E : ET) (w : Int32) : ET := if eW E = 1 then srE E w 1 (nmR Q w) else if eW E = 2 then spE Q (setE E w 3 0) w else if eW E = 3 then srE (setE (setE E w 3 0) w 2 (nmR Q w)) w 4 (nmR Q w) else drE (setE E w 3 1) w
def rsE (Q : RG) (E : ET) (w : Int32) : ET := rs1 Q (setE E w 0 1) w
def cr3 (E : ET) (w : Int32) : ET := setE E w 1 (eH E 0 &&& 1)
def cr2 (E : ET) (w : Int32) : ET := cr3 (setE E w 4 (eH E 2)) w
def crE (E : ET) (w : Int32) : Bool × ET := (true, cr2 (setE E w 0 4) w)
def gpE (Q : RG) (E : ET) (w : Int32) : Bool × ET := if celE E w 0 = 1 then (if eH E 2 ≤ nmR Q w then (if eH E 2 = nmR Q w then (false, bhE E w (nmR Q w)) else (false, E)) else (true, setE E w 0 2)) else (true, E)
def pg1 (E : ET) (w : Int32) : Bool × ET := if eH E 4 < 1 then (false, sndE E (2 * w + (1 - (eH E 0 &&& 1))) 3 (eH E 2) (eH E 3) (-1) (-1)) else (true, E)
def pgE (E : ET) (w : Int32) : Bool × ET := pg1 (eH' E (upd (eH E) 4 (eH E 4 - 1))) w
def ry1 (Q : RG) (E : ET) (w : Int32) : ET := if celE E w 5 = 2 then spE Q (setE E w 3 (celE E w 3 + 1)) w else E
def ryE (Q : RG) (E : ET) (w : Int32) : Bool × ET := if eH E 2 = nmR Q w then (if celE E w 0 = 1 then (false, ry1 Q (setE E w 5 (celE E w 5 + 1)) w) else (false, E)) else (true, E)
def tfE (E : ET) (w : Int32) : ET := if eH E 2 = celE E w 2 then bhE E w (eH E 2) else srE (setE (setE E w 6 (eH E 2)) w 5 1) w 5 (eH E 2)
def ts2 (E : ET) (w v : Int32) : ET := srE (setE (setE E w 3 (celE E w 3 + 1)) w 5 0) w 4 v
def tsE (E : ET) (w : Int32) : ET := if celE E w 6 ≤ celE E w 2 then setE E w 0 2 else if celE E w 6 ≤ eH E 2 then setE E w 0 2 else ts2 (setE E w 2 (celE E w 6)) w (celE E w 6)
def mkE (E : ET) (w : Int32) : Bool × ET := if celE E w 0 = 1 then (false, if celE E w 5 = 1 then (if eH E 1 = 5 then tsE E w else E) else (if eH E 1 = 4 then tfE E w else E)) else (true, E)
def tcE (E : ET) (w : Int32) : Bool × ET := (false, if eH E 5 = 1 then bhE E w (eH E 2) else drE (setE E w 3 (celE E w 3 + 1)) w)
def tg2 (E : ET) (w pa ma : Int32) : Bool × ET := if 0 < pa then (true, setE E w 0 2) else if pa = 0 then (if ma ≤ 0 then (false, E) else (true, setE E w 0 2)) else (false, E)
def tg1 (E : ET) (w pa ma : Int32) : Bool × ET := if pa = 0 then (if ma = 0 then (true, eH' E (upd (eH E) 5 0)) else tg2 E w pa ma) else tg2 E w pa ma
def tgE (E : ET) (w : Int32) : Bool × ET := tg1 E w (eH E 3 - celE E w 3) (eH E 2 - celE E w 2)
def to1 (X : Bool × ET) : Bool × ET := (X.1, eH' X.2 (upd (eH X.2) 4 (eH X.2 4 + 1)))
def toE (Q : RG) (E : ET) (w : Int32) : Bool × ET := if celE E w 0 = 1 then (if eH E 4 = nI Q.1 then to1 (tcE E w) else to1 (tgE E w)) else (if eH E 4 = nI Q.1 then to1 (false, E) else to1 (true, E))
def go2 (X : Bool × ET) (w : Int32) : Bool × ET := if b2i X.1 = 0 then (false, X.2) else pgE X.2 w
def goE (Q : RG) (E : ET) (w : Int32) : Bool × ET := if eH E 1 = 1 then gpE Q E w else if eH E 1 = 2 then go2 (gpE Q E w) w else if eH E 1 = 3 then ryE Q E w else if eH E 1 = 4 then mkE E w else if eH E 1 = 5 then mkE E w else if eH E 1 = 6 then toE Q E w else crE E w
def dl4 (E : ET) (line : Int32) : ET := sndE E line (eH E 1) (eH E 2) (eH E 3) (eH E 4) (eH E 5)
def dl3 (X : Bool × ET) (x w : Int32) : ET := if b2i X.1 = 0 then X.2 else dl4 X.2 (2 * w + (x &&& 1))
def dl2 (Q : RG) (E : ET) (x w : Int32) : ET := if celE E w 0 = 3 then E else dl3 (goE Q E w) x w
def dl1 (Q : RG) (E : ET) (x w : Int32) : ET := if celE E w 0 = 0 then dl2 Q (setE E w 0 2) x w else dl2 Q E x w
def dlE (Q : RG) (E : ET) (x : Int32) : ET := if bsy E x = true then dl1 Q (tkE E (fiN (onB E x) (eN E))) x (rcv Q.1 x) else E
section M17
variable {l : Launch} {G : zGT} {h h0 : hpT} {sz : Nat} {Post : Option Value → hpT → Nat → Prop} {o r : Nat} {Q : RG} {E : ET}
theorem V_copyLH {own : String} {cc : ByteArray} {nL : Nat} {rt : Option FieldType} {ini : Bool} {d kc ks : Nat} {lv : List (Option Value)} {st : List Value} (pc : Nat) {idx : Nat} {sp dp n : Int32} (hd : decode cc pc = .ok (.invokestatic idx, 3)) (k1 : zW (.methodLink own idx arraycopyName)) (hd1 : Nat.ble 1 d = true) (hw : Nat.ble ((st.map fun v => v.category).sum + (nativeFrameWords "java/lang/System" "arraycopy" 5 + 11)) 40 = true) (hW : WE G h0 h o r E Q) (c1 : ¬ sp < 0) (c2 : ¬ dp < 0) (c3 : ¬ n < 0) (c4 : sp.toNatClampNeg + n.toNatClampNeg ≤ 72) (c5 : dp.toNatClampNeg + n.toNatClampNeg ≤ 6) (kk : ∀ h, WE G h0 h o r (eH' E (va_cpy (eL E) (eH E) sp.toNatClampNeg dp.toNatClampNeg n.toNatClampNeg)) Q → V l G own cc nL rt ini d kc ks Post (pc + 3) lv st h sz) : V l G own cc nL rt ini d kc ks Post pc lv (.int n :: .int dp :: .ref (o + 4) :: .int sp :: .ref (o + 2) :: st) h sz := V_copy pc hd k1 ac_n ac_s ac_i hd1 hw hW.1.2.2.1 hW.1.2.2.2.2.1 c1 c2 c3 c4 c5 (kk _ (hW.sH _))
theorem V_copyLL {own : String} {cc : ByteArray} {nL : Nat} {rt : Option FieldType} {ini : Bool} {d kc ks : Nat} {lv : List (Option Value)} {st : List Value} (pc : Nat) {idx : Nat} {sp dp n : Int32} (hd : decode cc pc = .ok (.invokestatic idx, 3)) (k1 : zW (.methodLink own idx arraycopyName)) (hd1 : Nat.ble 1 d = true) (hw : Nat.ble ((st.map fun v => v.category).sum + (nativeFrameWords "java/lang/System" "arraycopy" 5 + 11)) 40 = true) (hW : WE G h0 h o r E Q) (c1 : ¬ sp < 0) (c2 : ¬ dp < 0) (c3 : ¬ n < 0) (c4 : sp.toNatClampNeg + n.toNatClampNeg ≤ 72) (c5 : dp.toNatClampNeg + n.toNatClampNeg ≤ 72) (kk : ∀ h, WE G h0 h o r (eL' E (va_cpy (eL E) (eL E) sp.toNatClampNeg dp.toNatClampNeg n.toNatClampNeg)) Q → V l G own cc nL rt ini d kc ks Post (pc + 3) lv st h sz) : V l G own cc nL rt ini d kc ks Post pc lv (.int n :: .int dp :: .ref (o + 2) :: .int sp :: .ref (o + 2) :: st) h sz := V_copy pc hd k1 ac_n ac_s ac_i hd1 hw hW.1.2.2.1 hW.1.2.2.1 c1 c2 c3 c4 c5 (kk _ (hW.sL _ (hW.1.2.2.2.2.2.2.2.1.cpy c5 hW.1.2.2.2.2.2.2.2.1)))
set_option maxHeartbeats 1000000 in
set_option maxRecDepth 100000 in
theorem c_X0_send (hW : WE G h0 h o r E Q) {ln kd nu ph se al : Int32} (k : ∀ h, WE G h0 h o r (sndE E ln kd nu ph se al) Q → Post none h sz) : Cn l G yX0_send cX0_send 8 none 0 0 0 [.ref o, .int ln, .int kd, .int nu, .int ph, .int se, .int al] h sz Post := by
  refine Cn.of RX0 false (by decide) rfl (fun q => by cases q) (Nat.le_of_ble_eq_true rfl) ?_
  have hn := hW.1.2.2.2.2.2.1
  refine V_aload_n 0 dX0_send_0 rfl ?_
  refine V_get 1 dX0_send_1 fdX0_25 (by first | exact hW.1.1 | exact hW.1.2.1 | exact hW.1.2.2.1 | exact hW.1.2.2.2.1 | exact hW.1.2.2.2.2.1 | exact hW.2.1.1 | exact hW.2.1.2.1 | exact hW.2.1.2.2.1) rfl ?_
  refine V_if_lt 4 27 dX0_send_4 rfl (fun c_4 => ?_) (fun c_4 => ?_)
  · exact absurd c_4 (nI_pos (by omega)) --end
  · refine V_aload_n 7 dX0_send_7 rfl ?_
    refine V_get 8 dX0_send_8 fdX0_25 (by first | exact hW.1.1 | exact hW.1.2.1 | exact hW.1.2.2.1 | exact hW.1.2.2.2.1 | exact hW.1.2.2.2.2.1 | exact hW.2.1.1 | exact hW.2.1.2.1 | exact hW.2.1.2.2.1) rfl ?_
    refine V_bipushv 11 (12) dX0_send_11 (by decide) ?_
    refine V_icmp_ge 13 27 dX0_send_13 rfl (fun c_13 => ?_) (fun c_13 => ?_)
    · have e_13 : ¬ (eN E < 12 ∧ 1 ≤ kd ∧ kd ≤ 7) := fun q => absurd ((nI_leI (a := 12) (by decide) (by omega)).mp c_13) (by omega)
      refine V_vret 27 dX0_send_27 ?_
      unfold sndE at k
      rw [if_neg e_13] at k
      exact k _ hW
    · have e_13 : eN E < 12 := Nat.lt_of_not_le (fun q => c_13 (nI_le q (by omega)))
      refine V_iload_n 16 dX0_send_16 rfl ?_
      refine V_iconstv 17 (1) dX0_send_17 (by decide) ?_
      refine V_icmp_lt 18 27 dX0_send_18 rfl (fun c_18 => ?_) (fun c_18 => ?_)
      · have e_13 : ¬ (eN E < 12 ∧ 1 ≤ kd ∧ kd ≤ 7) := fun q => Int32.not_le.mpr c_18 q.2.1
        refine V_vret 27 dX0_send_27 ?_
        unfold sndE at k
        rw [if_neg e_13] at k
        exact k _ hW
      · refine V_iload_n 21 dX0_send_21 rfl ?_
        refine V_bipushv 22 (7) dX0_send_22 (by decide) ?_
        refine V_icmp_le 24 28 dX0_send_24 rfl (fun c_24 => ?_) (fun c_24 => ?_)
        · have e_24 : eN E < 12 ∧ 1 ≤ kd ∧ kd ≤ 7 := ⟨e_13, Int32.not_lt.mp c_18, c_24⟩
          have i_k : vp_in kd 8 := vp_in_iff.mpr (by have := Int32.le_iff_toInt_le.mp e_24.2.1; have := Int32.le_iff_toInt_le.mp e_24.2.2; have q1 : (1 : Int32).toInt = 1 := rfl; have q7 : (7 : Int32).toInt = 7 := rfl; omega)
          refine V_aload_n 28 dX0_send_28 rfl ?_
          refine V_get 29 dX0_send_29 fdX0_25 (by first | exact hW.1.1 | exact hW.1.2.1 | exact hW.1.2.2.1 | exact hW.1.2.2.2.1 | exact hW.1.2.2.2.2.1 | exact hW.2.1.1 | exact hW.2.1.2.1 | exact hW.2.1.2.2.1) rfl ?_
          refine V_bipushv 32 (6) dX0_send_32 (by decide) ?_
          refine V_imul 34 dX0_send_34 ?_
          refine V_topi (nI (6 * eN E)) (by rw [show (6 : Int32) = nI 6 from rfl, pk_mul, Nat.mul_comm]) ?_
          refine V_istore 35 dX0_send_35 rfl rfl ?_
          refine V_aload_n 37 dX0_send_37 rfl ?_
          refine V_get 38 dX0_send_38 fdX0_22 (by first | exact hW.1.1 | exact hW.1.2.1 | exact hW.1.2.2.1 | exact hW.1.2.2.2.1 | exact hW.1.2.2.2.2.1 | exact hW.2.1.1 | exact hW.2.1.2.1 | exact hW.2.1.2.2.1) rfl ?_
          refine V_iload 41 dX0_send_41 rfl ?_
          refine V_iconstv 43 (0) dX0_send_43 (by decide) ?_
          refine V_iadd 44 dX0_send_44 ?_
          refine V_topi (nI (6 * eN E + 0)) (nI_add (6 * eN E) 0) ?_
          refine V_iload_n 45 dX0_send_45 rfl ?_
          refine V_iastL 46 (6 * eN E + 0) (nI_clamp (by omega)) dX0_send_46 hW (vp_in_nI (by omega) (by decide)) (fun h hW => ?_)
          refine V_aload_n 47 dX0_send_47 rfl ?_
          refine V_get 48 dX0_send_48 fdX0_22 (by first | exact hW.1.1 | exact hW.1.2.1 | exact hW.1.2.2.1 | exact hW.1.2.2.2.1 | exact hW.1.2.2.2.2.1 | exact hW.2.1.1 | exact hW.2.1.2.1 | exact hW.2.1.2.2.1) rfl ?_
          refine V_iload 51 dX0_send_51 rfl ?_
          refine V_iconstv 53 (1) dX0_send_53 (by decide) ?_
          refine V_iadd 54 dX0_send_54 ?_
          refine V_topi (nI (6 * eN E + 1)) (nI_add (6 * eN E) 1) ?_
          refine V_iload_n 55 dX0_send_55 rfl ?_
          refine V_iastL 56 (6 * eN E + 1) (nI_clamp (by omega)) dX0_send_56 hW (vp_in_nI (by omega) (by decide)) (fun h hW => ?_)
          refine V_aload_n 57 dX0_send_57 rfl ?_
          refine V_get 58 dX0_send_58 fdX0_22 (by first | exact hW.1.1 | exact hW.1.2.1 | exact hW.1.2.2.1 | exact hW.1.2.2.2.1 | exact hW.1.2.2.2.2.1 | exact hW.2.1.1 | exact hW.2.1.2.1 | exact hW.2.1.2.2.1) rfl ?_
          refine V_iload 61 dX0_send_61 rfl ?_
          refine V_iconstv 63 (2) dX0_send_63 (by decide) ?_
          refine V_iadd 64 dX0_send_64 ?_
          refine V_topi (nI (6 * eN E + 2)) (nI_add (6 * eN E) 2) ?_
          refine V_iload_n 65 dX0_send_65 rfl ?_
          refine V_iastL 66 (6 * eN E + 2) (nI_clamp (by omega)) dX0_send_66 hW (vp_in_nI (by omega) (by decide)) (fun h hW => ?_)
          refine V_aload_n 67 dX0_send_67 rfl ?_
          refine V_get 68 dX0_send_68 fdX0_22 (by first | exact hW.1.1 | exact hW.1.2.1 | exact hW.1.2.2.1 | exact hW.1.2.2.2.1 | exact hW.1.2.2.2.2.1 | exact hW.2.1.1 | exact hW.2.1.2.1 | exact hW.2.1.2.2.1) rfl ?_
          refine V_iload 71 dX0_send_71 rfl ?_
          refine V_iconstv 73 (3) dX0_send_73 (by decide) ?_
          refine V_iadd 74 dX0_send_74 ?_
          refine V_topi (nI (6 * eN E + 3)) (nI_add (6 * eN E) 3) ?_
          refine V_iload 75 dX0_send_75 rfl ?_
          refine V_iastL 77 (6 * eN E + 3) (nI_clamp (by omega)) dX0_send_77 hW (vp_in_nI (by omega) (by decide)) (fun h hW => ?_)
          refine V_aload_n 78 dX0_send_78 rfl ?_
          refine V_get 79 dX0_send_79 fdX0_22 (by first | exact hW.1.1 | exact hW.1.2.1 | exact hW.1.2.2.1 | exact hW.1.2.2.2.1 | exact hW.1.2.2.2.2.1 | exact hW.2.1.1 | exact hW.2.1.2.1 | exact hW.2.1.2.2.1) rfl ?_
          refine V_iload 82 dX0_send_82 rfl ?_
          refine V_iconstv 84 (4) dX0_send_84 (by decide) ?_
          refine V_iadd 85 dX0_send_85 ?_
          refine V_topi (nI (6 * eN E + 4)) (nI_add (6 * eN E) 4) ?_
          refine V_iload 86 dX0_send_86 rfl ?_
          refine V_iastL 88 (6 * eN E + 4) (nI_clamp (by omega)) dX0_send_88 hW (vp_in_nI (by omega) (by decide)) (fun h hW => ?_)
          refine V_aload_n 89 dX0_send_89 rfl ?_
          refine V_get 90 dX0_send_90 fdX0_22 (by first | exact hW.1.1 | exact hW.1.2.1 | exact hW.1.2.2.1 | exact hW.1.2.2.2.1 | exact hW.1.2.2.2.2.1 | exact hW.2.1.1 | exact hW.2.1.2.1 | exact hW.2.1.2.2.1) rfl ?_
          refine V_iload 93 dX0_send_93 rfl ?_
          refine V_iconstv 95 (5) dX0_send_95 (by decide) ?_
          refine V_iadd 96 dX0_send_96 ?_
          refine V_topi (nI (6 * eN E + 5)) (nI_add (6 * eN E) 5) ?_
          refine V_iload 97 dX0_send_97 rfl ?_
          refine V_iastL 99 (6 * eN E + 5) (nI_clamp (by omega)) dX0_send_99 hW (vp_in_nI (by omega) (by decide)) (fun h hW => ?_)
          refine V_aload_n 100 dX0_send_100 rfl ?_
          refine V_dupr 101 dX0_send_101 ?_
          refine V_get 102 dX0_send_102 fdX0_25 (by first | exact hW.1.1 | exact hW.1.2.1 | exact hW.1.2.2.1 | exact hW.1.2.2.2.1 | exact hW.1.2.2.2.2.1 | exact hW.2.1.1 | exact hW.2.1.2.1 | exact hW.2.1.2.2.1) rfl ?_
          refine V_iconstv 105 (1) dX0_send_105 (by decide) ?_
          refine V_iadd 106 dX0_send_106 ?_
          refine V_putEN 107 (eN E + 1) (nI_1 (eN E)) (by omega) dX0_send_107 fpX0_25 hW (fun h hW => ?_)
          refine V_aload_n 110 dX0_send_110 rfl ?_
          refine V_get 111 dX0_send_111 fdX0_28 (by first | exact hW.1.1 | exact hW.1.2.1 | exact hW.1.2.2.1 | exact hW.1.2.2.2.1 | exact hW.1.2.2.2.2.1 | exact hW.2.1.1 | exact hW.2.1.2.1 | exact hW.2.1.2.2.1) rfl ?_
          refine V_iload_n 114 dX0_send_114 rfl ?_
          refine V_dup2 115 dX0_send_115 ?_
          refine V_iald 116 dX0_send_116 (by first | exact hW.1.1 | exact hW.1.2.1 | exact hW.1.2.2.1 | exact hW.1.2.2.2.1 | exact hW.1.2.2.2.2.1 | exact hW.2.1.1 | exact hW.2.1.2.1 | exact hW.2.1.2.2.1) i_k ?_
          refine V_iconstv 117 (1) dX0_send_117 (by decide) ?_
          refine V_iadd 118 dX0_send_118 ?_
          refine V_iastS 119 kd.toNatClampNeg rfl dX0_send_119 hW i_k (fun h hW => ?_)
          refine V_aload_n 120 dX0_send_120 rfl ?_
          refine V_get 121 dX0_send_121 fdX0_28 (by first | exact hW.1.1 | exact hW.1.2.1 | exact hW.1.2.2.1 | exact hW.1.2.2.2.1 | exact hW.1.2.2.2.2.1 | exact hW.2.1.1 | exact hW.2.1.2.1 | exact hW.2.1.2.2.1) rfl ?_
          refine V_iconstv 124 (0) dX0_send_124 (by decide) ?_
          refine V_dup2 125 dX0_send_125 ?_
          refine V_ialdk 126 0 rfl dX0_send_126 (by first | exact hW.1.1 | exact hW.1.2.1 | exact hW.1.2.2.1 | exact hW.1.2.2.2.1 | exact hW.1.2.2.2.2.1 | exact hW.2.1.1 | exact hW.2.1.2.1 | exact hW.2.1.2.2.1) (inb_in (by decide)) ?_
          refine V_iconstv 127 (1) dX0_send_127 (by decide) ?_
          refine V_iadd 128 dX0_send_128 ?_
          refine V_iastS 129 0 rfl dX0_send_129 hW (inb_in (by decide)) (fun h hW => ?_)
          refine V_vret 130 dX0_send_130 ?_
          unfold sndE at k
          rw [if_pos e_24] at k
          exact k _ hW
        · have e_13 : ¬ (eN E < 12 ∧ 1 ≤ kd ∧ kd ≤ 7) := fun q => c_24 q.2.2
          refine V_vret 27 dX0_send_27 ?_
          unfold sndE at k
          rw [if_neg e_13] at k
          exact k _ hW
set_option maxHeartbeats 1000000 in
set_option maxRecDepth 100000 in
theorem c_X0_takeInHand (hW : WE G h0 h o r E Q) (p : Nat) (hp : p < eN E) (k : ∀ h, WE G h0 h o r (tkE E p) Q → Post none h sz) : Cn l G yX0_takeInHand cX0_takeInHand 3 none 1 0 0 [.ref o, .int (nI p)] h sz Post := by
  refine Cn.of RX0 false (by decide) rfl (fun q => by cases q) (Nat.le_of_ble_eq_true rfl) ?_
  have hn := hW.1.2.2.2.2.2.1
  refine V_iload_n 0 dX0_takeInHand_0 rfl ?_
  refine V_if_lt 1 21 dX0_takeInHand_1 rfl (fun q => absurd q (nI_pos (by omega))) (fun _ => ?_)
  refine V_iload_n 4 dX0_takeInHand_4 rfl ?_
  refine V_aload_n 5 dX0_takeInHand_5 rfl ?_
  refine V_get 6 dX0_takeInHand_6 fdX0_25 (by first | exact hW.1.1 | exact hW.1.2.1 | exact hW.1.2.2.1 | exact hW.1.2.2.2.1 | exact hW.1.2.2.2.2.1 | exact hW.2.1.1 | exact hW.2.1.2.1 | exact hW.2.1.2.2.1) rfl ?_
  refine V_icmp_ge 9 21 dX0_takeInHand_9 rfl (fun q => absurd q (nI_ge hp (by omega))) (fun _ => ?_)
  refine V_aload_n 12 dX0_takeInHand_12 rfl ?_
  refine V_get 13 dX0_takeInHand_13 fdX0_25 (by first | exact hW.1.1 | exact hW.1.2.1 | exact hW.1.2.2.1 | exact hW.1.2.2.2.1 | exact hW.1.2.2.2.2.1 | exact hW.2.1.1 | exact hW.2.1.2.1 | exact hW.2.1.2.2.1) rfl ?_
  refine V_bipushv 16 (12) dX0_takeInHand_16 (by decide) ?_
  refine V_icmp_le 18 22 dX0_takeInHand_18 rfl (fun _ => ?_) (fun q => absurd (nI_le (b := 12) hn (by decide)) q)
  refine V_iload_n 22 dX0_takeInHand_22 rfl ?_
  refine V_bipushv 23 (6) dX0_takeInHand_23 (by decide) ?_
  refine V_imul 25 dX0_takeInHand_25 ?_
  refine V_topi (nI (6 * p)) (by rw [show (6 : Int32) = nI 6 from rfl, pk_mul, Nat.mul_comm]) ?_
  refine V_istore_n 26 dX0_takeInHand_26 rfl rfl ?_
  refine V_aload_n 27 dX0_takeInHand_27 rfl ?_
  refine V_get 28 dX0_takeInHand_28 fdX0_22 (by first | exact hW.1.1 | exact hW.1.2.1 | exact hW.1.2.2.1 | exact hW.1.2.2.2.1 | exact hW.1.2.2.2.2.1 | exact hW.2.1.1 | exact hW.2.1.2.1 | exact hW.2.1.2.2.1) rfl ?_
  refine V_iload_n 31 dX0_takeInHand_31 rfl ?_
  refine V_aload_n 32 dX0_takeInHand_32 rfl ?_
  refine V_get 33 dX0_takeInHand_33 fdX0_31 (by first | exact hW.1.1 | exact hW.1.2.1 | exact hW.1.2.2.1 | exact hW.1.2.2.2.1 | exact hW.1.2.2.2.2.1 | exact hW.2.1.1 | exact hW.2.1.2.1 | exact hW.2.1.2.2.1) rfl ?_
  refine V_iconstv 36 (0) dX0_takeInHand_36 (by decide) ?_
  refine V_bipushv 37 (6) dX0_takeInHand_37 (by decide) ?_
  refine V_copyLH 39 dX0_takeInHand_39 acX0_38 rfl rfl hW (nI_pos (by omega)) (by decide) (by decide) (by rw [nI_clamp (by omega)]; show 6 * p + 6 ≤ 72; omega) (by decide) (fun h hW => ?_)
  rw [nI_clamp (n := 6 * p) (by omega)] at hW
  refine V_aload_n 42 dX0_takeInHand_42 rfl ?_
  refine V_dupr 43 dX0_takeInHand_43 ?_
  refine V_get 44 dX0_takeInHand_44 fdX0_25 (by first | exact hW.1.1 | exact hW.1.2.1 | exact hW.1.2.2.1 | exact hW.1.2.2.2.1 | exact hW.1.2.2.2.2.1 | exact hW.2.1.1 | exact hW.2.1.2.1 | exact hW.2.1.2.2.1) rfl ?_
  refine V_iconstv 47 (1) dX0_takeInHand_47 (by decide) ?_
  refine V_isub 48 dX0_takeInHand_48 ?_
  refine V_putEN 49 (eN E - 1) (pk_sub (a := eN E) (b := 1) (by omega)) (by omega) dX0_takeInHand_49 fpX0_25 hW (fun h hW => ?_)
  refine V_aload_n 52 dX0_takeInHand_52 rfl ?_
  refine V_get 53 dX0_takeInHand_53 fdX0_22 (by first | exact hW.1.1 | exact hW.1.2.1 | exact hW.1.2.2.1 | exact hW.1.2.2.2.1 | exact hW.1.2.2.2.2.1 | exact hW.2.1.1 | exact hW.2.1.2.1 | exact hW.2.1.2.2.1) rfl ?_
  refine V_iload_n 56 dX0_takeInHand_56 rfl ?_
  refine V_bipushv 57 (6) dX0_takeInHand_57 (by decide) ?_
  refine V_iadd 59 dX0_takeInHand_59 ?_
  refine V_topi (nI (6 * p + 6)) (nI_add (6 * p) 6) ?_
  refine V_aload_n 60 dX0_takeInHand_60 rfl ?_
  refine V_get 61 dX0_takeInHand_61 fdX0_22 (by first | exact hW.1.1 | exact hW.1.2.1 | exact hW.1.2.2.1 | exact hW.1.2.2.2.1 | exact hW.1.2.2.2.2.1 | exact hW.2.1.1 | exact hW.2.1.2.1 | exact hW.2.1.2.2.1) rfl ?_
  refine V_iload_n 64 dX0_takeInHand_64 rfl ?_
  refine V_aload_n 65 dX0_takeInHand_65 rfl ?_
  refine V_get 66 dX0_takeInHand_66 fdX0_25 (by first | exact hW.1.1 | exact hW.1.2.1 | exact hW.1.2.2.1 | exact hW.1.2.2.2.1 | exact hW.1.2.2.2.2.1 | exact hW.2.1.1 | exact hW.2.1.2.1 | exact hW.2.1.2.2.1) rfl ?_
  refine V_iload_n 69 dX0_takeInHand_69 rfl ?_
  refine V_isub 70 dX0_takeInHand_70 ?_
  refine V_topi (nI (eN E - 1 - p)) (pk_sub (a := eN E - 1) (b := p) (by omega)) ?_
  refine V_bipushv 71 (6) dX0_takeInHand_71 (by decide) ?_
  refine V_imul 73 dX0_takeInHand_73 ?_
  refine V_topi (nI (6 * (eN E - 1 - p))) (by rw [show (6 : Int32) = nI 6 from rfl, pk_mul, Nat.mul_comm]) ?_
  refine V_copyLL 74 dX0_takeInHand_74 acX0_38 rfl rfl hW (nI_pos (by omega)) (nI_pos (by omega)) (nI_pos (by omega)) (by rw [nI_clamp (by omega), nI_clamp (by omega)]; omega) (by rw [nI_clamp (by omega), nI_clamp (by omega)]; omega) (fun h hW => ?_)
  rw [nI_clamp (n := 6 * p) (by omega), nI_clamp (n := 6 * p + 6) (by omega), nI_clamp (n := 6 * (eN E - 1 - p)) (by omega)] at hW
  refine V_vret 77 dX0_takeInHand_77 ?_
  exact k _ hW
set_option maxHeartbeats 1000000 in
set_option maxRecDepth 100000 in
theorem c_X0_becomeHead (hW : WE G h0 h o r E Q) {w v : Int32} (k : ∀ h, WE G h0 h o r (bhE E w v) Q → Post none h sz) : Cn l G yX0_becomeHead cX0_becomeHead 3 none 1 0 0 [.ref o, .int w, .int v] h sz Post := by
  refine Cn.of RX0 false (by decide) rfl (fun q => by cases q) (Nat.le_of_ble_eq_true rfl) ?_
  refine V_aload_n 0 dX0_becomeHead_0 rfl ?_
  refine V_iload_n 1 dX0_becomeHead_1 rfl ?_
  refine V_iconstv 2 (0) dX0_becomeHead_2 (by decide) ?_
  refine V_iconstv 3 (3) dX0_becomeHead_3 (by decide) ?_
  refine V_iv3 4 dX0_becomeHead_4 kvX0_44 rfl (by first | exact hW.1.1 | exact hW.1.2.1 | exact hW.1.2.2.1 | exact hW.1.2.2.2.1 | exact hW.1.2.2.2.2.1 | exact hW.2.1.1 | exact hW.2.1.2.1 | exact hW.2.1.2.2.1) rfl rfl (c_X0_setCell hW (fun h hW => ?_))
  refine V_aload_n 7 dX0_becomeHead_7 rfl ?_
  refine V_iload_n 8 dX0_becomeHead_8 rfl ?_
  refine V_iconstv 9 (4) dX0_becomeHead_9 (by decide) ?_
  refine V_iload_n 10 dX0_becomeHead_10 rfl ?_
  refine V_iv3 11 dX0_becomeHead_11 kvX0_44 rfl (by first | exact hW.1.1 | exact hW.1.2.1 | exact hW.1.2.2.1 | exact hW.1.2.2.2.1 | exact hW.1.2.2.2.2.1 | exact hW.2.1.1 | exact hW.2.1.2.1 | exact hW.2.1.2.2.1) rfl rfl (c_X0_setCell hW (fun h hW => ?_))
  refine V_aload_n 14 dX0_becomeHead_14 rfl ?_
  refine V_iload_n 15 dX0_becomeHead_15 rfl ?_
  refine V_aload_n 16 dX0_becomeHead_16 rfl ?_
  refine V_iload_n 17 dX0_becomeHead_17 rfl ?_
  refine V_iconstv 18 (1) dX0_becomeHead_18 (by decide) ?_
  refine V_iv2 19 dX0_becomeHead_19 kvX0_67 rfl (by first | exact hW.1.1 | exact hW.1.2.1 | exact hW.1.2.2.1 | exact hW.1.2.2.2.1 | exact hW.1.2.2.2.2.1 | exact hW.2.1.1 | exact hW.2.1.2.1 | exact hW.2.1.2.2.1) rfl rfl (c_X0_cell hW ?_)
  refine V_is2 22 dX0_becomeHead_22 ksX0_132 rfl rfl (c_X3_lineFrom ?_)
  refine V_bipushv 25 (7) dX0_becomeHead_25 (by decide) ?_
  refine V_iload_n 27 dX0_becomeHead_27 rfl ?_
  refine V_iconstv 28 (-1) dX0_becomeHead_28 (by decide) ?_
  refine V_iconstv 29 (-1) dX0_becomeHead_29 (by decide) ?_
  refine V_iconstv 30 (-1) dX0_becomeHead_30 (by decide) ?_
  refine V_iv6 31 dX0_becomeHead_31 kvX0_135 rfl (by first | exact hW.1.1 | exact hW.1.2.1 | exact hW.1.2.2.1 | exact hW.1.2.2.2.1 | exact hW.1.2.2.2.2.1 | exact hW.2.1.1 | exact hW.2.1.2.1 | exact hW.2.1.2.2.1) rfl rfl (c_X0_send hW (fun h hW => ?_))
  refine V_vret 34 dX0_becomeHead_34 ?_
  exact k _ hW
set_option maxHeartbeats 1000000 in
set_option maxRecDepth 100000 in
theorem c_X0_sendProbes (hW : WE G h0 h o r E Q) {w : Int32} (k : ∀ h, WE G h0 h o r (spE Q E w) Q → Post none h sz) : Cn l G yX0_sendProbes cX0_sendProbes 4 none 2 0 0 [.ref o, .int w] h sz Post := by
  refine Cn.of RX0 false (by decide) rfl (fun q => by cases q) (Nat.le_of_ble_eq_true rfl) ?_
  refine V_aload_n 0 dX0_sendProbes_0 rfl ?_
  refine V_iload_n 1 dX0_sendProbes_1 rfl ?_
  refine V_iconstv 2 (3) dX0_sendProbes_2 (by decide) ?_
  refine V_iv2 3 dX0_sendProbes_3 kvX0_67 rfl (by first | exact hW.1.1 | exact hW.1.2.1 | exact hW.1.2.2.1 | exact hW.1.2.2.2.1 | exact hW.1.2.2.2.2.1 | exact hW.2.1.1 | exact hW.2.1.2.1 | exact hW.2.1.2.2.1) rfl rfl (c_X0_cell hW ?_)
  refine V_istore_n 6 dX0_sendProbes_6 rfl rfl ?_
  refine V_aload_n 7 dX0_sendProbes_7 rfl ?_
  refine V_get 8 dX0_sendProbes_8 fdX0_34 (by first | exact hW.1.1 | exact hW.1.2.1 | exact hW.1.2.2.1 | exact hW.1.2.2.2.1 | exact hW.1.2.2.2.2.1 | exact hW.2.1.1 | exact hW.2.1.2.1 | exact hW.2.1.2.2.1) rfl ?_
  refine V_iload_n 11 dX0_sendProbes_11 rfl ?_
  refine V_iv1 12 dX0_sendProbes_12 kvX0_107 rfl (by first | exact hW.1.1 | exact hW.1.2.1 | exact hW.1.2.2.1 | exact hW.1.2.2.2.1 | exact hW.1.2.2.2.2.1 | exact hW.2.1.1 | exact hW.2.1.2.1 | exact hW.2.1.2.2.1) rfl rfl (c_X3_nameOf hW.2.1 ?_)
  refine V_istore_n 15 dX0_sendProbes_15 rfl rfl ?_
  refine V_aload_n 16 dX0_sendProbes_16 rfl ?_
  refine V_iload_n 17 dX0_sendProbes_17 rfl ?_
  refine V_iconstv 18 (5) dX0_sendProbes_18 (by decide) ?_
  refine V_iconstv 19 (0) dX0_sendProbes_19 (by decide) ?_
  refine V_iv3 20 dX0_sendProbes_20 kvX0_44 rfl (by first | exact hW.1.1 | exact hW.1.2.1 | exact hW.1.2.2.1 | exact hW.1.2.2.2.1 | exact hW.1.2.2.2.2.1 | exact hW.2.1.1 | exact hW.2.1.2.1 | exact hW.2.1.2.2.1) rfl rfl (c_X0_setCell hW (fun h hW => ?_))
  refine V_aload_n 23 dX0_sendProbes_23 rfl ?_
  refine V_iload_n 24 dX0_sendProbes_24 rfl ?_
  refine V_iconstv 25 (0) dX0_sendProbes_25 (by decide) ?_
  refine V_is2 26 dX0_sendProbes_26 ksX0_132 rfl rfl (c_X3_lineFrom ?_)
  refine V_iconstv 29 (2) dX0_sendProbes_29 (by decide) ?_
  refine V_iload_n 30 dX0_sendProbes_30 rfl ?_
  refine V_iload_n 31 dX0_sendProbes_31 rfl ?_
  refine V_iconstv 32 (1) dX0_sendProbes_32 (by decide) ?_
  refine V_iload_n 33 dX0_sendProbes_33 rfl ?_
  refine V_ishl 34 dX0_sendProbes_34 ?_
  refine V_iconstv 35 (-1) dX0_sendProbes_35 (by decide) ?_
  refine V_iv6 36 dX0_sendProbes_36 kvX0_135 rfl (by first | exact hW.1.1 | exact hW.1.2.1 | exact hW.1.2.2.1 | exact hW.1.2.2.2.1 | exact hW.1.2.2.2.2.1 | exact hW.2.1.1 | exact hW.2.1.2.1 | exact hW.2.1.2.2.1) rfl rfl (c_X0_send hW (fun h hW => ?_))
  refine V_aload_n 39 dX0_sendProbes_39 rfl ?_
  refine V_iload_n 40 dX0_sendProbes_40 rfl ?_
  refine V_iconstv 41 (1) dX0_sendProbes_41 (by decide) ?_
  refine V_is2 42 dX0_sendProbes_42 ksX0_132 rfl rfl (c_X3_lineFrom ?_)
  refine V_iconstv 45 (2) dX0_sendProbes_45 (by decide) ?_
  refine V_iload_n 46 dX0_sendProbes_46 rfl ?_
  refine V_iload_n 47 dX0_sendProbes_47 rfl ?_
  refine V_iconstv 48 (1) dX0_sendProbes_48 (by decide) ?_
  refine V_iload_n 49 dX0_sendProbes_49 rfl ?_
  refine V_ishl 50 dX0_sendProbes_50 ?_
  refine V_iconstv 51 (-1) dX0_sendProbes_51 (by decide) ?_
  refine V_iv6 52 dX0_sendProbes_52 kvX0_135 rfl (by first | exact hW.1.1 | exact hW.1.2.1 | exact hW.1.2.2.1 | exact hW.1.2.2.2.1 | exact hW.1.2.2.2.2.1 | exact hW.2.1.1 | exact hW.2.1.2.1 | exact hW.2.1.2.2.1) rfl rfl (c_X0_send hW (fun h hW => ?_))
  refine V_vret 55 dX0_sendProbes_55 ?_
  exact k _ hW
set_option maxHeartbeats 1000000 in
set_option maxRecDepth 100000 in
theorem c_X0_sendRight (hW : WE G h0 h o r E Q) {w kd nu : Int32} (k : ∀ h, WE G h0 h o r (srE E w kd nu) Q → Post none h sz) : Cn l G yX0_sendRight cX0_sendRight 4 none 1 0 0 [.ref o, .int w, .int kd, .int nu] h sz Post := by
  refine Cn.of RX0 false (by decide) rfl (fun q => by cases q) (Nat.le_of_ble_eq_true rfl) ?_
  refine V_aload_n 0 dX0_sendRight_0 rfl ?_
  refine V_iload_n 1 dX0_sendRight_1 rfl ?_
  refine V_aload_n 2 dX0_sendRight_2 rfl ?_
  refine V_iload_n 3 dX0_sendRight_3 rfl ?_
  refine V_iconstv 4 (1) dX0_sendRight_4 (by decide) ?_
  refine V_iv2 5 dX0_sendRight_5 kvX0_67 rfl (by first | exact hW.1.1 | exact hW.1.2.1 | exact hW.1.2.2.1 | exact hW.1.2.2.2.1 | exact hW.1.2.2.2.2.1 | exact hW.2.1.1 | exact hW.2.1.2.1 | exact hW.2.1.2.2.1) rfl rfl (c_X0_cell hW ?_)
  refine V_is2 8 dX0_sendRight_8 ksX0_132 rfl rfl (c_X3_lineFrom ?_)
  refine V_iload_n 11 dX0_sendRight_11 rfl ?_
  refine V_iload_n 12 dX0_sendRight_12 rfl ?_
  refine V_iconstv 13 (-1) dX0_sendRight_13 (by decide) ?_
  refine V_iconstv 14 (-1) dX0_sendRight_14 (by decide) ?_
  refine V_iconstv 15 (-1) dX0_sendRight_15 (by decide) ?_
  refine V_iv6 16 dX0_sendRight_16 kvX0_135 rfl (by first | exact hW.1.1 | exact hW.1.2.1 | exact hW.1.2.2.1 | exact hW.1.2.2.2.1 | exact hW.1.2.2.2.2.1 | exact hW.2.1.1 | exact hW.2.1.2.1 | exact hW.2.1.2.2.1) rfl rfl (c_X0_send hW (fun h hW => ?_))
  refine V_vret 19 dX0_sendRight_19 ?_
  exact k _ hW
set_option maxHeartbeats 1000000 in
set_option maxRecDepth 100000 in
theorem c_X0_draw (hW : WE G h0 h o r E Q) {w : Int32} (k : ∀ h, WE G h0 h o r (drE E w) Q → Post none h sz) : Cn l G yX0_draw cX0_draw 5 none 1 0 0 [.ref o, .int w] h sz Post := by
  refine Cn.of RX0 false (by decide) rfl (fun q => by cases q) (Nat.le_of_ble_eq_true rfl) ?_
  refine V_aload_n 0 dX0_draw_0 rfl ?_
  refine V_iload_n 1 dX0_draw_1 rfl ?_
  refine V_bipushv 2 (7) dX0_draw_2 (by decide) ?_
  refine V_iv2 4 dX0_draw_4 kvX0_67 rfl (by first | exact hW.1.1 | exact hW.1.2.1 | exact hW.1.2.2.1 | exact hW.1.2.2.2.1 | exact hW.1.2.2.2.2.1 | exact hW.2.1.1 | exact hW.2.1.2.1 | exact hW.2.1.2.2.1) rfl rfl (c_X0_cell hW ?_)
  refine V_is1 7 dX0_draw_7 ksX0_81 rfl rfl (c_X5_following ?_)
  refine V_istore_n 10 dX0_draw_10 rfl rfl ?_
  refine V_aload_n 11 dX0_draw_11 rfl ?_
  refine V_get 12 dX0_draw_12 fdX0_15 (by first | exact hW.1.1 | exact hW.1.2.1 | exact hW.1.2.2.1 | exact hW.1.2.2.2.1 | exact hW.1.2.2.2.2.1 | exact hW.2.1.1 | exact hW.2.1.2.1 | exact hW.2.1.2.2.1) rfl ?_
  refine V_if_le 15 29 dX0_draw_15 rfl (fun c_15 => ?_) (fun c_15 => ?_)
  · refine V_iconstv 29 (1) dX0_draw_29 (by decide) ?_
    refine V_topi (drM E (fo (celE E w 7))) (by first | exact (if_pos c_15).symm | exact (if_neg c_15).symm) ?_
    refine V_istore_n 30 dX0_draw_30 rfl rfl ?_
    refine V_iload_n 31 dX0_draw_31 rfl ?_
    refine V_aload_n 32 dX0_draw_32 rfl ?_
    refine V_iload_n 33 dX0_draw_33 rfl ?_
    refine V_iconstv 34 (1) dX0_draw_34 (by decide) ?_
    refine V_iv2 35 dX0_draw_35 kvX0_67 rfl (by first | exact hW.1.1 | exact hW.1.2.1 | exact hW.1.2.2.1 | exact hW.1.2.2.2.1 | exact hW.1.2.2.2.2.1 | exact hW.2.1.1 | exact hW.2.1.2.1 | exact hW.2.1.2.2.1) rfl rfl (c_X0_cell hW ?_)
    refine V_is2 38 dX0_draw_38 ksX0_132 rfl rfl (c_X3_lineFrom ?_)
    refine V_istore 41 dX0_draw_41 rfl rfl ?_
    refine V_aload_n 43 dX0_draw_43 rfl ?_
    refine V_iload_n 44 dX0_draw_44 rfl ?_
    refine V_bipushv 45 (7) dX0_draw_45 (by decide) ?_
    refine V_iload_n 47 dX0_draw_47 rfl ?_
    refine V_iv3 48 dX0_draw_48 kvX0_44 rfl (by first | exact hW.1.1 | exact hW.1.2.1 | exact hW.1.2.2.1 | exact hW.1.2.2.2.1 | exact hW.1.2.2.2.2.1 | exact hW.2.1.1 | exact hW.2.1.2.1 | exact hW.2.1.2.2.1) rfl rfl (c_X0_setCell hW (fun h hW => ?_))
    refine V_aload_n 51 dX0_draw_51 rfl ?_
    refine V_iload_n 52 dX0_draw_52 rfl ?_
    refine V_iconstv 53 (2) dX0_draw_53 (by decide) ?_
    refine V_iload_n 54 dX0_draw_54 rfl ?_
    refine V_iv3 55 dX0_draw_55 kvX0_44 rfl (by first | exact hW.1.1 | exact hW.1.2.1 | exact hW.1.2.2.1 | exact hW.1.2.2.2.1 | exact hW.1.2.2.2.2.1 | exact hW.2.1.1 | exact hW.2.1.2.1 | exact hW.2.1.2.2.1) rfl rfl (c_X0_setCell hW (fun h hW => ?_))
    refine V_aload_n 58 dX0_draw_58 rfl ?_
    refine V_iload 59 dX0_draw_59 rfl ?_
    refine V_bipushv 61 (6) dX0_draw_61 (by decide) ?_
    refine V_iload_n 63 dX0_draw_63 rfl ?_
    refine V_aload_n 64 dX0_draw_64 rfl ?_
    refine V_iload_n 65 dX0_draw_65 rfl ?_
    refine V_iconstv 66 (3) dX0_draw_66 (by decide) ?_
    refine V_iv2 67 dX0_draw_67 kvX0_67 rfl (by first | exact hW.1.1 | exact hW.1.2.1 | exact hW.1.2.2.1 | exact hW.1.2.2.2.1 | exact hW.1.2.2.2.2.1 | exact hW.2.1.1 | exact hW.2.1.2.1 | exact hW.2.1.2.2.1) rfl rfl (c_X0_cell hW ?_)
    refine V_iconstv 70 (1) dX0_draw_70 (by decide) ?_
    refine V_iconstv 71 (1) dX0_draw_71 (by decide) ?_
    refine V_iv6 72 dX0_draw_72 kvX0_135 rfl (by first | exact hW.1.1 | exact hW.1.2.1 | exact hW.1.2.2.1 | exact hW.1.2.2.2.1 | exact hW.1.2.2.2.2.1 | exact hW.2.1.1 | exact hW.2.1.2.1 | exact hW.2.1.2.2.1) rfl rfl (c_X0_send hW (fun h hW => ?_))
    refine V_vret 75 dX0_draw_75 ?_
    exact k _ hW
  · refine V_iconstv 18 (1) dX0_draw_18 (by decide) ?_
    refine V_iload_n 19 dX0_draw_19 rfl ?_
    refine V_aload_n 20 dX0_draw_20 rfl ?_
    refine V_get 21 dX0_draw_21 fdX0_15 (by first | exact hW.1.1 | exact hW.1.2.1 | exact hW.1.2.2.1 | exact hW.1.2.2.2.1 | exact hW.1.2.2.2.2.1 | exact hW.2.1.1 | exact hW.2.1.2.1 | exact hW.2.1.2.2.1) rfl ?_
    refine V_irem 24 dX0_draw_24 (fun q => c_15 (by rw [q]; decide)) ?_
    refine V_iadd 25 dX0_draw_25 ?_
    refine V_goto 26 30 dX0_draw_26 rfl ?_
    refine V_topi (drM E (fo (celE E w 7))) (by first | exact (if_pos c_15).symm | exact (if_neg c_15).symm) ?_
    refine V_istore_n 30 dX0_draw_30 rfl rfl ?_
    refine V_iload_n 31 dX0_draw_31 rfl ?_
    refine V_aload_n 32 dX0_draw_32 rfl ?_
    refine V_iload_n 33 dX0_draw_33 rfl ?_
    refine V_iconstv 34 (1) dX0_draw_34 (by decide) ?_
    refine V_iv2 35 dX0_draw_35 kvX0_67 rfl (by first | exact hW.1.1 | exact hW.1.2.1 | exact hW.1.2.2.1 | exact hW.1.2.2.2.1 | exact hW.1.2.2.2.2.1 | exact hW.2.1.1 | exact hW.2.1.2.1 | exact hW.2.1.2.2.1) rfl rfl (c_X0_cell hW ?_)
    refine V_is2 38 dX0_draw_38 ksX0_132 rfl rfl (c_X3_lineFrom ?_)
    refine V_istore 41 dX0_draw_41 rfl rfl ?_
    refine V_aload_n 43 dX0_draw_43 rfl ?_
    refine V_iload_n 44 dX0_draw_44 rfl ?_
    refine V_bipushv 45 (7) dX0_draw_45 (by decide) ?_
    refine V_iload_n 47 dX0_draw_47 rfl ?_
    refine V_iv3 48 dX0_draw_48 kvX0_44 rfl (by first | exact hW.1.1 | exact hW.1.2.1 | exact hW.1.2.2.1 | exact hW.1.2.2.2.1 | exact hW.1.2.2.2.2.1 | exact hW.2.1.1 | exact hW.2.1.2.1 | exact hW.2.1.2.2.1) rfl rfl (c_X0_setCell hW (fun h hW => ?_))
    refine V_aload_n 51 dX0_draw_51 rfl ?_
    refine V_iload_n 52 dX0_draw_52 rfl ?_
    refine V_iconstv 53 (2) dX0_draw_53 (by decide) ?_
    refine V_iload_n 54 dX0_draw_54 rfl ?_
    refine V_iv3 55 dX0_draw_55 kvX0_44 rfl (by first | exact hW.1.1 | exact hW.1.2.1 | exact hW.1.2.2.1 | exact hW.1.2.2.2.1 | exact hW.1.2.2.2.2.1 | exact hW.2.1.1 | exact hW.2.1.2.1 | exact hW.2.1.2.2.1) rfl rfl (c_X0_setCell hW (fun h hW => ?_))
    refine V_aload_n 58 dX0_draw_58 rfl ?_
    refine V_iload 59 dX0_draw_59 rfl ?_
    refine V_bipushv 61 (6) dX0_draw_61 (by decide) ?_
    refine V_iload_n 63 dX0_draw_63 rfl ?_
    refine V_aload_n 64 dX0_draw_64 rfl ?_
    refine V_iload_n 65 dX0_draw_65 rfl ?_
    refine V_iconstv 66 (3) dX0_draw_66 (by decide) ?_
    refine V_iv2 67 dX0_draw_67 kvX0_67 rfl (by first | exact hW.1.1 | exact hW.1.2.1 | exact hW.1.2.2.1 | exact hW.1.2.2.2.1 | exact hW.1.2.2.2.2.1 | exact hW.2.1.1 | exact hW.2.1.2.1 | exact hW.2.1.2.2.1) rfl rfl (c_X0_cell hW ?_)
    refine V_iconstv 70 (1) dX0_draw_70 (by decide) ?_
    refine V_iconstv 71 (1) dX0_draw_71 (by decide) ?_
    refine V_iv6 72 dX0_draw_72 kvX0_135 rfl (by first | exact hW.1.1 | exact hW.1.2.1 | exact hW.1.2.2.1 | exact hW.1.2.2.2.1 | exact hW.1.2.2.2.2.1 | exact hW.2.1.1 | exact hW.2.1.2.1 | exact hW.2.1.2.2.1) rfl rfl (c_X0_send hW (fun h hW => ?_))
    refine V_vret 75 dX0_draw_75 ?_
    exact k _ hW
set_option maxHeartbeats 1000000 in
set_option maxRecDepth 100000 in
theorem c_X0_isRunning (hW : WE G h0 h o r E Q) {w : Int32} (k1 : celE E w 0 = 1 → Post (some (.int 1)) h sz) (k0 : ¬ celE E w 0 = 1 → Post (some (.int 0)) h sz) : Cn l G yX0_isRunning cX0_isRunning 2 (some .boolean) 1 0 0 [.ref o, .int w] h sz Post := by
  refine Cn.of RX0 false (by decide) rfl (fun q => by cases q) (Nat.le_of_ble_eq_true rfl) ?_
  refine V_aload_n 0 dX0_isRunning_0 rfl ?_
  refine V_iload_n 1 dX0_isRunning_1 rfl ?_
  refine V_iconstv 2 (0) dX0_isRunning_2 (by decide) ?_
  refine V_iv2 3 dX0_isRunning_3 kvX0_67 rfl (by first | exact hW.1.1 | exact hW.1.2.1 | exact hW.1.2.2.1 | exact hW.1.2.2.2.1 | exact hW.1.2.2.2.2.1 | exact hW.2.1.1 | exact hW.2.1.2.1 | exact hW.2.1.2.2.1) rfl rfl (c_X0_cell hW ?_)
  refine V_iconstv 6 (1) dX0_isRunning_6 (by decide) ?_
  refine V_icmp_ne 7 14 dX0_isRunning_7 rfl (fun c_7 => ?_) (fun c_7 => ?_)
  · refine V_iconstv 14 (0) dX0_isRunning_14 (by decide) ?_
    refine V_zret 15 dX0_isRunning_15 (Or.inl rfl) ?_
    exact k0 c_7
  · refine V_iconstv 10 (1) dX0_isRunning_10 (by decide) ?_
    refine V_goto 11 15 dX0_isRunning_11 rfl ?_
    refine V_zret 15 dX0_isRunning_15 (Or.inr rfl) ?_
    exact k1 c_7
set_option maxHeartbeats 1000000 in
set_option maxRecDepth 100000 in
theorem c_X0_crownGoesOn (hW : WE G h0 h o r E Q) {w : Int32} (k : ∀ h, WE G h0 h o r (crE E w).2 Q → Post (some (.int (b2i (crE E w).1))) h sz) : Cn l G yX0_crownGoesOn cX0_crownGoesOn 2 (some .boolean) 1 0 0 [.ref o, .int w] h sz Post := by
  refine Cn.of RX0 false (by decide) rfl (fun q => by cases q) (Nat.le_of_ble_eq_true rfl) ?_
  refine V_aload_n 0 dX0_crownGoesOn_0 rfl ?_
  refine V_iload_n 1 dX0_crownGoesOn_1 rfl ?_
  refine V_iconstv 2 (0) dX0_crownGoesOn_2 (by decide) ?_
  refine V_iconstv 3 (4) dX0_crownGoesOn_3 (by decide) ?_
  refine V_iv3 4 dX0_crownGoesOn_4 kvX0_44 rfl (by first | exact hW.1.1 | exact hW.1.2.1 | exact hW.1.2.2.1 | exact hW.1.2.2.2.1 | exact hW.1.2.2.2.2.1 | exact hW.2.1.1 | exact hW.2.1.2.1 | exact hW.2.1.2.2.1) rfl rfl (c_X0_setCell hW (fun h hW => ?_))
  refine V_aload_n 7 dX0_crownGoesOn_7 rfl ?_
  refine V_iload_n 8 dX0_crownGoesOn_8 rfl ?_
  refine V_iconstv 9 (4) dX0_crownGoesOn_9 (by decide) ?_
  refine V_aload_n 10 dX0_crownGoesOn_10 rfl ?_
  refine V_get 11 dX0_crownGoesOn_11 fdX0_31 (by first | exact hW.1.1 | exact hW.1.2.1 | exact hW.1.2.2.1 | exact hW.1.2.2.2.1 | exact hW.1.2.2.2.2.1 | exact hW.2.1.1 | exact hW.2.1.2.1 | exact hW.2.1.2.2.1) rfl ?_
  refine V_iconstv 14 (2) dX0_crownGoesOn_14 (by decide) ?_
  refine V_ialdk 15 2 rfl dX0_crownGoesOn_15 (by first | exact hW.1.1 | exact hW.1.2.1 | exact hW.1.2.2.1 | exact hW.1.2.2.2.1 | exact hW.1.2.2.2.2.1 | exact hW.2.1.1 | exact hW.2.1.2.1 | exact hW.2.1.2.2.1) (inb_in (by decide)) ?_
  refine V_iv3 16 dX0_crownGoesOn_16 kvX0_44 rfl (by first | exact hW.1.1 | exact hW.1.2.1 | exact hW.1.2.2.1 | exact hW.1.2.2.2.1 | exact hW.1.2.2.2.2.1 | exact hW.2.1.1 | exact hW.2.1.2.1 | exact hW.2.1.2.2.1) rfl rfl (c_X0_setCell hW (fun h hW => ?_))
  refine V_aload_n 19 dX0_crownGoesOn_19 rfl ?_
  refine V_iload_n 20 dX0_crownGoesOn_20 rfl ?_
  refine V_iconstv 21 (1) dX0_crownGoesOn_21 (by decide) ?_
  refine V_aload_n 22 dX0_crownGoesOn_22 rfl ?_
  refine V_get 23 dX0_crownGoesOn_23 fdX0_31 (by first | exact hW.1.1 | exact hW.1.2.1 | exact hW.1.2.2.1 | exact hW.1.2.2.2.1 | exact hW.1.2.2.2.2.1 | exact hW.2.1.1 | exact hW.2.1.2.1 | exact hW.2.1.2.2.1) rfl ?_
  refine V_iconstv 26 (0) dX0_crownGoesOn_26 (by decide) ?_
  refine V_ialdk 27 0 rfl dX0_crownGoesOn_27 (by first | exact hW.1.1 | exact hW.1.2.1 | exact hW.1.2.2.1 | exact hW.1.2.2.2.1 | exact hW.1.2.2.2.2.1 | exact hW.2.1.1 | exact hW.2.1.2.1 | exact hW.2.1.2.2.1) (inb_in (by decide)) ?_
  refine V_is1 28 dX0_crownGoesOn_28 ksX0_129 rfl rfl (c_X3_directionOf ?_)
  refine V_iv3 31 dX0_crownGoesOn_31 kvX0_44 rfl (by first | exact hW.1.1 | exact hW.1.2.1 | exact hW.1.2.2.1 | exact hW.1.2.2.2.1 | exact hW.1.2.2.2.2.1 | exact hW.2.1.1 | exact hW.2.1.2.1 | exact hW.2.1.2.2.1) rfl rfl (c_X0_setCell hW (fun h hW => ?_))
  refine V_iconstv 34 (1) dX0_crownGoesOn_34 (by decide) ?_
  refine V_zret 35 dX0_crownGoesOn_35 (Or.inr rfl) ?_
  exact k _ hW
set_option maxHeartbeats 1000000 in
set_option maxRecDepth 100000 in
theorem c_X0_getsPast (hW : WE G h0 h o r E Q) {w : Int32} (k : ∀ h, WE G h0 h o r (gpE Q E w).2 Q → Post (some (.int (b2i (gpE Q E w).1))) h sz) : Cn l G yX0_getsPast cX0_getsPast 3 (some .boolean) 2 0 0 [.ref o, .int w] h sz Post := by
  refine Cn.of RX0 false (by decide) rfl (fun q => by cases q) (Nat.le_of_ble_eq_true rfl) ?_
  refine V_aload_n 0 dX0_getsPast_0 rfl ?_
  refine V_get 1 dX0_getsPast_1 fdX0_34 (by first | exact hW.1.1 | exact hW.1.2.1 | exact hW.1.2.2.1 | exact hW.1.2.2.2.1 | exact hW.1.2.2.2.2.1 | exact hW.2.1.1 | exact hW.2.1.2.1 | exact hW.2.1.2.2.1) rfl ?_
  refine V_iload_n 4 dX0_getsPast_4 rfl ?_
  refine V_iv1 5 dX0_getsPast_5 kvX0_107 rfl (by first | exact hW.1.1 | exact hW.1.2.1 | exact hW.1.2.2.1 | exact hW.1.2.2.2.1 | exact hW.1.2.2.2.2.1 | exact hW.2.1.1 | exact hW.2.1.2.1 | exact hW.2.1.2.2.1) rfl rfl (c_X3_nameOf hW.2.1 ?_)
  refine V_istore_n 8 dX0_getsPast_8 rfl rfl ?_
  refine V_aload_n 9 dX0_getsPast_9 rfl ?_
  refine V_iload_n 10 dX0_getsPast_10 rfl ?_
  refine V_iv1 11 dX0_getsPast_11 kvX0_157 rfl (by first | exact hW.1.1 | exact hW.1.2.1 | exact hW.1.2.2.1 | exact hW.1.2.2.2.1 | exact hW.1.2.2.2.2.1 | exact hW.2.1.1 | exact hW.2.1.2.1 | exact hW.2.1.2.2.1) rfl rfl (c_X0_isRunning hW (fun c_11 => ?_) (fun c_11 => ?_))
  · refine V_if_ne 14 19 dX0_getsPast_14 rfl (fun _ => ?_) (fun q => absurd q (by decide))
    refine V_aload_n 19 dX0_getsPast_19 rfl ?_
    refine V_get 20 dX0_getsPast_20 fdX0_31 (by first | exact hW.1.1 | exact hW.1.2.1 | exact hW.1.2.2.1 | exact hW.1.2.2.2.1 | exact hW.1.2.2.2.2.1 | exact hW.2.1.1 | exact hW.2.1.2.1 | exact hW.2.1.2.2.1) rfl ?_
    refine V_iconstv 23 (2) dX0_getsPast_23 (by decide) ?_
    refine V_ialdk 24 2 rfl dX0_getsPast_24 (by first | exact hW.1.1 | exact hW.1.2.1 | exact hW.1.2.2.1 | exact hW.1.2.2.2.1 | exact hW.1.2.2.2.2.1 | exact hW.2.1.1 | exact hW.2.1.2.1 | exact hW.2.1.2.2.1) (inb_in (by decide)) ?_
    refine V_iload_n 25 dX0_getsPast_25 rfl ?_
    refine V_icmp_le 26 38 dX0_getsPast_26 rfl (fun c_26 => ?_) (fun c_26 => ?_)
    · refine V_aload_n 38 dX0_getsPast_38 rfl ?_
      refine V_get 39 dX0_getsPast_39 fdX0_31 (by first | exact hW.1.1 | exact hW.1.2.1 | exact hW.1.2.2.1 | exact hW.1.2.2.2.1 | exact hW.1.2.2.2.2.1 | exact hW.2.1.1 | exact hW.2.1.2.1 | exact hW.2.1.2.2.1) rfl ?_
      refine V_iconstv 42 (2) dX0_getsPast_42 (by decide) ?_
      refine V_ialdk 43 2 rfl dX0_getsPast_43 (by first | exact hW.1.1 | exact hW.1.2.1 | exact hW.1.2.2.1 | exact hW.1.2.2.2.1 | exact hW.1.2.2.2.2.1 | exact hW.2.1.1 | exact hW.2.1.2.1 | exact hW.2.1.2.2.1) (inb_in (by decide)) ?_
      refine V_iload_n 44 dX0_getsPast_44 rfl ?_
      refine V_icmp_ne 45 54 dX0_getsPast_45 rfl (fun c_45 => ?_) (fun c_45 => ?_)
      · refine V_iconstv 54 (0) dX0_getsPast_54 (by decide) ?_
        refine V_zret 55 dX0_getsPast_55 (Or.inl rfl) ?_
        unfold gpE at k
        first | (rw [if_neg c_11] at k; exact k _ hW) | (rw [if_pos c_11, if_neg c_26] at k; exact k _ hW) | (rw [if_pos c_11, if_pos c_26, if_pos c_45] at k; exact k _ hW) | (rw [if_pos c_11, if_pos c_26, if_neg c_45] at k; exact k _ hW)
      · refine V_aload_n 48 dX0_getsPast_48 rfl ?_
        refine V_iload_n 49 dX0_getsPast_49 rfl ?_
        refine V_iload_n 50 dX0_getsPast_50 rfl ?_
        refine V_iv2 51 dX0_getsPast_51 kvX0_160 rfl (by first | exact hW.1.1 | exact hW.1.2.1 | exact hW.1.2.2.1 | exact hW.1.2.2.2.1 | exact hW.1.2.2.2.2.1 | exact hW.2.1.1 | exact hW.2.1.2.1 | exact hW.2.1.2.2.1) rfl rfl (c_X0_becomeHead hW (fun h hW => ?_))
        refine V_iconstv 54 (0) dX0_getsPast_54 (by decide) ?_
        refine V_zret 55 dX0_getsPast_55 (Or.inl rfl) ?_
        unfold gpE at k
        first | (rw [if_neg c_11] at k; exact k _ hW) | (rw [if_pos c_11, if_neg c_26] at k; exact k _ hW) | (rw [if_pos c_11, if_pos c_26, if_pos c_45] at k; exact k _ hW) | (rw [if_pos c_11, if_pos c_26, if_neg c_45] at k; exact k _ hW)
    · refine V_aload_n 29 dX0_getsPast_29 rfl ?_
      refine V_iload_n 30 dX0_getsPast_30 rfl ?_
      refine V_iconstv 31 (0) dX0_getsPast_31 (by decide) ?_
      refine V_iconstv 32 (2) dX0_getsPast_32 (by decide) ?_
      refine V_iv3 33 dX0_getsPast_33 kvX0_44 rfl (by first | exact hW.1.1 | exact hW.1.2.1 | exact hW.1.2.2.1 | exact hW.1.2.2.2.1 | exact hW.1.2.2.2.2.1 | exact hW.2.1.1 | exact hW.2.1.2.1 | exact hW.2.1.2.2.1) rfl rfl (c_X0_setCell hW (fun h hW => ?_))
      refine V_iconstv 36 (1) dX0_getsPast_36 (by decide) ?_
      refine V_zret 37 dX0_getsPast_37 (Or.inr rfl) ?_
      unfold gpE at k
      first | (rw [if_neg c_11] at k; exact k _ hW) | (rw [if_pos c_11, if_neg c_26] at k; exact k _ hW) | (rw [if_pos c_11, if_pos c_26, if_pos c_45] at k; exact k _ hW) | (rw [if_pos c_11, if_pos c_26, if_neg c_45] at k; exact k _ hW)
  · refine V_if_ne 14 19 dX0_getsPast_14 rfl (fun q => absurd q (by decide)) (fun _ => ?_)
    refine V_iconstv 17 (1) dX0_getsPast_17 (by decide) ?_
    refine V_zret 18 dX0_getsPast_18 (Or.inr rfl) ?_
    unfold gpE at k
    first | (rw [if_neg c_11] at k; exact k _ hW) | (rw [if_pos c_11, if_neg c_26] at k; exact k _ hW) | (rw [if_pos c_11, if_pos c_26, if_pos c_45] at k; exact k _ hW) | (rw [if_pos c_11, if_pos c_26, if_neg c_45] at k; exact k _ hW)
set_option maxHeartbeats 1000000 in
set_option maxRecDepth 100000 in
theorem c_X0_probeGoesOn (hW : WE G h0 h o r E Q) {w : Int32} (k : ∀ h, WE G h0 h o r (pgE E w).2 Q → Post (some (.int (b2i (pgE E w).1))) h sz) : Cn l G yX0_probeGoesOn cX0_probeGoesOn 3 (some .boolean) 1 0 0 [.ref o, .int w] h sz Post := by
  refine Cn.of RX0 false (by decide) rfl (fun q => by cases q) (Nat.le_of_ble_eq_true rfl) ?_
  refine V_aload_n 0 dX0_probeGoesOn_0 rfl ?_
  refine V_get 1 dX0_probeGoesOn_1 fdX0_31 (by first | exact hW.1.1 | exact hW.1.2.1 | exact hW.1.2.2.1 | exact hW.1.2.2.2.1 | exact hW.1.2.2.2.2.1 | exact hW.2.1.1 | exact hW.2.1.2.1 | exact hW.2.1.2.2.1) rfl ?_
  refine V_iconstv 4 (4) dX0_probeGoesOn_4 (by decide) ?_
  refine V_dup2 5 dX0_probeGoesOn_5 ?_
  refine V_ialdk 6 4 rfl dX0_probeGoesOn_6 (by first | exact hW.1.1 | exact hW.1.2.1 | exact hW.1.2.2.1 | exact hW.1.2.2.2.1 | exact hW.1.2.2.2.2.1 | exact hW.2.1.1 | exact hW.2.1.2.1 | exact hW.2.1.2.2.1) (inb_in (by decide)) ?_
  refine V_iconstv 7 (1) dX0_probeGoesOn_7 (by decide) ?_
  refine V_isub 8 dX0_probeGoesOn_8 ?_
  refine V_iastH 9 4 rfl dX0_probeGoesOn_9 hW (inb_in (by decide)) (fun h hW => ?_)
  refine V_aload_n 10 dX0_probeGoesOn_10 rfl ?_
  refine V_get 11 dX0_probeGoesOn_11 fdX0_31 (by first | exact hW.1.1 | exact hW.1.2.1 | exact hW.1.2.2.1 | exact hW.1.2.2.2.1 | exact hW.1.2.2.2.2.1 | exact hW.2.1.1 | exact hW.2.1.2.1 | exact hW.2.1.2.2.1) rfl ?_
  refine V_iconstv 14 (4) dX0_probeGoesOn_14 (by decide) ?_
  refine V_ialdk 15 4 rfl dX0_probeGoesOn_15 (by first | exact hW.1.1 | exact hW.1.2.1 | exact hW.1.2.2.1 | exact hW.1.2.2.2.1 | exact hW.1.2.2.2.2.1 | exact hW.2.1.1 | exact hW.2.1.2.1 | exact hW.2.1.2.2.1) (inb_in (by decide)) ?_
  refine V_iconstv 16 (1) dX0_probeGoesOn_16 (by decide) ?_
  refine V_icmp_lt 17 22 dX0_probeGoesOn_17 rfl (fun c_17 => ?_) (fun c_17 => ?_)
  · refine V_iload_n 22 dX0_probeGoesOn_22 rfl ?_
    refine V_iconstv 23 (1) dX0_probeGoesOn_23 (by decide) ?_
    refine V_aload_n 24 dX0_probeGoesOn_24 rfl ?_
    refine V_get 25 dX0_probeGoesOn_25 fdX0_31 (by first | exact hW.1.1 | exact hW.1.2.1 | exact hW.1.2.2.1 | exact hW.1.2.2.2.1 | exact hW.1.2.2.2.2.1 | exact hW.2.1.1 | exact hW.2.1.2.1 | exact hW.2.1.2.2.1) rfl ?_
    refine V_iconstv 28 (0) dX0_probeGoesOn_28 (by decide) ?_
    refine V_ialdk 29 0 rfl dX0_probeGoesOn_29 (by first | exact hW.1.1 | exact hW.1.2.1 | exact hW.1.2.2.1 | exact hW.1.2.2.2.1 | exact hW.1.2.2.2.2.1 | exact hW.2.1.1 | exact hW.2.1.2.1 | exact hW.2.1.2.2.1) (inb_in (by decide)) ?_
    refine V_is1 30 dX0_probeGoesOn_30 ksX0_129 rfl rfl (c_X3_directionOf ?_)
    refine V_isub 33 dX0_probeGoesOn_33 ?_
    refine V_is2 34 dX0_probeGoesOn_34 ksX0_132 rfl rfl (c_X3_lineFrom ?_)
    refine V_istore_n 37 dX0_probeGoesOn_37 rfl rfl ?_
    refine V_aload_n 38 dX0_probeGoesOn_38 rfl ?_
    refine V_iload_n 39 dX0_probeGoesOn_39 rfl ?_
    refine V_iconstv 40 (3) dX0_probeGoesOn_40 (by decide) ?_
    refine V_aload_n 41 dX0_probeGoesOn_41 rfl ?_
    refine V_get 42 dX0_probeGoesOn_42 fdX0_31 (by first | exact hW.1.1 | exact hW.1.2.1 | exact hW.1.2.2.1 | exact hW.1.2.2.2.1 | exact hW.1.2.2.2.2.1 | exact hW.2.1.1 | exact hW.2.1.2.1 | exact hW.2.1.2.2.1) rfl ?_
    refine V_iconstv 45 (2) dX0_probeGoesOn_45 (by decide) ?_
    refine V_ialdk 46 2 rfl dX0_probeGoesOn_46 (by first | exact hW.1.1 | exact hW.1.2.1 | exact hW.1.2.2.1 | exact hW.1.2.2.2.1 | exact hW.1.2.2.2.2.1 | exact hW.2.1.1 | exact hW.2.1.2.1 | exact hW.2.1.2.2.1) (inb_in (by decide)) ?_
    refine V_aload_n 47 dX0_probeGoesOn_47 rfl ?_
    refine V_get 48 dX0_probeGoesOn_48 fdX0_31 (by first | exact hW.1.1 | exact hW.1.2.1 | exact hW.1.2.2.1 | exact hW.1.2.2.2.1 | exact hW.1.2.2.2.2.1 | exact hW.2.1.1 | exact hW.2.1.2.1 | exact hW.2.1.2.2.1) rfl ?_
    refine V_iconstv 51 (3) dX0_probeGoesOn_51 (by decide) ?_
    refine V_ialdk 52 3 rfl dX0_probeGoesOn_52 (by first | exact hW.1.1 | exact hW.1.2.1 | exact hW.1.2.2.1 | exact hW.1.2.2.2.1 | exact hW.1.2.2.2.2.1 | exact hW.2.1.1 | exact hW.2.1.2.1 | exact hW.2.1.2.2.1) (inb_in (by decide)) ?_
    refine V_iconstv 53 (-1) dX0_probeGoesOn_53 (by decide) ?_
    refine V_iconstv 54 (-1) dX0_probeGoesOn_54 (by decide) ?_
    refine V_iv6 55 dX0_probeGoesOn_55 kvX0_135 rfl (by first | exact hW.1.1 | exact hW.1.2.1 | exact hW.1.2.2.1 | exact hW.1.2.2.2.1 | exact hW.1.2.2.2.2.1 | exact hW.2.1.1 | exact hW.2.1.2.1 | exact hW.2.1.2.2.1) rfl rfl (c_X0_send hW (fun h hW => ?_))
    refine V_iconstv 58 (0) dX0_probeGoesOn_58 (by decide) ?_
    refine V_zret 59 dX0_probeGoesOn_59 (Or.inl rfl) ?_
    unfold pgE pg1 at k
    first | (rw [if_pos c_17] at k; exact k _ hW) | (rw [if_neg c_17] at k; exact k _ hW)
  · refine V_iconstv 20 (1) dX0_probeGoesOn_20 (by decide) ?_
    refine V_zret 21 dX0_probeGoesOn_21 (Or.inr rfl) ?_
    unfold pgE pg1 at k
    first | (rw [if_pos c_17] at k; exact k _ hW) | (rw [if_neg c_17] at k; exact k _ hW)
set_option maxHeartbeats 1000000 in
set_option maxRecDepth 100000 in
theorem c_X0_replyGoesOn (hW : WE G h0 h o r E Q) {w : Int32} (k : ∀ h, WE G h0 h o r (ryE Q E w).2 Q → Post (some (.int (b2i (ryE Q E w).1))) h sz) : Cn l G yX0_replyGoesOn cX0_replyGoesOn 2 (some .boolean) 3 0 0 [.ref o, .int w] h sz Post := by
  refine Cn.of RX0 false (by decide) rfl (fun q => by cases q) (Nat.le_of_ble_eq_true rfl) ?_
  refine V_aload_n 0 dX0_replyGoesOn_0 rfl ?_
  refine V_get 1 dX0_replyGoesOn_1 fdX0_31 (by first | exact hW.1.1 | exact hW.1.2.1 | exact hW.1.2.2.1 | exact hW.1.2.2.2.1 | exact hW.1.2.2.2.2.1 | exact hW.2.1.1 | exact hW.2.1.2.1 | exact hW.2.1.2.2.1) rfl ?_
  refine V_iconstv 4 (2) dX0_replyGoesOn_4 (by decide) ?_
  refine V_ialdk 5 2 rfl dX0_replyGoesOn_5 (by first | exact hW.1.1 | exact hW.1.2.1 | exact hW.1.2.2.1 | exact hW.1.2.2.2.1 | exact hW.1.2.2.2.2.1 | exact hW.2.1.1 | exact hW.2.1.2.1 | exact hW.2.1.2.2.1) (inb_in (by decide)) ?_
  refine V_aload_n 6 dX0_replyGoesOn_6 rfl ?_
  refine V_get 7 dX0_replyGoesOn_7 fdX0_34 (by first | exact hW.1.1 | exact hW.1.2.1 | exact hW.1.2.2.1 | exact hW.1.2.2.2.1 | exact hW.1.2.2.2.2.1 | exact hW.2.1.1 | exact hW.2.1.2.1 | exact hW.2.1.2.2.1) rfl ?_
  refine V_iload_n 10 dX0_replyGoesOn_10 rfl ?_
  refine V_iv1 11 dX0_replyGoesOn_11 kvX0_107 rfl (by first | exact hW.1.1 | exact hW.1.2.1 | exact hW.1.2.2.1 | exact hW.1.2.2.2.1 | exact hW.1.2.2.2.2.1 | exact hW.2.1.1 | exact hW.2.1.2.1 | exact hW.2.1.2.2.1) rfl rfl (c_X3_nameOf hW.2.1 ?_)
  refine V_icmp_eq 14 19 dX0_replyGoesOn_14 rfl (fun c_14 => ?_) (fun c_14 => ?_)
  · refine V_aload_n 19 dX0_replyGoesOn_19 rfl ?_
    refine V_iload_n 20 dX0_replyGoesOn_20 rfl ?_
    refine V_iv1 21 dX0_replyGoesOn_21 kvX0_157 rfl (by first | exact hW.1.1 | exact hW.1.2.1 | exact hW.1.2.2.1 | exact hW.1.2.2.2.1 | exact hW.1.2.2.2.2.1 | exact hW.2.1.1 | exact hW.2.1.2.1 | exact hW.2.1.2.2.1) rfl rfl (c_X0_isRunning hW (fun c_21 => ?_) (fun c_21 => ?_))
    · refine V_if_eq 24 70 dX0_replyGoesOn_24 rfl (fun q => absurd q (by decide)) (fun _ => ?_)
      refine V_aload_n 27 dX0_replyGoesOn_27 rfl ?_
      refine V_iload_n 28 dX0_replyGoesOn_28 rfl ?_
      refine V_iconstv 29 (5) dX0_replyGoesOn_29 (by decide) ?_
      refine V_aload_n 30 dX0_replyGoesOn_30 rfl ?_
      refine V_iload_n 31 dX0_replyGoesOn_31 rfl ?_
      refine V_iconstv 32 (5) dX0_replyGoesOn_32 (by decide) ?_
      refine V_iv2 33 dX0_replyGoesOn_33 kvX0_67 rfl (by first | exact hW.1.1 | exact hW.1.2.1 | exact hW.1.2.2.1 | exact hW.1.2.2.2.1 | exact hW.1.2.2.2.2.1 | exact hW.2.1.1 | exact hW.2.1.2.1 | exact hW.2.1.2.2.1) rfl rfl (c_X0_cell hW ?_)
      refine V_iconstv 36 (1) dX0_replyGoesOn_36 (by decide) ?_
      refine V_iadd 37 dX0_replyGoesOn_37 ?_
      refine V_iv3 38 dX0_replyGoesOn_38 kvX0_44 rfl (by first | exact hW.1.1 | exact hW.1.2.1 | exact hW.1.2.2.1 | exact hW.1.2.2.2.1 | exact hW.1.2.2.2.2.1 | exact hW.2.1.1 | exact hW.2.1.2.1 | exact hW.2.1.2.2.1) rfl rfl (c_X0_setCell hW (fun h hW => ?_))
      refine V_aload_n 41 dX0_replyGoesOn_41 rfl ?_
      refine V_iload_n 42 dX0_replyGoesOn_42 rfl ?_
      refine V_iconstv 43 (5) dX0_replyGoesOn_43 (by decide) ?_
      refine V_iv2 44 dX0_replyGoesOn_44 kvX0_67 rfl (by first | exact hW.1.1 | exact hW.1.2.1 | exact hW.1.2.2.1 | exact hW.1.2.2.2.1 | exact hW.1.2.2.2.2.1 | exact hW.2.1.1 | exact hW.2.1.2.1 | exact hW.2.1.2.2.1) rfl rfl (c_X0_cell hW ?_)
      refine V_iconstv 47 (2) dX0_replyGoesOn_47 (by decide) ?_
      refine V_icmp_ne 48 70 dX0_replyGoesOn_48 rfl (fun c_48 => ?_) (fun c_48 => ?_)
      · refine V_iconstv 70 (0) dX0_replyGoesOn_70 (by decide) ?_
        refine V_zret 71 dX0_replyGoesOn_71 (Or.inl rfl) ?_
        unfold ryE at k
        first | (rw [if_neg c_14] at k; exact k _ hW) | (rw [if_pos c_14, if_neg c_21] at k; exact k _ hW) | (rw [if_pos c_14, if_pos c_21] at k; unfold ry1 at k; rw [if_pos c_48] at k; exact k _ hW) | (rw [if_pos c_14, if_pos c_21] at k; unfold ry1 at k; rw [if_neg c_48] at k; exact k _ hW)
      · refine V_aload_n 51 dX0_replyGoesOn_51 rfl ?_
        refine V_iload_n 52 dX0_replyGoesOn_52 rfl ?_
        refine V_iconstv 53 (3) dX0_replyGoesOn_53 (by decide) ?_
        refine V_aload_n 54 dX0_replyGoesOn_54 rfl ?_
        refine V_iload_n 55 dX0_replyGoesOn_55 rfl ?_
        refine V_iconstv 56 (3) dX0_replyGoesOn_56 (by decide) ?_
        refine V_iv2 57 dX0_replyGoesOn_57 kvX0_67 rfl (by first | exact hW.1.1 | exact hW.1.2.1 | exact hW.1.2.2.1 | exact hW.1.2.2.2.1 | exact hW.1.2.2.2.2.1 | exact hW.2.1.1 | exact hW.2.1.2.1 | exact hW.2.1.2.2.1) rfl rfl (c_X0_cell hW ?_)
        refine V_iconstv 60 (1) dX0_replyGoesOn_60 (by decide) ?_
        refine V_iadd 61 dX0_replyGoesOn_61 ?_
        refine V_iv3 62 dX0_replyGoesOn_62 kvX0_44 rfl (by first | exact hW.1.1 | exact hW.1.2.1 | exact hW.1.2.2.1 | exact hW.1.2.2.2.1 | exact hW.1.2.2.2.2.1 | exact hW.2.1.1 | exact hW.2.1.2.1 | exact hW.2.1.2.2.1) rfl rfl (c_X0_setCell hW (fun h hW => ?_))
        refine V_aload_n 65 dX0_replyGoesOn_65 rfl ?_
        refine V_iload_n 66 dX0_replyGoesOn_66 rfl ?_
        refine V_iv1 67 dX0_replyGoesOn_67 kvX0_113 rfl (by first | exact hW.1.1 | exact hW.1.2.1 | exact hW.1.2.2.1 | exact hW.1.2.2.2.1 | exact hW.1.2.2.2.2.1 | exact hW.2.1.1 | exact hW.2.1.2.1 | exact hW.2.1.2.2.1) rfl rfl (c_X0_sendProbes hW (fun h hW => ?_))
        refine V_iconstv 70 (0) dX0_replyGoesOn_70 (by decide) ?_
        refine V_zret 71 dX0_replyGoesOn_71 (Or.inl rfl) ?_
        unfold ryE at k
        first | (rw [if_neg c_14] at k; exact k _ hW) | (rw [if_pos c_14, if_neg c_21] at k; exact k _ hW) | (rw [if_pos c_14, if_pos c_21] at k; unfold ry1 at k; rw [if_pos c_48] at k; exact k _ hW) | (rw [if_pos c_14, if_pos c_21] at k; unfold ry1 at k; rw [if_neg c_48] at k; exact k _ hW)
    · refine V_if_eq 24 70 dX0_replyGoesOn_24 rfl (fun _ => ?_) (fun q => absurd q (by decide))
      refine V_iconstv 70 (0) dX0_replyGoesOn_70 (by decide) ?_
      refine V_zret 71 dX0_replyGoesOn_71 (Or.inl rfl) ?_
      unfold ryE at k
      first | (rw [if_neg c_14] at k; exact k _ hW) | (rw [if_pos c_14, if_neg c_21] at k; exact k _ hW) | (rw [if_pos c_14, if_pos c_21] at k; unfold ry1 at k; rw [if_pos c_48] at k; exact k _ hW) | (rw [if_pos c_14, if_pos c_21] at k; unfold ry1 at k; rw [if_neg c_48] at k; exact k _ hW)
  · refine V_iconstv 17 (1) dX0_replyGoesOn_17 (by decide) ?_
    refine V_zret 18 dX0_replyGoesOn_18 (Or.inr rfl) ?_
    unfold ryE at k
    first | (rw [if_neg c_14] at k; exact k _ hW) | (rw [if_pos c_14, if_neg c_21] at k; exact k _ hW) | (rw [if_pos c_14, if_pos c_21] at k; unfold ry1 at k; rw [if_pos c_48] at k; exact k _ hW) | (rw [if_pos c_14, if_pos c_21] at k; unfold ry1 at k; rw [if_neg c_48] at k; exact k _ hW)
set_option maxHeartbeats 1000000 in
set_option maxRecDepth 100000 in
theorem c_X0_takeFirst (hW : WE G h0 h o r E Q) {w : Int32} (k : ∀ h, WE G h0 h o r (tfE E w) Q → Post none h sz) : Cn l G yX0_takeFirst cX0_takeFirst 3 none 2 0 0 [.ref o, .int w] h sz Post := by
  refine Cn.of RX0 false (by decide) rfl (fun q => by cases q) (Nat.le_of_ble_eq_true rfl) ?_
  refine V_aload_n 0 dX0_takeFirst_0 rfl ?_
  refine V_get 1 dX0_takeFirst_1 fdX0_31 (by first | exact hW.1.1 | exact hW.1.2.1 | exact hW.1.2.2.1 | exact hW.1.2.2.2.1 | exact hW.1.2.2.2.2.1 | exact hW.2.1.1 | exact hW.2.1.2.1 | exact hW.2.1.2.2.1) rfl ?_
  refine V_iconstv 4 (2) dX0_takeFirst_4 (by decide) ?_
  refine V_ialdk 5 2 rfl dX0_takeFirst_5 (by first | exact hW.1.1 | exact hW.1.2.1 | exact hW.1.2.2.1 | exact hW.1.2.2.2.1 | exact hW.1.2.2.2.2.1 | exact hW.2.1.1 | exact hW.2.1.2.1 | exact hW.2.1.2.2.1) (inb_in (by decide)) ?_
  refine V_istore_n 6 dX0_takeFirst_6 rfl rfl ?_
  refine V_iload_n 7 dX0_takeFirst_7 rfl ?_
  refine V_aload_n 8 dX0_takeFirst_8 rfl ?_
  refine V_iload_n 9 dX0_takeFirst_9 rfl ?_
  refine V_iconstv 10 (2) dX0_takeFirst_10 (by decide) ?_
  refine V_iv2 11 dX0_takeFirst_11 kvX0_67 rfl (by first | exact hW.1.1 | exact hW.1.2.1 | exact hW.1.2.2.1 | exact hW.1.2.2.2.1 | exact hW.1.2.2.2.2.1 | exact hW.2.1.1 | exact hW.2.1.2.1 | exact hW.2.1.2.2.1) rfl rfl (c_X0_cell hW ?_)
  refine V_icmp_ne 14 26 dX0_takeFirst_14 rfl (fun c_14 => ?_) (fun c_14 => ?_)
  · refine V_aload_n 26 dX0_takeFirst_26 rfl ?_
    refine V_iload_n 27 dX0_takeFirst_27 rfl ?_
    refine V_bipushv 28 (6) dX0_takeFirst_28 (by decide) ?_
    refine V_iload_n 30 dX0_takeFirst_30 rfl ?_
    refine V_iv3 31 dX0_takeFirst_31 kvX0_44 rfl (by first | exact hW.1.1 | exact hW.1.2.1 | exact hW.1.2.2.1 | exact hW.1.2.2.2.1 | exact hW.1.2.2.2.2.1 | exact hW.2.1.1 | exact hW.2.1.2.1 | exact hW.2.1.2.2.1) rfl rfl (c_X0_setCell hW (fun h hW => ?_))
    refine V_aload_n 34 dX0_takeFirst_34 rfl ?_
    refine V_iload_n 35 dX0_takeFirst_35 rfl ?_
    refine V_iconstv 36 (5) dX0_takeFirst_36 (by decide) ?_
    refine V_iconstv 37 (1) dX0_takeFirst_37 (by decide) ?_
    refine V_iv3 38 dX0_takeFirst_38 kvX0_44 rfl (by first | exact hW.1.1 | exact hW.1.2.1 | exact hW.1.2.2.1 | exact hW.1.2.2.2.1 | exact hW.1.2.2.2.2.1 | exact hW.2.1.1 | exact hW.2.1.2.1 | exact hW.2.1.2.2.1) rfl rfl (c_X0_setCell hW (fun h hW => ?_))
    refine V_aload_n 41 dX0_takeFirst_41 rfl ?_
    refine V_iload_n 42 dX0_takeFirst_42 rfl ?_
    refine V_iconstv 43 (5) dX0_takeFirst_43 (by decide) ?_
    refine V_iload_n 44 dX0_takeFirst_44 rfl ?_
    refine V_iv3 45 dX0_takeFirst_45 kvX0_110 rfl (by first | exact hW.1.1 | exact hW.1.2.1 | exact hW.1.2.2.1 | exact hW.1.2.2.2.1 | exact hW.1.2.2.2.2.1 | exact hW.2.1.1 | exact hW.2.1.2.1 | exact hW.2.1.2.2.1) rfl rfl (c_X0_sendRight hW (fun h hW => ?_))
    refine V_vret 48 dX0_takeFirst_48 ?_
    unfold tfE at k
    first | (rw [if_pos c_14] at k; exact k _ hW) | (rw [if_neg c_14] at k; exact k _ hW)
  · refine V_aload_n 17 dX0_takeFirst_17 rfl ?_
    refine V_iload_n 18 dX0_takeFirst_18 rfl ?_
    refine V_iload_n 19 dX0_takeFirst_19 rfl ?_
    refine V_iv2 20 dX0_takeFirst_20 kvX0_160 rfl (by first | exact hW.1.1 | exact hW.1.2.1 | exact hW.1.2.2.1 | exact hW.1.2.2.2.1 | exact hW.1.2.2.2.2.1 | exact hW.2.1.1 | exact hW.2.1.2.1 | exact hW.2.1.2.2.1) rfl rfl (c_X0_becomeHead hW (fun h hW => ?_))
    refine V_goto 23 48 dX0_takeFirst_23 rfl ?_
    refine V_vret 48 dX0_takeFirst_48 ?_
    unfold tfE at k
    first | (rw [if_pos c_14] at k; exact k _ hW) | (rw [if_neg c_14] at k; exact k _ hW)
set_option maxHeartbeats 1000000 in
set_option maxRecDepth 100000 in
theorem c_X0_takeSecond (hW : WE G h0 h o r E Q) {w : Int32} (k : ∀ h, WE G h0 h o r (tsE E w) Q → Post none h sz) : Cn l G yX0_takeSecond cX0_takeSecond 3 none 2 0 0 [.ref o, .int w] h sz Post := by
  refine Cn.of RX0 false (by decide) rfl (fun q => by cases q) (Nat.le_of_ble_eq_true rfl) ?_
  refine V_aload_n 0 dX0_takeSecond_0 rfl ?_
  refine V_iload_n 1 dX0_takeSecond_1 rfl ?_
  refine V_bipushv 2 (6) dX0_takeSecond_2 (by decide) ?_
  refine V_iv2 4 dX0_takeSecond_4 kvX0_67 rfl (by first | exact hW.1.1 | exact hW.1.2.1 | exact hW.1.2.2.1 | exact hW.1.2.2.2.1 | exact hW.1.2.2.2.2.1 | exact hW.2.1.1 | exact hW.2.1.2.1 | exact hW.2.1.2.2.1) rfl rfl (c_X0_cell hW ?_)
  refine V_istore_n 7 dX0_takeSecond_7 rfl rfl ?_
  refine V_iload_n 8 dX0_takeSecond_8 rfl ?_
  refine V_aload_n 9 dX0_takeSecond_9 rfl ?_
  refine V_iload_n 10 dX0_takeSecond_10 rfl ?_
  refine V_iconstv 11 (2) dX0_takeSecond_11 (by decide) ?_
  refine V_iv2 12 dX0_takeSecond_12 kvX0_67 rfl (by first | exact hW.1.1 | exact hW.1.2.1 | exact hW.1.2.2.1 | exact hW.1.2.2.2.1 | exact hW.1.2.2.2.2.1 | exact hW.2.1.1 | exact hW.2.1.2.1 | exact hW.2.1.2.2.1) rfl rfl (c_X0_cell hW ?_)
  refine V_icmp_le 15 66 dX0_takeSecond_15 rfl (fun c_15 => ?_) (fun c_15 => ?_)
  · refine V_aload_n 66 dX0_takeSecond_66 rfl ?_
    refine V_iload_n 67 dX0_takeSecond_67 rfl ?_
    refine V_iconstv 68 (0) dX0_takeSecond_68 (by decide) ?_
    refine V_iconstv 69 (2) dX0_takeSecond_69 (by decide) ?_
    refine V_iv3 70 dX0_takeSecond_70 kvX0_44 rfl (by first | exact hW.1.1 | exact hW.1.2.1 | exact hW.1.2.2.1 | exact hW.1.2.2.2.1 | exact hW.1.2.2.2.2.1 | exact hW.2.1.1 | exact hW.2.1.2.1 | exact hW.2.1.2.2.1) rfl rfl (c_X0_setCell hW (fun h hW => ?_))
    refine V_vret 73 dX0_takeSecond_73 ?_
    unfold tsE at k
    first | (rw [if_pos c_15] at k; exact k _ hW) | (rw [if_neg c_15, if_pos c_25] at k; exact k _ hW) | (rw [if_neg c_15, if_neg c_25] at k; exact k _ hW)
  · refine V_iload_n 18 dX0_takeSecond_18 rfl ?_
    refine V_aload_n 19 dX0_takeSecond_19 rfl ?_
    refine V_get 20 dX0_takeSecond_20 fdX0_31 (by first | exact hW.1.1 | exact hW.1.2.1 | exact hW.1.2.2.1 | exact hW.1.2.2.2.1 | exact hW.1.2.2.2.2.1 | exact hW.2.1.1 | exact hW.2.1.2.1 | exact hW.2.1.2.2.1) rfl ?_
    refine V_iconstv 23 (2) dX0_takeSecond_23 (by decide) ?_
    refine V_ialdk 24 2 rfl dX0_takeSecond_24 (by first | exact hW.1.1 | exact hW.1.2.1 | exact hW.1.2.2.1 | exact hW.1.2.2.2.1 | exact hW.1.2.2.2.2.1 | exact hW.2.1.1 | exact hW.2.1.2.1 | exact hW.2.1.2.2.1) (inb_in (by decide)) ?_
    refine V_icmp_le 25 66 dX0_takeSecond_25 rfl (fun c_25 => ?_) (fun c_25 => ?_)
    · refine V_aload_n 66 dX0_takeSecond_66 rfl ?_
      refine V_iload_n 67 dX0_takeSecond_67 rfl ?_
      refine V_iconstv 68 (0) dX0_takeSecond_68 (by decide) ?_
      refine V_iconstv 69 (2) dX0_takeSecond_69 (by decide) ?_
      refine V_iv3 70 dX0_takeSecond_70 kvX0_44 rfl (by first | exact hW.1.1 | exact hW.1.2.1 | exact hW.1.2.2.1 | exact hW.1.2.2.2.1 | exact hW.1.2.2.2.2.1 | exact hW.2.1.1 | exact hW.2.1.2.1 | exact hW.2.1.2.2.1) rfl rfl (c_X0_setCell hW (fun h hW => ?_))
      refine V_vret 73 dX0_takeSecond_73 ?_
      unfold tsE at k
      first | (rw [if_pos c_15] at k; exact k _ hW) | (rw [if_neg c_15, if_pos c_25] at k; exact k _ hW) | (rw [if_neg c_15, if_neg c_25] at k; exact k _ hW)
    · refine V_aload_n 28 dX0_takeSecond_28 rfl ?_
      refine V_iload_n 29 dX0_takeSecond_29 rfl ?_
      refine V_iconstv 30 (2) dX0_takeSecond_30 (by decide) ?_
      refine V_iload_n 31 dX0_takeSecond_31 rfl ?_
      refine V_iv3 32 dX0_takeSecond_32 kvX0_44 rfl (by first | exact hW.1.1 | exact hW.1.2.1 | exact hW.1.2.2.1 | exact hW.1.2.2.2.1 | exact hW.1.2.2.2.2.1 | exact hW.2.1.1 | exact hW.2.1.2.1 | exact hW.2.1.2.2.1) rfl rfl (c_X0_setCell hW (fun h hW => ?_))
      refine V_aload_n 35 dX0_takeSecond_35 rfl ?_
      refine V_iload_n 36 dX0_takeSecond_36 rfl ?_
      refine V_iconstv 37 (3) dX0_takeSecond_37 (by decide) ?_
      refine V_aload_n 38 dX0_takeSecond_38 rfl ?_
      refine V_iload_n 39 dX0_takeSecond_39 rfl ?_
      refine V_iconstv 40 (3) dX0_takeSecond_40 (by decide) ?_
      refine V_iv2 41 dX0_takeSecond_41 kvX0_67 rfl (by first | exact hW.1.1 | exact hW.1.2.1 | exact hW.1.2.2.1 | exact hW.1.2.2.2.1 | exact hW.1.2.2.2.2.1 | exact hW.2.1.1 | exact hW.2.1.2.1 | exact hW.2.1.2.2.1) rfl rfl (c_X0_cell hW ?_)
      refine V_iconstv 44 (1) dX0_takeSecond_44 (by decide) ?_
      refine V_iadd 45 dX0_takeSecond_45 ?_
      refine V_iv3 46 dX0_takeSecond_46 kvX0_44 rfl (by first | exact hW.1.1 | exact hW.1.2.1 | exact hW.1.2.2.1 | exact hW.1.2.2.2.1 | exact hW.1.2.2.2.2.1 | exact hW.2.1.1 | exact hW.2.1.2.1 | exact hW.2.1.2.2.1) rfl rfl (c_X0_setCell hW (fun h hW => ?_))
      refine V_aload_n 49 dX0_takeSecond_49 rfl ?_
      refine V_iload_n 50 dX0_takeSecond_50 rfl ?_
      refine V_iconstv 51 (5) dX0_takeSecond_51 (by decide) ?_
      refine V_iconstv 52 (0) dX0_takeSecond_52 (by decide) ?_
      refine V_iv3 53 dX0_takeSecond_53 kvX0_44 rfl (by first | exact hW.1.1 | exact hW.1.2.1 | exact hW.1.2.2.1 | exact hW.1.2.2.2.1 | exact hW.1.2.2.2.2.1 | exact hW.2.1.1 | exact hW.2.1.2.1 | exact hW.2.1.2.2.1) rfl rfl (c_X0_setCell hW (fun h hW => ?_))
      refine V_aload_n 56 dX0_takeSecond_56 rfl ?_
      refine V_iload_n 57 dX0_takeSecond_57 rfl ?_
      refine V_iconstv 58 (4) dX0_takeSecond_58 (by decide) ?_
      refine V_iload_n 59 dX0_takeSecond_59 rfl ?_
      refine V_iv3 60 dX0_takeSecond_60 kvX0_110 rfl (by first | exact hW.1.1 | exact hW.1.2.1 | exact hW.1.2.2.1 | exact hW.1.2.2.2.1 | exact hW.1.2.2.2.2.1 | exact hW.2.1.1 | exact hW.2.1.2.1 | exact hW.2.1.2.2.1) rfl rfl (c_X0_sendRight hW (fun h hW => ?_))
      refine V_goto 63 73 dX0_takeSecond_63 rfl ?_
      refine V_vret 73 dX0_takeSecond_73 ?_
      unfold tsE at k
      first | (rw [if_pos c_15] at k; exact k _ hW) | (rw [if_neg c_15, if_pos c_25] at k; exact k _ hW) | (rw [if_neg c_15, if_neg c_25] at k; exact k _ hW)
set_option maxHeartbeats 1000000 in
set_option maxRecDepth 100000 in
theorem c_X0_markGoesOn (hW : WE G h0 h o r E Q) {w : Int32} (k : ∀ h, WE G h0 h o r (mkE E w).2 Q → Post (some (.int (b2i (mkE E w).1))) h sz) : Cn l G yX0_markGoesOn cX0_markGoesOn 3 (some .boolean) 3 0 0 [.ref o, .int w] h sz Post := by
  refine Cn.of RX0 false (by decide) rfl (fun q => by cases q) (Nat.le_of_ble_eq_true rfl) ?_
  refine V_aload_n 0 dX0_markGoesOn_0 rfl ?_
  refine V_iload_n 1 dX0_markGoesOn_1 rfl ?_
  refine V_iv1 2 dX0_markGoesOn_2 kvX0_157 rfl (by first | exact hW.1.1 | exact hW.1.2.1 | exact hW.1.2.2.1 | exact hW.1.2.2.2.1 | exact hW.1.2.2.2.2.1 | exact hW.2.1.1 | exact hW.2.1.2.1 | exact hW.2.1.2.2.1) rfl rfl (c_X0_isRunning hW (fun c_2 => ?_) (fun c_2 => ?_))
  · refine V_if_ne 5 10 dX0_markGoesOn_5 rfl (fun _ => ?_) (fun q => absurd q (by decide))
    refine V_aload_n 10 dX0_markGoesOn_10 rfl ?_
    refine V_iload_n 11 dX0_markGoesOn_11 rfl ?_
    refine V_iconstv 12 (5) dX0_markGoesOn_12 (by decide) ?_
    refine V_iv2 13 dX0_markGoesOn_13 kvX0_67 rfl (by first | exact hW.1.1 | exact hW.1.2.1 | exact hW.1.2.2.1 | exact hW.1.2.2.2.1 | exact hW.1.2.2.2.2.1 | exact hW.2.1.1 | exact hW.2.1.2.1 | exact hW.2.1.2.2.1) rfl rfl (c_X0_cell hW ?_)
    refine V_iconstv 16 (1) dX0_markGoesOn_16 (by decide) ?_
    refine V_icmp_ne 17 24 dX0_markGoesOn_17 rfl (fun c_17 => ?_) (fun c_17 => ?_)
    · refine V_iconstv 24 (0) dX0_markGoesOn_24 (by decide) ?_
      refine V_istore_n 25 dX0_markGoesOn_25 rfl rfl ?_
      refine V_aload_n 26 dX0_markGoesOn_26 rfl ?_
      refine V_get 27 dX0_markGoesOn_27 fdX0_31 (by first | exact hW.1.1 | exact hW.1.2.1 | exact hW.1.2.2.1 | exact hW.1.2.2.2.1 | exact hW.1.2.2.2.2.1 | exact hW.2.1.1 | exact hW.2.1.2.1 | exact hW.2.1.2.2.1) rfl ?_
      refine V_iconstv 30 (1) dX0_markGoesOn_30 (by decide) ?_
      refine V_ialdk 31 1 rfl dX0_markGoesOn_31 (by first | exact hW.1.1 | exact hW.1.2.1 | exact hW.1.2.2.1 | exact hW.1.2.2.2.1 | exact hW.1.2.2.2.2.1 | exact hW.2.1.1 | exact hW.2.1.2.1 | exact hW.2.1.2.2.1) (inb_in (by decide)) ?_
      refine V_iconstv 32 (4) dX0_markGoesOn_32 (by decide) ?_
      refine V_icmp_ne 33 48 dX0_markGoesOn_33 rfl (fun c_33 => ?_) (fun c_33 => ?_)
      · refine V_aload_n 48 dX0_markGoesOn_48 rfl ?_
        refine V_get 49 dX0_markGoesOn_49 fdX0_31 (by first | exact hW.1.1 | exact hW.1.2.1 | exact hW.1.2.2.1 | exact hW.1.2.2.2.1 | exact hW.1.2.2.2.2.1 | exact hW.2.1.1 | exact hW.2.1.2.1 | exact hW.2.1.2.2.1) rfl ?_
        refine V_iconstv 52 (1) dX0_markGoesOn_52 (by decide) ?_
        refine V_ialdk 53 1 rfl dX0_markGoesOn_53 (by first | exact hW.1.1 | exact hW.1.2.1 | exact hW.1.2.2.1 | exact hW.1.2.2.2.1 | exact hW.1.2.2.2.2.1 | exact hW.2.1.1 | exact hW.2.1.2.1 | exact hW.2.1.2.2.1) (inb_in (by decide)) ?_
        refine V_iconstv 54 (5) dX0_markGoesOn_54 (by decide) ?_
        refine V_icmp_ne 55 67 dX0_markGoesOn_55 rfl (fun c_55 => ?_) (fun c_55 => ?_)
        · refine V_iconstv 67 (0) dX0_markGoesOn_67 (by decide) ?_
          refine V_zret 68 dX0_markGoesOn_68 (Or.inl rfl) ?_
          unfold mkE at k
          first | (rw [if_neg c_2] at k; exact k _ hW) | (rw [if_pos c_2, if_pos c_17, if_pos c_55] at k; exact k _ hW) | (rw [if_pos c_2, if_pos c_17, if_neg c_55] at k; exact k _ hW) | (rw [if_pos c_2, if_neg c_17, if_pos c_33] at k; exact k _ hW) | (rw [if_pos c_2, if_neg c_17, if_neg c_33] at k; exact k _ hW)
        · refine V_iload_n 58 dX0_markGoesOn_58 rfl ?_
          refine V_if_eq 59 67 dX0_markGoesOn_59 rfl (fun _ => ?_) (fun q => absurd q (by decide))
          refine V_iconstv 67 (0) dX0_markGoesOn_67 (by decide) ?_
          refine V_zret 68 dX0_markGoesOn_68 (Or.inl rfl) ?_
          unfold mkE at k
          first | (rw [if_neg c_2] at k; exact k _ hW) | (rw [if_pos c_2, if_pos c_17, if_pos c_55] at k; exact k _ hW) | (rw [if_pos c_2, if_pos c_17, if_neg c_55] at k; exact k _ hW) | (rw [if_pos c_2, if_neg c_17, if_pos c_33] at k; exact k _ hW) | (rw [if_pos c_2, if_neg c_17, if_neg c_33] at k; exact k _ hW)
      · refine V_iload_n 36 dX0_markGoesOn_36 rfl ?_
        refine V_if_ne 37 48 dX0_markGoesOn_37 rfl (fun q => absurd q (by decide)) (fun _ => ?_)
        refine V_aload_n 40 dX0_markGoesOn_40 rfl ?_
        refine V_iload_n 41 dX0_markGoesOn_41 rfl ?_
        refine V_iv1 42 dX0_markGoesOn_42 kvX0_164 rfl (by first | exact hW.1.1 | exact hW.1.2.1 | exact hW.1.2.2.1 | exact hW.1.2.2.2.1 | exact hW.1.2.2.2.2.1 | exact hW.2.1.1 | exact hW.2.1.2.1 | exact hW.2.1.2.2.1) rfl rfl (c_X0_takeFirst hW (fun h hW => ?_))
        refine V_goto 45 67 dX0_markGoesOn_45 rfl ?_
        refine V_iconstv 67 (0) dX0_markGoesOn_67 (by decide) ?_
        refine V_zret 68 dX0_markGoesOn_68 (Or.inl rfl) ?_
        unfold mkE at k
        first | (rw [if_neg c_2] at k; exact k _ hW) | (rw [if_pos c_2, if_pos c_17, if_pos c_55] at k; exact k _ hW) | (rw [if_pos c_2, if_pos c_17, if_neg c_55] at k; exact k _ hW) | (rw [if_pos c_2, if_neg c_17, if_pos c_33] at k; exact k _ hW) | (rw [if_pos c_2, if_neg c_17, if_neg c_33] at k; exact k _ hW)
    · refine V_iconstv 20 (1) dX0_markGoesOn_20 (by decide) ?_
      refine V_goto 21 25 dX0_markGoesOn_21 rfl ?_
      refine V_istore_n 25 dX0_markGoesOn_25 rfl rfl ?_
      refine V_aload_n 26 dX0_markGoesOn_26 rfl ?_
      refine V_get 27 dX0_markGoesOn_27 fdX0_31 (by first | exact hW.1.1 | exact hW.1.2.1 | exact hW.1.2.2.1 | exact hW.1.2.2.2.1 | exact hW.1.2.2.2.2.1 | exact hW.2.1.1 | exact hW.2.1.2.1 | exact hW.2.1.2.2.1) rfl ?_
      refine V_iconstv 30 (1) dX0_markGoesOn_30 (by decide) ?_
      refine V_ialdk 31 1 rfl dX0_markGoesOn_31 (by first | exact hW.1.1 | exact hW.1.2.1 | exact hW.1.2.2.1 | exact hW.1.2.2.2.1 | exact hW.1.2.2.2.2.1 | exact hW.2.1.1 | exact hW.2.1.2.1 | exact hW.2.1.2.2.1) (inb_in (by decide)) ?_
      refine V_iconstv 32 (4) dX0_markGoesOn_32 (by decide) ?_
      refine V_icmp_ne 33 48 dX0_markGoesOn_33 rfl (fun c_33 => ?_) (fun c_33 => ?_)
      · refine V_aload_n 48 dX0_markGoesOn_48 rfl ?_
        refine V_get 49 dX0_markGoesOn_49 fdX0_31 (by first | exact hW.1.1 | exact hW.1.2.1 | exact hW.1.2.2.1 | exact hW.1.2.2.2.1 | exact hW.1.2.2.2.2.1 | exact hW.2.1.1 | exact hW.2.1.2.1 | exact hW.2.1.2.2.1) rfl ?_
        refine V_iconstv 52 (1) dX0_markGoesOn_52 (by decide) ?_
        refine V_ialdk 53 1 rfl dX0_markGoesOn_53 (by first | exact hW.1.1 | exact hW.1.2.1 | exact hW.1.2.2.1 | exact hW.1.2.2.2.1 | exact hW.1.2.2.2.2.1 | exact hW.2.1.1 | exact hW.2.1.2.1 | exact hW.2.1.2.2.1) (inb_in (by decide)) ?_
        refine V_iconstv 54 (5) dX0_markGoesOn_54 (by decide) ?_
        refine V_icmp_ne 55 67 dX0_markGoesOn_55 rfl (fun c_55 => ?_) (fun c_55 => ?_)
        · refine V_iconstv 67 (0) dX0_markGoesOn_67 (by decide) ?_
          refine V_zret 68 dX0_markGoesOn_68 (Or.inl rfl) ?_
          unfold mkE at k
          first | (rw [if_neg c_2] at k; exact k _ hW) | (rw [if_pos c_2, if_pos c_17, if_pos c_55] at k; exact k _ hW) | (rw [if_pos c_2, if_pos c_17, if_neg c_55] at k; exact k _ hW) | (rw [if_pos c_2, if_neg c_17, if_pos c_33] at k; exact k _ hW) | (rw [if_pos c_2, if_neg c_17, if_neg c_33] at k; exact k _ hW)
        · refine V_iload_n 58 dX0_markGoesOn_58 rfl ?_
          refine V_if_eq 59 67 dX0_markGoesOn_59 rfl (fun q => absurd q (by decide)) (fun _ => ?_)
          refine V_aload_n 62 dX0_markGoesOn_62 rfl ?_
          refine V_iload_n 63 dX0_markGoesOn_63 rfl ?_
          refine V_iv1 64 dX0_markGoesOn_64 kvX0_167 rfl (by first | exact hW.1.1 | exact hW.1.2.1 | exact hW.1.2.2.1 | exact hW.1.2.2.2.1 | exact hW.1.2.2.2.2.1 | exact hW.2.1.1 | exact hW.2.1.2.1 | exact hW.2.1.2.2.1) rfl rfl (c_X0_takeSecond hW (fun h hW => ?_))
          refine V_iconstv 67 (0) dX0_markGoesOn_67 (by decide) ?_
          refine V_zret 68 dX0_markGoesOn_68 (Or.inl rfl) ?_
          unfold mkE at k
          first | (rw [if_neg c_2] at k; exact k _ hW) | (rw [if_pos c_2, if_pos c_17, if_pos c_55] at k; exact k _ hW) | (rw [if_pos c_2, if_pos c_17, if_neg c_55] at k; exact k _ hW) | (rw [if_pos c_2, if_neg c_17, if_pos c_33] at k; exact k _ hW) | (rw [if_pos c_2, if_neg c_17, if_neg c_33] at k; exact k _ hW)
      · refine V_iload_n 36 dX0_markGoesOn_36 rfl ?_
        refine V_if_ne 37 48 dX0_markGoesOn_37 rfl (fun _ => ?_) (fun q => absurd q (by decide))
        refine V_aload_n 48 dX0_markGoesOn_48 rfl ?_
        refine V_get 49 dX0_markGoesOn_49 fdX0_31 (by first | exact hW.1.1 | exact hW.1.2.1 | exact hW.1.2.2.1 | exact hW.1.2.2.2.1 | exact hW.1.2.2.2.2.1 | exact hW.2.1.1 | exact hW.2.1.2.1 | exact hW.2.1.2.2.1) rfl ?_
        refine V_iconstv 52 (1) dX0_markGoesOn_52 (by decide) ?_
        refine V_ialdk 53 1 rfl dX0_markGoesOn_53 (by first | exact hW.1.1 | exact hW.1.2.1 | exact hW.1.2.2.1 | exact hW.1.2.2.2.1 | exact hW.1.2.2.2.2.1 | exact hW.2.1.1 | exact hW.2.1.2.1 | exact hW.2.1.2.2.1) (inb_in (by decide)) ?_
        refine V_iconstv 54 (5) dX0_markGoesOn_54 (by decide) ?_
        refine V_icmp_ne 55 67 dX0_markGoesOn_55 rfl (fun c_55 => ?_) (fun c_55 => ?_)
        · refine V_iconstv 67 (0) dX0_markGoesOn_67 (by decide) ?_
          refine V_zret 68 dX0_markGoesOn_68 (Or.inl rfl) ?_
          unfold mkE at k
          first | (rw [if_neg c_2] at k; exact k _ hW) | (rw [if_pos c_2, if_pos c_17, if_pos c_55] at k; exact k _ hW) | (rw [if_pos c_2, if_pos c_17, if_neg c_55] at k; exact k _ hW) | (rw [if_pos c_2, if_neg c_17, if_pos c_33] at k; exact k _ hW) | (rw [if_pos c_2, if_neg c_17, if_neg c_33] at k; exact k _ hW)
        · refine V_iload_n 58 dX0_markGoesOn_58 rfl ?_
          refine V_if_eq 59 67 dX0_markGoesOn_59 rfl (fun q => absurd q (by decide)) (fun _ => ?_)
          refine V_aload_n 62 dX0_markGoesOn_62 rfl ?_
          refine V_iload_n 63 dX0_markGoesOn_63 rfl ?_
          refine V_iv1 64 dX0_markGoesOn_64 kvX0_167 rfl (by first | exact hW.1.1 | exact hW.1.2.1 | exact hW.1.2.2.1 | exact hW.1.2.2.2.1 | exact hW.1.2.2.2.2.1 | exact hW.2.1.1 | exact hW.2.1.2.1 | exact hW.2.1.2.2.1) rfl rfl (c_X0_takeSecond hW (fun h hW => ?_))
          refine V_iconstv 67 (0) dX0_markGoesOn_67 (by decide) ?_
          refine V_zret 68 dX0_markGoesOn_68 (Or.inl rfl) ?_
          unfold mkE at k
          first | (rw [if_neg c_2] at k; exact k _ hW) | (rw [if_pos c_2, if_pos c_17, if_pos c_55] at k; exact k _ hW) | (rw [if_pos c_2, if_pos c_17, if_neg c_55] at k; exact k _ hW) | (rw [if_pos c_2, if_neg c_17, if_pos c_33] at k; exact k _ hW) | (rw [if_pos c_2, if_neg c_17, if_neg c_33] at k; exact k _ hW)
  · refine V_if_ne 5 10 dX0_markGoesOn_5 rfl (fun q => absurd q (by decide)) (fun _ => ?_)
    refine V_iconstv 8 (1) dX0_markGoesOn_8 (by decide) ?_
    refine V_zret 9 dX0_markGoesOn_9 (Or.inr rfl) ?_
    unfold mkE at k
    first | (rw [if_neg c_2] at k; exact k _ hW) | (rw [if_pos c_2, if_pos c_17, if_pos c_55] at k; exact k _ hW) | (rw [if_pos c_2, if_pos c_17, if_neg c_55] at k; exact k _ hW) | (rw [if_pos c_2, if_neg c_17, if_pos c_33] at k; exact k _ hW) | (rw [if_pos c_2, if_neg c_17, if_neg c_33] at k; exact k _ hW)
set_option maxHeartbeats 1000000 in
set_option maxRecDepth 100000 in
theorem c_X0_tokenComesHome (hW : WE G h0 h o r E Q) {w : Int32} (k : ∀ h, WE G h0 h o r (tcE E w).2 Q → Post (some (.int (b2i (tcE E w).1))) h sz) : Cn l G yX0_tokenComesHome cX0_tokenComesHome 2 (some .boolean) 2 0 0 [.ref o, .int w] h sz Post := by
  refine Cn.of RX0 false (by decide) rfl (fun q => by cases q) (Nat.le_of_ble_eq_true rfl) ?_
  refine V_aload_n 0 dX0_tokenComesHome_0 rfl ?_
  refine V_get 1 dX0_tokenComesHome_1 fdX0_31 (by first | exact hW.1.1 | exact hW.1.2.1 | exact hW.1.2.2.1 | exact hW.1.2.2.2.1 | exact hW.1.2.2.2.2.1 | exact hW.2.1.1 | exact hW.2.1.2.1 | exact hW.2.1.2.2.1) rfl ?_
  refine V_iconstv 4 (5) dX0_tokenComesHome_4 (by decide) ?_
  refine V_ialdk 5 5 rfl dX0_tokenComesHome_5 (by first | exact hW.1.1 | exact hW.1.2.1 | exact hW.1.2.2.1 | exact hW.1.2.2.2.1 | exact hW.1.2.2.2.2.1 | exact hW.2.1.1 | exact hW.2.1.2.1 | exact hW.2.1.2.2.1) (inb_in (by decide)) ?_
  refine V_iconstv 6 (1) dX0_tokenComesHome_6 (by decide) ?_
  refine V_icmp_ne 7 24 dX0_tokenComesHome_7 rfl (fun c_7 => ?_) (fun c_7 => ?_)
  · refine V_aload_n 24 dX0_tokenComesHome_24 rfl ?_
    refine V_iload_n 25 dX0_tokenComesHome_25 rfl ?_
    refine V_iconstv 26 (3) dX0_tokenComesHome_26 (by decide) ?_
    refine V_aload_n 27 dX0_tokenComesHome_27 rfl ?_
    refine V_iload_n 28 dX0_tokenComesHome_28 rfl ?_
    refine V_iconstv 29 (3) dX0_tokenComesHome_29 (by decide) ?_
    refine V_iv2 30 dX0_tokenComesHome_30 kvX0_67 rfl (by first | exact hW.1.1 | exact hW.1.2.1 | exact hW.1.2.2.1 | exact hW.1.2.2.2.1 | exact hW.1.2.2.2.2.1 | exact hW.2.1.1 | exact hW.2.1.2.1 | exact hW.2.1.2.2.1) rfl rfl (c_X0_cell hW ?_)
    refine V_iconstv 33 (1) dX0_tokenComesHome_33 (by decide) ?_
    refine V_iadd 34 dX0_tokenComesHome_34 ?_
    refine V_iv3 35 dX0_tokenComesHome_35 kvX0_44 rfl (by first | exact hW.1.1 | exact hW.1.2.1 | exact hW.1.2.2.1 | exact hW.1.2.2.2.1 | exact hW.1.2.2.2.2.1 | exact hW.2.1.1 | exact hW.2.1.2.1 | exact hW.2.1.2.2.1) rfl rfl (c_X0_setCell hW (fun h hW => ?_))
    refine V_aload_n 38 dX0_tokenComesHome_38 rfl ?_
    refine V_iload_n 39 dX0_tokenComesHome_39 rfl ?_
    refine V_iv1 40 dX0_tokenComesHome_40 kvX0_117 rfl (by first | exact hW.1.1 | exact hW.1.2.1 | exact hW.1.2.2.1 | exact hW.1.2.2.2.1 | exact hW.1.2.2.2.2.1 | exact hW.2.1.1 | exact hW.2.1.2.1 | exact hW.2.1.2.2.1) rfl rfl (c_X0_draw hW (fun h hW => ?_))
    refine V_iconstv 43 (0) dX0_tokenComesHome_43 (by decide) ?_
    refine V_zret 44 dX0_tokenComesHome_44 (Or.inl rfl) ?_
    unfold tcE at k
    first | (rw [if_pos c_7] at k; exact k _ hW) | (rw [if_neg c_7] at k; exact k _ hW)
  · refine V_aload_n 10 dX0_tokenComesHome_10 rfl ?_
    refine V_iload_n 11 dX0_tokenComesHome_11 rfl ?_
    refine V_aload_n 12 dX0_tokenComesHome_12 rfl ?_
    refine V_get 13 dX0_tokenComesHome_13 fdX0_31 (by first | exact hW.1.1 | exact hW.1.2.1 | exact hW.1.2.2.1 | exact hW.1.2.2.2.1 | exact hW.1.2.2.2.2.1 | exact hW.2.1.1 | exact hW.2.1.2.1 | exact hW.2.1.2.2.1) rfl ?_
    refine V_iconstv 16 (2) dX0_tokenComesHome_16 (by decide) ?_
    refine V_ialdk 17 2 rfl dX0_tokenComesHome_17 (by first | exact hW.1.1 | exact hW.1.2.1 | exact hW.1.2.2.1 | exact hW.1.2.2.2.1 | exact hW.1.2.2.2.2.1 | exact hW.2.1.1 | exact hW.2.1.2.1 | exact hW.2.1.2.2.1) (inb_in (by decide)) ?_
    refine V_iv2 18 dX0_tokenComesHome_18 kvX0_160 rfl (by first | exact hW.1.1 | exact hW.1.2.1 | exact hW.1.2.2.1 | exact hW.1.2.2.2.1 | exact hW.1.2.2.2.2.1 | exact hW.2.1.1 | exact hW.2.1.2.1 | exact hW.2.1.2.2.1) rfl rfl (c_X0_becomeHead hW (fun h hW => ?_))
    refine V_goto 21 43 dX0_tokenComesHome_21 rfl ?_
    refine V_iconstv 43 (0) dX0_tokenComesHome_43 (by decide) ?_
    refine V_zret 44 dX0_tokenComesHome_44 (Or.inl rfl) ?_
    unfold tcE at k
    first | (rw [if_pos c_7] at k; exact k _ hW) | (rw [if_neg c_7] at k; exact k _ hW)
set_option maxHeartbeats 1000000 in
set_option maxRecDepth 100000 in
theorem c_X0_tokenGetsPast (hW : WE G h0 h o r E Q) {w : Int32} (k : ∀ h, WE G h0 h o r (tgE E w).2 Q → Post (some (.int (b2i (tgE E w).1))) h sz) : Cn l G yX0_tokenGetsPast cX0_tokenGetsPast 4 (some .boolean) 1 0 0 [.ref o, .int w] h sz Post := by
  refine Cn.of RX0 false (by decide) rfl (fun q => by cases q) (Nat.le_of_ble_eq_true rfl) ?_
  refine V_aload_n 0 dX0_tokenGetsPast_0 rfl ?_
  refine V_get 1 dX0_tokenGetsPast_1 fdX0_31 (by first | exact hW.1.1 | exact hW.1.2.1 | exact hW.1.2.2.1 | exact hW.1.2.2.2.1 | exact hW.1.2.2.2.2.1 | exact hW.2.1.1 | exact hW.2.1.2.1 | exact hW.2.1.2.2.1) rfl ?_
  refine V_iconstv 4 (3) dX0_tokenGetsPast_4 (by decide) ?_
  refine V_ialdk 5 3 rfl dX0_tokenGetsPast_5 (by first | exact hW.1.1 | exact hW.1.2.1 | exact hW.1.2.2.1 | exact hW.1.2.2.2.1 | exact hW.1.2.2.2.2.1 | exact hW.2.1.1 | exact hW.2.1.2.1 | exact hW.2.1.2.2.1) (inb_in (by decide)) ?_
  refine V_aload_n 6 dX0_tokenGetsPast_6 rfl ?_
  refine V_iload_n 7 dX0_tokenGetsPast_7 rfl ?_
  refine V_iconstv 8 (3) dX0_tokenGetsPast_8 (by decide) ?_
  refine V_iv2 9 dX0_tokenGetsPast_9 kvX0_67 rfl (by first | exact hW.1.1 | exact hW.1.2.1 | exact hW.1.2.2.1 | exact hW.1.2.2.2.1 | exact hW.1.2.2.2.2.1 | exact hW.2.1.1 | exact hW.2.1.2.1 | exact hW.2.1.2.2.1) rfl rfl (c_X0_cell hW ?_)
  refine V_isub 12 dX0_tokenGetsPast_12 ?_
  refine V_istore_n 13 dX0_tokenGetsPast_13 rfl rfl ?_
  refine V_aload_n 14 dX0_tokenGetsPast_14 rfl ?_
  refine V_get 15 dX0_tokenGetsPast_15 fdX0_31 (by first | exact hW.1.1 | exact hW.1.2.1 | exact hW.1.2.2.1 | exact hW.1.2.2.2.1 | exact hW.1.2.2.2.2.1 | exact hW.2.1.1 | exact hW.2.1.2.1 | exact hW.2.1.2.2.1) rfl ?_
  refine V_iconstv 18 (2) dX0_tokenGetsPast_18 (by decide) ?_
  refine V_ialdk 19 2 rfl dX0_tokenGetsPast_19 (by first | exact hW.1.1 | exact hW.1.2.1 | exact hW.1.2.2.1 | exact hW.1.2.2.2.1 | exact hW.1.2.2.2.2.1 | exact hW.2.1.1 | exact hW.2.1.2.1 | exact hW.2.1.2.2.1) (inb_in (by decide)) ?_
  refine V_aload_n 20 dX0_tokenGetsPast_20 rfl ?_
  refine V_iload_n 21 dX0_tokenGetsPast_21 rfl ?_
  refine V_iconstv 22 (2) dX0_tokenGetsPast_22 (by decide) ?_
  refine V_iv2 23 dX0_tokenGetsPast_23 kvX0_67 rfl (by first | exact hW.1.1 | exact hW.1.2.1 | exact hW.1.2.2.1 | exact hW.1.2.2.2.1 | exact hW.1.2.2.2.2.1 | exact hW.2.1.1 | exact hW.2.1.2.1 | exact hW.2.1.2.2.1) rfl rfl (c_X0_cell hW ?_)
  refine V_isub 26 dX0_tokenGetsPast_26 ?_
  refine V_istore_n 27 dX0_tokenGetsPast_27 rfl rfl ?_
  refine V_iload_n 28 dX0_tokenGetsPast_28 rfl ?_
  refine V_if_ne 29 45 dX0_tokenGetsPast_29 rfl (fun c_29 => ?_) (fun c_29 => ?_)
  · refine V_iload_n 45 dX0_tokenGetsPast_45 rfl ?_
    refine V_if_gt 46 57 dX0_tokenGetsPast_46 rfl (fun c_46 => ?_) (fun c_46 => ?_)
    · refine V_aload_n 57 dX0_tokenGetsPast_57 rfl ?_
      refine V_iload_n 58 dX0_tokenGetsPast_58 rfl ?_
      refine V_iconstv 59 (0) dX0_tokenGetsPast_59 (by decide) ?_
      refine V_iconstv 60 (2) dX0_tokenGetsPast_60 (by decide) ?_
      refine V_iv3 61 dX0_tokenGetsPast_61 kvX0_44 rfl (by first | exact hW.1.1 | exact hW.1.2.1 | exact hW.1.2.2.1 | exact hW.1.2.2.2.1 | exact hW.1.2.2.2.2.1 | exact hW.2.1.1 | exact hW.2.1.2.1 | exact hW.2.1.2.2.1) rfl rfl (c_X0_setCell hW (fun h hW => ?_))
      refine V_iconstv 64 (1) dX0_tokenGetsPast_64 (by decide) ?_
      refine V_zret 65 dX0_tokenGetsPast_65 (Or.inr rfl) ?_
      unfold tgE tg1 at k
      first | (rw [if_pos c_29, if_pos c_33] at k; exact k _ hW) | (rw [if_pos c_29, if_neg c_33] at k; unfold tg2 at k; first | (rw [if_pos c_46] at k; exact k _ hW) | (rw [if_neg c_46, if_neg c_50] at k; exact k _ hW) | (rw [if_neg c_46, if_pos c_50, if_pos c_54] at k; exact k _ hW) | (rw [if_neg c_46, if_pos c_50, if_neg c_54] at k; exact k _ hW)) | (rw [if_neg c_29] at k; unfold tg2 at k; first | (rw [if_pos c_46] at k; exact k _ hW) | (rw [if_neg c_46, if_neg c_50] at k; exact k _ hW) | (rw [if_neg c_46, if_pos c_50, if_pos c_54] at k; exact k _ hW) | (rw [if_neg c_46, if_pos c_50, if_neg c_54] at k; exact k _ hW))
    · refine V_iload_n 49 dX0_tokenGetsPast_49 rfl ?_
      refine V_if_ne 50 66 dX0_tokenGetsPast_50 rfl (fun c_50 => ?_) (fun c_50 => ?_)
      · refine V_iconstv 66 (0) dX0_tokenGetsPast_66 (by decide) ?_
        refine V_zret 67 dX0_tokenGetsPast_67 (Or.inl rfl) ?_
        unfold tgE tg1 at k
        first | (rw [if_pos c_29, if_pos c_33] at k; exact k _ hW) | (rw [if_pos c_29, if_neg c_33] at k; unfold tg2 at k; first | (rw [if_pos c_46] at k; exact k _ hW) | (rw [if_neg c_46, if_neg c_50] at k; exact k _ hW) | (rw [if_neg c_46, if_pos c_50, if_pos c_54] at k; exact k _ hW) | (rw [if_neg c_46, if_pos c_50, if_neg c_54] at k; exact k _ hW)) | (rw [if_neg c_29] at k; unfold tg2 at k; first | (rw [if_pos c_46] at k; exact k _ hW) | (rw [if_neg c_46, if_neg c_50] at k; exact k _ hW) | (rw [if_neg c_46, if_pos c_50, if_pos c_54] at k; exact k _ hW) | (rw [if_neg c_46, if_pos c_50, if_neg c_54] at k; exact k _ hW))
      · refine V_iload_n 53 dX0_tokenGetsPast_53 rfl ?_
        refine V_if_le 54 66 dX0_tokenGetsPast_54 rfl (fun c_54 => ?_) (fun c_54 => ?_)
        · refine V_iconstv 66 (0) dX0_tokenGetsPast_66 (by decide) ?_
          refine V_zret 67 dX0_tokenGetsPast_67 (Or.inl rfl) ?_
          unfold tgE tg1 at k
          first | (rw [if_pos c_29, if_pos c_33] at k; exact k _ hW) | (rw [if_pos c_29, if_neg c_33] at k; unfold tg2 at k; first | (rw [if_pos c_46] at k; exact k _ hW) | (rw [if_neg c_46, if_neg c_50] at k; exact k _ hW) | (rw [if_neg c_46, if_pos c_50, if_pos c_54] at k; exact k _ hW) | (rw [if_neg c_46, if_pos c_50, if_neg c_54] at k; exact k _ hW)) | (rw [if_neg c_29] at k; unfold tg2 at k; first | (rw [if_pos c_46] at k; exact k _ hW) | (rw [if_neg c_46, if_neg c_50] at k; exact k _ hW) | (rw [if_neg c_46, if_pos c_50, if_pos c_54] at k; exact k _ hW) | (rw [if_neg c_46, if_pos c_50, if_neg c_54] at k; exact k _ hW))
        · refine V_aload_n 57 dX0_tokenGetsPast_57 rfl ?_
          refine V_iload_n 58 dX0_tokenGetsPast_58 rfl ?_
          refine V_iconstv 59 (0) dX0_tokenGetsPast_59 (by decide) ?_
          refine V_iconstv 60 (2) dX0_tokenGetsPast_60 (by decide) ?_
          refine V_iv3 61 dX0_tokenGetsPast_61 kvX0_44 rfl (by first | exact hW.1.1 | exact hW.1.2.1 | exact hW.1.2.2.1 | exact hW.1.2.2.2.1 | exact hW.1.2.2.2.2.1 | exact hW.2.1.1 | exact hW.2.1.2.1 | exact hW.2.1.2.2.1) rfl rfl (c_X0_setCell hW (fun h hW => ?_))
          refine V_iconstv 64 (1) dX0_tokenGetsPast_64 (by decide) ?_
          refine V_zret 65 dX0_tokenGetsPast_65 (Or.inr rfl) ?_
          unfold tgE tg1 at k
          first | (rw [if_pos c_29, if_pos c_33] at k; exact k _ hW) | (rw [if_pos c_29, if_neg c_33] at k; unfold tg2 at k; first | (rw [if_pos c_46] at k; exact k _ hW) | (rw [if_neg c_46, if_neg c_50] at k; exact k _ hW) | (rw [if_neg c_46, if_pos c_50, if_pos c_54] at k; exact k _ hW) | (rw [if_neg c_46, if_pos c_50, if_neg c_54] at k; exact k _ hW)) | (rw [if_neg c_29] at k; unfold tg2 at k; first | (rw [if_pos c_46] at k; exact k _ hW) | (rw [if_neg c_46, if_neg c_50] at k; exact k _ hW) | (rw [if_neg c_46, if_pos c_50, if_pos c_54] at k; exact k _ hW) | (rw [if_neg c_46, if_pos c_50, if_neg c_54] at k; exact k _ hW))
  · refine V_iload_n 32 dX0_tokenGetsPast_32 rfl ?_
    refine V_if_ne 33 45 dX0_tokenGetsPast_33 rfl (fun c_33 => ?_) (fun c_33 => ?_)
    · refine V_iload_n 45 dX0_tokenGetsPast_45 rfl ?_
      refine V_if_gt 46 57 dX0_tokenGetsPast_46 rfl (fun c_46 => ?_) (fun c_46 => ?_)
      · refine V_aload_n 57 dX0_tokenGetsPast_57 rfl ?_
        refine V_iload_n 58 dX0_tokenGetsPast_58 rfl ?_
        refine V_iconstv 59 (0) dX0_tokenGetsPast_59 (by decide) ?_
        refine V_iconstv 60 (2) dX0_tokenGetsPast_60 (by decide) ?_
        refine V_iv3 61 dX0_tokenGetsPast_61 kvX0_44 rfl (by first | exact hW.1.1 | exact hW.1.2.1 | exact hW.1.2.2.1 | exact hW.1.2.2.2.1 | exact hW.1.2.2.2.2.1 | exact hW.2.1.1 | exact hW.2.1.2.1 | exact hW.2.1.2.2.1) rfl rfl (c_X0_setCell hW (fun h hW => ?_))
        refine V_iconstv 64 (1) dX0_tokenGetsPast_64 (by decide) ?_
        refine V_zret 65 dX0_tokenGetsPast_65 (Or.inr rfl) ?_
        unfold tgE tg1 at k
        first | (rw [if_pos c_29, if_pos c_33] at k; exact k _ hW) | (rw [if_pos c_29, if_neg c_33] at k; unfold tg2 at k; first | (rw [if_pos c_46] at k; exact k _ hW) | (rw [if_neg c_46, if_neg c_50] at k; exact k _ hW) | (rw [if_neg c_46, if_pos c_50, if_pos c_54] at k; exact k _ hW) | (rw [if_neg c_46, if_pos c_50, if_neg c_54] at k; exact k _ hW)) | (rw [if_neg c_29] at k; unfold tg2 at k; first | (rw [if_pos c_46] at k; exact k _ hW) | (rw [if_neg c_46, if_neg c_50] at k; exact k _ hW) | (rw [if_neg c_46, if_pos c_50, if_pos c_54] at k; exact k _ hW) | (rw [if_neg c_46, if_pos c_50, if_neg c_54] at k; exact k _ hW))
      · refine V_iload_n 49 dX0_tokenGetsPast_49 rfl ?_
        refine V_if_ne 50 66 dX0_tokenGetsPast_50 rfl (fun c_50 => ?_) (fun c_50 => ?_)
        · refine V_iconstv 66 (0) dX0_tokenGetsPast_66 (by decide) ?_
          refine V_zret 67 dX0_tokenGetsPast_67 (Or.inl rfl) ?_
          unfold tgE tg1 at k
          first | (rw [if_pos c_29, if_pos c_33] at k; exact k _ hW) | (rw [if_pos c_29, if_neg c_33] at k; unfold tg2 at k; first | (rw [if_pos c_46] at k; exact k _ hW) | (rw [if_neg c_46, if_neg c_50] at k; exact k _ hW) | (rw [if_neg c_46, if_pos c_50, if_pos c_54] at k; exact k _ hW) | (rw [if_neg c_46, if_pos c_50, if_neg c_54] at k; exact k _ hW)) | (rw [if_neg c_29] at k; unfold tg2 at k; first | (rw [if_pos c_46] at k; exact k _ hW) | (rw [if_neg c_46, if_neg c_50] at k; exact k _ hW) | (rw [if_neg c_46, if_pos c_50, if_pos c_54] at k; exact k _ hW) | (rw [if_neg c_46, if_pos c_50, if_neg c_54] at k; exact k _ hW))
        · refine V_iload_n 53 dX0_tokenGetsPast_53 rfl ?_
          refine V_if_le 54 66 dX0_tokenGetsPast_54 rfl (fun c_54 => ?_) (fun c_54 => ?_)
          · refine V_iconstv 66 (0) dX0_tokenGetsPast_66 (by decide) ?_
            refine V_zret 67 dX0_tokenGetsPast_67 (Or.inl rfl) ?_
            unfold tgE tg1 at k
            first | (rw [if_pos c_29, if_pos c_33] at k; exact k _ hW) | (rw [if_pos c_29, if_neg c_33] at k; unfold tg2 at k; first | (rw [if_pos c_46] at k; exact k _ hW) | (rw [if_neg c_46, if_neg c_50] at k; exact k _ hW) | (rw [if_neg c_46, if_pos c_50, if_pos c_54] at k; exact k _ hW) | (rw [if_neg c_46, if_pos c_50, if_neg c_54] at k; exact k _ hW)) | (rw [if_neg c_29] at k; unfold tg2 at k; first | (rw [if_pos c_46] at k; exact k _ hW) | (rw [if_neg c_46, if_neg c_50] at k; exact k _ hW) | (rw [if_neg c_46, if_pos c_50, if_pos c_54] at k; exact k _ hW) | (rw [if_neg c_46, if_pos c_50, if_neg c_54] at k; exact k _ hW))
          · refine V_aload_n 57 dX0_tokenGetsPast_57 rfl ?_
            refine V_iload_n 58 dX0_tokenGetsPast_58 rfl ?_
            refine V_iconstv 59 (0) dX0_tokenGetsPast_59 (by decide) ?_
            refine V_iconstv 60 (2) dX0_tokenGetsPast_60 (by decide) ?_
            refine V_iv3 61 dX0_tokenGetsPast_61 kvX0_44 rfl (by first | exact hW.1.1 | exact hW.1.2.1 | exact hW.1.2.2.1 | exact hW.1.2.2.2.1 | exact hW.1.2.2.2.2.1 | exact hW.2.1.1 | exact hW.2.1.2.1 | exact hW.2.1.2.2.1) rfl rfl (c_X0_setCell hW (fun h hW => ?_))
            refine V_iconstv 64 (1) dX0_tokenGetsPast_64 (by decide) ?_
            refine V_zret 65 dX0_tokenGetsPast_65 (Or.inr rfl) ?_
            unfold tgE tg1 at k
            first | (rw [if_pos c_29, if_pos c_33] at k; exact k _ hW) | (rw [if_pos c_29, if_neg c_33] at k; unfold tg2 at k; first | (rw [if_pos c_46] at k; exact k _ hW) | (rw [if_neg c_46, if_neg c_50] at k; exact k _ hW) | (rw [if_neg c_46, if_pos c_50, if_pos c_54] at k; exact k _ hW) | (rw [if_neg c_46, if_pos c_50, if_neg c_54] at k; exact k _ hW)) | (rw [if_neg c_29] at k; unfold tg2 at k; first | (rw [if_pos c_46] at k; exact k _ hW) | (rw [if_neg c_46, if_neg c_50] at k; exact k _ hW) | (rw [if_neg c_46, if_pos c_50, if_pos c_54] at k; exact k _ hW) | (rw [if_neg c_46, if_pos c_50, if_neg c_54] at k; exact k _ hW))
    · refine V_aload_n 36 dX0_tokenGetsPast_36 rfl ?_
      refine V_get 37 dX0_tokenGetsPast_37 fdX0_31 (by first | exact hW.1.1 | exact hW.1.2.1 | exact hW.1.2.2.1 | exact hW.1.2.2.2.1 | exact hW.1.2.2.2.2.1 | exact hW.2.1.1 | exact hW.2.1.2.1 | exact hW.2.1.2.2.1) rfl ?_
      refine V_iconstv 40 (5) dX0_tokenGetsPast_40 (by decide) ?_
      refine V_iconstv 41 (0) dX0_tokenGetsPast_41 (by decide) ?_
      refine V_iastH 42 5 rfl dX0_tokenGetsPast_42 hW (inb_in (by decide)) (fun h hW => ?_)
      refine V_iconstv 43 (1) dX0_tokenGetsPast_43 (by decide) ?_
      refine V_zret 44 dX0_tokenGetsPast_44 (Or.inr rfl) ?_
      unfold tgE tg1 at k
      first | (rw [if_pos c_29, if_pos c_33] at k; exact k _ hW) | (rw [if_pos c_29, if_neg c_33] at k; unfold tg2 at k; first | (rw [if_pos c_46] at k; exact k _ hW) | (rw [if_neg c_46, if_neg c_50] at k; exact k _ hW) | (rw [if_neg c_46, if_pos c_50, if_pos c_54] at k; exact k _ hW) | (rw [if_neg c_46, if_pos c_50, if_neg c_54] at k; exact k _ hW)) | (rw [if_neg c_29] at k; unfold tg2 at k; first | (rw [if_pos c_46] at k; exact k _ hW) | (rw [if_neg c_46, if_neg c_50] at k; exact k _ hW) | (rw [if_neg c_46, if_pos c_50, if_pos c_54] at k; exact k _ hW) | (rw [if_neg c_46, if_pos c_50, if_neg c_54] at k; exact k _ hW))
set_option maxHeartbeats 1000000 in
set_option maxRecDepth 100000 in
theorem c_X0_tokenGoesOn (hW : WE G h0 h o r E Q) {w : Int32} (k : ∀ h, WE G h0 h o r (toE Q E w).2 Q → Post (some (.int (b2i (toE Q E w).1))) h sz) : Cn l G yX0_tokenGoesOn cX0_tokenGoesOn 3 (some .boolean) 3 0 0 [.ref o, .int w] h sz Post := by
  refine Cn.of RX0 false (by decide) rfl (fun q => by cases q) (Nat.le_of_ble_eq_true rfl) ?_
  refine V_aload_n 0 dX0_tokenGoesOn_0 rfl ?_
  refine V_get 1 dX0_tokenGoesOn_1 fdX0_31 (by first | exact hW.1.1 | exact hW.1.2.1 | exact hW.1.2.2.1 | exact hW.1.2.2.2.1 | exact hW.1.2.2.2.2.1 | exact hW.2.1.1 | exact hW.2.1.2.1 | exact hW.2.1.2.2.1) rfl ?_
  refine V_iconstv 4 (4) dX0_tokenGoesOn_4 (by decide) ?_
  refine V_ialdk 5 4 rfl dX0_tokenGoesOn_5 (by first | exact hW.1.1 | exact hW.1.2.1 | exact hW.1.2.2.1 | exact hW.1.2.2.2.1 | exact hW.1.2.2.2.2.1 | exact hW.2.1.1 | exact hW.2.1.2.1 | exact hW.2.1.2.2.1) (inb_in (by decide)) ?_
  refine V_aload_n 6 dX0_tokenGoesOn_6 rfl ?_
  refine V_get 7 dX0_tokenGoesOn_7 fdX0_34 (by first | exact hW.1.1 | exact hW.1.2.1 | exact hW.1.2.2.1 | exact hW.1.2.2.2.1 | exact hW.1.2.2.2.2.1 | exact hW.2.1.1 | exact hW.2.1.2.1 | exact hW.2.1.2.2.1) rfl ?_
  refine V_get 10 dX0_tokenGoesOn_10 fdX0_64 (by first | exact hW.1.1 | exact hW.1.2.1 | exact hW.1.2.2.1 | exact hW.1.2.2.2.1 | exact hW.1.2.2.2.2.1 | exact hW.2.1.1 | exact hW.2.1.2.1 | exact hW.2.1.2.2.1) rfl ?_
  refine V_icmp_eq 13 20 dX0_tokenGoesOn_13 rfl (fun c_13 => ?_) (fun c_13 => ?_)
  · refine V_iconstv 20 (0) dX0_tokenGoesOn_20 (by decide) ?_
    refine V_istore_n 21 dX0_tokenGoesOn_21 rfl rfl ?_
    refine V_aload_n 22 dX0_tokenGoesOn_22 rfl ?_
    refine V_iload_n 23 dX0_tokenGoesOn_23 rfl ?_
    refine V_iv1 24 dX0_tokenGoesOn_24 kvX0_157 rfl (by first | exact hW.1.1 | exact hW.1.2.1 | exact hW.1.2.2.1 | exact hW.1.2.2.2.1 | exact hW.1.2.2.2.2.1 | exact hW.2.1.1 | exact hW.2.1.2.1 | exact hW.2.1.2.2.1) rfl rfl (c_X0_isRunning hW (fun c_24 => ?_) (fun c_24 => ?_))
    · refine V_if_eq 27 48 dX0_tokenGoesOn_27 rfl (fun q => absurd q (by decide)) (fun _ => ?_)
      refine V_iload_n 30 dX0_tokenGoesOn_30 rfl ?_
      refine V_if_eq 31 42 dX0_tokenGoesOn_31 rfl (fun _ => ?_) (fun q => absurd q (by decide))
      refine V_aload_n 42 dX0_tokenGoesOn_42 rfl ?_
      refine V_iload_n 43 dX0_tokenGoesOn_43 rfl ?_
      refine V_iv1 44 dX0_tokenGoesOn_44 kvX0_173 rfl (by first | exact hW.1.1 | exact hW.1.2.1 | exact hW.1.2.2.1 | exact hW.1.2.2.2.1 | exact hW.1.2.2.2.2.1 | exact hW.2.1.1 | exact hW.2.1.2.1 | exact hW.2.1.2.2.1) rfl rfl (c_X0_tokenComesHome hW (fun h hW => ?_))
      refine V_istore_n 47 dX0_tokenGoesOn_47 rfl rfl ?_
      refine V_aload_n 48 dX0_tokenGoesOn_48 rfl ?_
      refine V_get 49 dX0_tokenGoesOn_49 fdX0_31 (by first | exact hW.1.1 | exact hW.1.2.1 | exact hW.1.2.2.1 | exact hW.1.2.2.2.1 | exact hW.1.2.2.2.2.1 | exact hW.2.1.1 | exact hW.2.1.2.1 | exact hW.2.1.2.2.1) rfl ?_
      refine V_iconstv 52 (4) dX0_tokenGoesOn_52 (by decide) ?_
      refine V_dup2 53 dX0_tokenGoesOn_53 ?_
      refine V_ialdk 54 4 rfl dX0_tokenGoesOn_54 (by first | exact hW.1.1 | exact hW.1.2.1 | exact hW.1.2.2.1 | exact hW.1.2.2.2.1 | exact hW.1.2.2.2.2.1 | exact hW.2.1.1 | exact hW.2.1.2.1 | exact hW.2.1.2.2.1) (inb_in (by decide)) ?_
      refine V_iconstv 55 (1) dX0_tokenGoesOn_55 (by decide) ?_
      refine V_iadd 56 dX0_tokenGoesOn_56 ?_
      refine V_iastH 57 4 rfl dX0_tokenGoesOn_57 hW (inb_in (by decide)) (fun h hW => ?_)
      refine V_iload_n 58 dX0_tokenGoesOn_58 rfl ?_
      refine V_zret 59 dX0_tokenGoesOn_59 (b2i_01 _) ?_
      unfold toE at k
      first | (rw [if_pos c_24, if_pos c_13] at k; exact k _ hW) | (rw [if_pos c_24, if_neg c_13] at k; exact k _ hW) | (rw [if_neg c_24, if_pos c_13] at k; exact k _ hW) | (rw [if_neg c_24, if_neg c_13] at k; exact k _ hW)
    · refine V_if_eq 27 48 dX0_tokenGoesOn_27 rfl (fun _ => ?_) (fun q => absurd q (by decide))
      refine V_aload_n 48 dX0_tokenGoesOn_48 rfl ?_
      refine V_get 49 dX0_tokenGoesOn_49 fdX0_31 (by first | exact hW.1.1 | exact hW.1.2.1 | exact hW.1.2.2.1 | exact hW.1.2.2.2.1 | exact hW.1.2.2.2.2.1 | exact hW.2.1.1 | exact hW.2.1.2.1 | exact hW.2.1.2.2.1) rfl ?_
      refine V_iconstv 52 (4) dX0_tokenGoesOn_52 (by decide) ?_
      refine V_dup2 53 dX0_tokenGoesOn_53 ?_
      refine V_ialdk 54 4 rfl dX0_tokenGoesOn_54 (by first | exact hW.1.1 | exact hW.1.2.1 | exact hW.1.2.2.1 | exact hW.1.2.2.2.1 | exact hW.1.2.2.2.2.1 | exact hW.2.1.1 | exact hW.2.1.2.1 | exact hW.2.1.2.2.1) (inb_in (by decide)) ?_
      refine V_iconstv 55 (1) dX0_tokenGoesOn_55 (by decide) ?_
      refine V_iadd 56 dX0_tokenGoesOn_56 ?_
      refine V_iastH 57 4 rfl dX0_tokenGoesOn_57 hW (inb_in (by decide)) (fun h hW => ?_)
      refine V_iload_n 58 dX0_tokenGoesOn_58 rfl ?_
      refine V_zret 59 dX0_tokenGoesOn_59 (Or.inl rfl) ?_
      unfold toE at k
      first | (rw [if_pos c_24, if_pos c_13] at k; exact k _ hW) | (rw [if_pos c_24, if_neg c_13] at k; exact k _ hW) | (rw [if_neg c_24, if_pos c_13] at k; exact k _ hW) | (rw [if_neg c_24, if_neg c_13] at k; exact k _ hW)
  · refine V_iconstv 16 (1) dX0_tokenGoesOn_16 (by decide) ?_
    refine V_goto 17 21 dX0_tokenGoesOn_17 rfl ?_
    refine V_istore_n 21 dX0_tokenGoesOn_21 rfl rfl ?_
    refine V_aload_n 22 dX0_tokenGoesOn_22 rfl ?_
    refine V_iload_n 23 dX0_tokenGoesOn_23 rfl ?_
    refine V_iv1 24 dX0_tokenGoesOn_24 kvX0_157 rfl (by first | exact hW.1.1 | exact hW.1.2.1 | exact hW.1.2.2.1 | exact hW.1.2.2.2.1 | exact hW.1.2.2.2.2.1 | exact hW.2.1.1 | exact hW.2.1.2.1 | exact hW.2.1.2.2.1) rfl rfl (c_X0_isRunning hW (fun c_24 => ?_) (fun c_24 => ?_))
    · refine V_if_eq 27 48 dX0_tokenGoesOn_27 rfl (fun q => absurd q (by decide)) (fun _ => ?_)
      refine V_iload_n 30 dX0_tokenGoesOn_30 rfl ?_
      refine V_if_eq 31 42 dX0_tokenGoesOn_31 rfl (fun q => absurd q (by decide)) (fun _ => ?_)
      refine V_aload_n 34 dX0_tokenGoesOn_34 rfl ?_
      refine V_iload_n 35 dX0_tokenGoesOn_35 rfl ?_
      refine V_iv1 36 dX0_tokenGoesOn_36 kvX0_170 rfl (by first | exact hW.1.1 | exact hW.1.2.1 | exact hW.1.2.2.1 | exact hW.1.2.2.2.1 | exact hW.1.2.2.2.2.1 | exact hW.2.1.1 | exact hW.2.1.2.1 | exact hW.2.1.2.2.1) rfl rfl (c_X0_tokenGetsPast hW (fun h hW => ?_))
      refine V_goto 39 47 dX0_tokenGoesOn_39 rfl ?_
      refine V_istore_n 47 dX0_tokenGoesOn_47 rfl rfl ?_
      refine V_aload_n 48 dX0_tokenGoesOn_48 rfl ?_
      refine V_get 49 dX0_tokenGoesOn_49 fdX0_31 (by first | exact hW.1.1 | exact hW.1.2.1 | exact hW.1.2.2.1 | exact hW.1.2.2.2.1 | exact hW.1.2.2.2.2.1 | exact hW.2.1.1 | exact hW.2.1.2.1 | exact hW.2.1.2.2.1) rfl ?_
      refine V_iconstv 52 (4) dX0_tokenGoesOn_52 (by decide) ?_
      refine V_dup2 53 dX0_tokenGoesOn_53 ?_
      refine V_ialdk 54 4 rfl dX0_tokenGoesOn_54 (by first | exact hW.1.1 | exact hW.1.2.1 | exact hW.1.2.2.1 | exact hW.1.2.2.2.1 | exact hW.1.2.2.2.2.1 | exact hW.2.1.1 | exact hW.2.1.2.1 | exact hW.2.1.2.2.1) (inb_in (by decide)) ?_
      refine V_iconstv 55 (1) dX0_tokenGoesOn_55 (by decide) ?_
      refine V_iadd 56 dX0_tokenGoesOn_56 ?_
      refine V_iastH 57 4 rfl dX0_tokenGoesOn_57 hW (inb_in (by decide)) (fun h hW => ?_)
      refine V_iload_n 58 dX0_tokenGoesOn_58 rfl ?_
      refine V_zret 59 dX0_tokenGoesOn_59 (b2i_01 _) ?_
      unfold toE at k
      first | (rw [if_pos c_24, if_pos c_13] at k; exact k _ hW) | (rw [if_pos c_24, if_neg c_13] at k; exact k _ hW) | (rw [if_neg c_24, if_pos c_13] at k; exact k _ hW) | (rw [if_neg c_24, if_neg c_13] at k; exact k _ hW)
    · refine V_if_eq 27 48 dX0_tokenGoesOn_27 rfl (fun _ => ?_) (fun q => absurd q (by decide))
      refine V_aload_n 48 dX0_tokenGoesOn_48 rfl ?_
      refine V_get 49 dX0_tokenGoesOn_49 fdX0_31 (by first | exact hW.1.1 | exact hW.1.2.1 | exact hW.1.2.2.1 | exact hW.1.2.2.2.1 | exact hW.1.2.2.2.2.1 | exact hW.2.1.1 | exact hW.2.1.2.1 | exact hW.2.1.2.2.1) rfl ?_
      refine V_iconstv 52 (4) dX0_tokenGoesOn_52 (by decide) ?_
      refine V_dup2 53 dX0_tokenGoesOn_53 ?_
      refine V_ialdk 54 4 rfl dX0_tokenGoesOn_54 (by first | exact hW.1.1 | exact hW.1.2.1 | exact hW.1.2.2.1 | exact hW.1.2.2.2.1 | exact hW.1.2.2.2.2.1 | exact hW.2.1.1 | exact hW.2.1.2.1 | exact hW.2.1.2.2.1) (inb_in (by decide)) ?_
      refine V_iconstv 55 (1) dX0_tokenGoesOn_55 (by decide) ?_
      refine V_iadd 56 dX0_tokenGoesOn_56 ?_
      refine V_iastH 57 4 rfl dX0_tokenGoesOn_57 hW (inb_in (by decide)) (fun h hW => ?_)
      refine V_iload_n 58 dX0_tokenGoesOn_58 rfl ?_
      refine V_zret 59 dX0_tokenGoesOn_59 (Or.inr rfl) ?_
      unfold toE at k
      first | (rw [if_pos c_24, if_pos c_13] at k; exact k _ hW) | (rw [if_pos c_24, if_neg c_13] at k; exact k _ hW) | (rw [if_neg c_24, if_pos c_13] at k; exact k _ hW) | (rw [if_neg c_24, if_neg c_13] at k; exact k _ hW)
set_option maxHeartbeats 1000000 in
set_option maxRecDepth 100000 in
theorem c_X0_goesOn (hW : WE G h0 h o r E Q) {w : Int32} (k : ∀ h, WE G h0 h o r (goE Q E w).2 Q → Post (some (.int (b2i (goE Q E w).1))) h sz) : Cn l G yX0_goesOn cX0_goesOn 2 (some .boolean) 4 0 0 [.ref o, .int w] h sz Post := by
  refine Cn.of RX0 false (by decide) rfl (fun q => by cases q) (Nat.le_of_ble_eq_true rfl) ?_
  refine V_aload_n 0 dX0_goesOn_0 rfl ?_
  refine V_get 1 dX0_goesOn_1 fdX0_31 (by first | exact hW.1.1 | exact hW.1.2.1 | exact hW.1.2.2.1 | exact hW.1.2.2.2.1 | exact hW.1.2.2.2.2.1 | exact hW.2.1.1 | exact hW.2.1.2.1 | exact hW.2.1.2.2.1) rfl ?_
  refine V_iconstv 4 (1) dX0_goesOn_4 (by decide) ?_
  refine V_ialdk 5 1 rfl dX0_goesOn_5 (by first | exact hW.1.1 | exact hW.1.2.1 | exact hW.1.2.2.1 | exact hW.1.2.2.2.1 | exact hW.1.2.2.2.2.1 | exact hW.2.1.1 | exact hW.2.1.2.1 | exact hW.2.1.2.2.1) (inb_in (by decide)) ?_
  by_cases sw6_1 : (eH E 1) = 1
  · refine V_tableIn 6 44 (38) dX0_goesOn_6 (by rw [sw6_1]; decide) (by rw [sw6_1]; decide) (by rw [sw6_1]; rfl) rfl ?_
    refine V_aload_n 44 dX0_goesOn_44 rfl ?_
    refine V_iload_n 45 dX0_goesOn_45 rfl ?_
    refine V_iv1 46 dX0_goesOn_46 kvX0_139 rfl (by first | exact hW.1.1 | exact hW.1.2.1 | exact hW.1.2.2.1 | exact hW.1.2.2.2.1 | exact hW.1.2.2.2.2.1 | exact hW.2.1.1 | exact hW.2.1.2.1 | exact hW.2.1.2.2.1) rfl rfl (c_X0_getsPast hW (fun h hW => ?_))
    refine V_zret 49 dX0_goesOn_49 (b2i_01 _) ?_
    unfold goE at k
    rw [if_pos sw6_1] at k
    exact k _ hW
  by_cases sw6_2 : (eH E 1) = 2
  · refine V_tableIn 6 50 (44) dX0_goesOn_6 (by rw [sw6_2]; decide) (by rw [sw6_2]; decide) (by rw [sw6_2]; rfl) rfl ?_
    refine V_aload_n 50 dX0_goesOn_50 rfl ?_
    refine V_iload_n 51 dX0_goesOn_51 rfl ?_
    refine V_iv1 52 dX0_goesOn_52 kvX0_139 rfl (by first | exact hW.1.1 | exact hW.1.2.1 | exact hW.1.2.2.1 | exact hW.1.2.2.2.1 | exact hW.1.2.2.2.2.1 | exact hW.2.1.1 | exact hW.2.1.2.1 | exact hW.2.1.2.2.1) rfl rfl (c_X0_getsPast hW (fun h hW => ?_))
    refine V_if_eq 55 70 dX0_goesOn_55 rfl (fun c_55 => ?_) (fun c_55 => ?_)
    · refine V_iconstv 70 (0) dX0_goesOn_70 (by decide) ?_
      refine V_zret 71 dX0_goesOn_71 (Or.inl rfl) ?_
      unfold goE at k
      rw [if_neg sw6_1, if_pos sw6_2] at k
      first | (unfold go2 at k; rw [if_pos c_55] at k; exact k _ hW) | (unfold go2 at k; rw [if_neg c_55, b2i_0 c_63] at k; exact k _ hW) | (unfold go2 at k; rw [if_neg c_55, b2i_n0 c_63] at k; exact k _ hW)
    · refine V_aload_n 58 dX0_goesOn_58 rfl ?_
      refine V_iload_n 59 dX0_goesOn_59 rfl ?_
      refine V_iv1 60 dX0_goesOn_60 kvX0_142 rfl (by first | exact hW.1.1 | exact hW.1.2.1 | exact hW.1.2.2.1 | exact hW.1.2.2.2.1 | exact hW.1.2.2.2.2.1 | exact hW.2.1.1 | exact hW.2.1.2.1 | exact hW.2.1.2.2.1) rfl rfl (c_X0_probeGoesOn hW (fun h hW => ?_))
      refine V_if_eq 63 70 dX0_goesOn_63 rfl (fun c_63 => ?_) (fun c_63 => ?_)
      · refine V_iconstv 70 (0) dX0_goesOn_70 (by decide) ?_
        refine V_zret 71 dX0_goesOn_71 (Or.inl rfl) ?_
        unfold goE at k
        rw [if_neg sw6_1, if_pos sw6_2] at k
        first | (unfold go2 at k; rw [if_pos c_55] at k; exact k _ hW) | (unfold go2 at k; rw [if_neg c_55, b2i_0 c_63] at k; exact k _ hW) | (unfold go2 at k; rw [if_neg c_55, b2i_n0 c_63] at k; exact k _ hW)
      · refine V_iconstv 66 (1) dX0_goesOn_66 (by decide) ?_
        refine V_goto 67 71 dX0_goesOn_67 rfl ?_
        refine V_zret 71 dX0_goesOn_71 (Or.inr rfl) ?_
        unfold goE at k
        rw [if_neg sw6_1, if_pos sw6_2] at k
        first | (unfold go2 at k; rw [if_pos c_55] at k; exact k _ hW) | (unfold go2 at k; rw [if_neg c_55, b2i_0 c_63] at k; exact k _ hW) | (unfold go2 at k; rw [if_neg c_55, b2i_n0 c_63] at k; exact k _ hW)
  by_cases sw6_3 : (eH E 1) = 3
  · refine V_tableIn 6 72 (66) dX0_goesOn_6 (by rw [sw6_3]; decide) (by rw [sw6_3]; decide) (by rw [sw6_3]; rfl) rfl ?_
    refine V_aload_n 72 dX0_goesOn_72 rfl ?_
    refine V_iload_n 73 dX0_goesOn_73 rfl ?_
    refine V_iv1 74 dX0_goesOn_74 kvX0_145 rfl (by first | exact hW.1.1 | exact hW.1.2.1 | exact hW.1.2.2.1 | exact hW.1.2.2.2.1 | exact hW.1.2.2.2.2.1 | exact hW.2.1.1 | exact hW.2.1.2.1 | exact hW.2.1.2.2.1) rfl rfl (c_X0_replyGoesOn hW (fun h hW => ?_))
    refine V_zret 77 dX0_goesOn_77 (b2i_01 _) ?_
    unfold goE at k
    rw [if_neg sw6_1, if_neg sw6_2, if_pos sw6_3] at k
    exact k _ hW
  by_cases sw6_4 : (eH E 1) = 4
  · refine V_tableIn 6 78 (72) dX0_goesOn_6 (by rw [sw6_4]; decide) (by rw [sw6_4]; decide) (by rw [sw6_4]; rfl) rfl ?_
    refine V_aload_n 78 dX0_goesOn_78 rfl ?_
    refine V_iload_n 79 dX0_goesOn_79 rfl ?_
    refine V_iv1 80 dX0_goesOn_80 kvX0_148 rfl (by first | exact hW.1.1 | exact hW.1.2.1 | exact hW.1.2.2.1 | exact hW.1.2.2.2.1 | exact hW.1.2.2.2.2.1 | exact hW.2.1.1 | exact hW.2.1.2.1 | exact hW.2.1.2.2.1) rfl rfl (c_X0_markGoesOn hW (fun h hW => ?_))
    refine V_zret 83 dX0_goesOn_83 (b2i_01 _) ?_
    first | (unfold goE at k; rw [if_neg sw6_1, if_neg sw6_2, if_neg sw6_3, if_pos sw6_4] at k; exact k _ hW) | (unfold goE at k; rw [if_neg sw6_1, if_neg sw6_2, if_neg sw6_3, if_neg sw6_4, if_pos sw6_5] at k; exact k _ hW)
  by_cases sw6_5 : (eH E 1) = 5
  · refine V_tableIn 6 78 (72) dX0_goesOn_6 (by rw [sw6_5]; decide) (by rw [sw6_5]; decide) (by rw [sw6_5]; rfl) rfl ?_
    refine V_aload_n 78 dX0_goesOn_78 rfl ?_
    refine V_iload_n 79 dX0_goesOn_79 rfl ?_
    refine V_iv1 80 dX0_goesOn_80 kvX0_148 rfl (by first | exact hW.1.1 | exact hW.1.2.1 | exact hW.1.2.2.1 | exact hW.1.2.2.2.1 | exact hW.1.2.2.2.2.1 | exact hW.2.1.1 | exact hW.2.1.2.1 | exact hW.2.1.2.2.1) rfl rfl (c_X0_markGoesOn hW (fun h hW => ?_))
    refine V_zret 83 dX0_goesOn_83 (b2i_01 _) ?_
    first | (unfold goE at k; rw [if_neg sw6_1, if_neg sw6_2, if_neg sw6_3, if_pos sw6_4] at k; exact k _ hW) | (unfold goE at k; rw [if_neg sw6_1, if_neg sw6_2, if_neg sw6_3, if_neg sw6_4, if_pos sw6_5] at k; exact k _ hW)
  by_cases sw6_6 : (eH E 1) = 6
  · refine V_tableIn 6 84 (78) dX0_goesOn_6 (by rw [sw6_6]; decide) (by rw [sw6_6]; decide) (by rw [sw6_6]; rfl) rfl ?_
    refine V_aload_n 84 dX0_goesOn_84 rfl ?_
    refine V_iload_n 85 dX0_goesOn_85 rfl ?_
    refine V_iv1 86 dX0_goesOn_86 kvX0_151 rfl (by first | exact hW.1.1 | exact hW.1.2.1 | exact hW.1.2.2.1 | exact hW.1.2.2.2.1 | exact hW.1.2.2.2.2.1 | exact hW.2.1.1 | exact hW.2.1.2.1 | exact hW.2.1.2.2.1) rfl rfl (c_X0_tokenGoesOn hW (fun h hW => ?_))
    refine V_zret 89 dX0_goesOn_89 (b2i_01 _) ?_
    unfold goE at k
    rw [if_neg sw6_1, if_neg sw6_2, if_neg sw6_3, if_neg sw6_4, if_neg sw6_5, if_pos sw6_6] at k
    exact k _ hW
  have tq1 : ¬ (eH E 1).toInt = 1 := fun q => sw6_1 (Int32.toInt_inj.mp q)
  have tq2 : ¬ (eH E 1).toInt = 2 := fun q => sw6_2 (Int32.toInt_inj.mp q)
  have tq3 : ¬ (eH E 1).toInt = 3 := fun q => sw6_3 (Int32.toInt_inj.mp q)
  have tq4 : ¬ (eH E 1).toInt = 4 := fun q => sw6_4 (Int32.toInt_inj.mp q)
  have tq5 : ¬ (eH E 1).toInt = 5 := fun q => sw6_5 (Int32.toInt_inj.mp q)
  have tq6 : ¬ (eH E 1).toInt = 6 := fun q => sw6_6 (Int32.toInt_inj.mp q)
  refine V_tableOut 6 90 dX0_goesOn_6 (by omega) rfl ?_
  refine V_aload_n 90 dX0_goesOn_90 rfl ?_
  refine V_iload_n 91 dX0_goesOn_91 rfl ?_
  refine V_iv1 92 dX0_goesOn_92 kvX0_154 rfl (by first | exact hW.1.1 | exact hW.1.2.1 | exact hW.1.2.2.1 | exact hW.1.2.2.2.1 | exact hW.1.2.2.2.2.1 | exact hW.2.1.1 | exact hW.2.1.2.1 | exact hW.2.1.2.2.1) rfl rfl (c_X0_crownGoesOn hW (fun h hW => ?_))
  refine V_zret 95 dX0_goesOn_95 (b2i_01 _) ?_
  unfold goE at k
  rw [if_neg sw6_1, if_neg sw6_2, if_neg sw6_3, if_neg sw6_4, if_neg sw6_5, if_neg sw6_6] at k
  exact k _ hW
set_option maxHeartbeats 1000000 in
set_option maxRecDepth 100000 in
theorem c_X0_rouse (hW : WE G h0 h o r E Q) {w : Int32} (k : ∀ h, WE G h0 h o r (rsE Q E w) Q → Post none h sz) : Cn l G yX0_rouse cX0_rouse 2 none 3 0 0 [.ref o, .int w] h sz Post := by
  refine Cn.of RX0 false (by decide) rfl (fun q => by cases q) (Nat.le_of_ble_eq_true rfl) ?_
  refine V_aload_n 0 dX0_rouse_0 rfl ?_
  refine V_iload_n 1 dX0_rouse_1 rfl ?_
  refine V_iconstv 2 (0) dX0_rouse_2 (by decide) ?_
  refine V_iconstv 3 (1) dX0_rouse_3 (by decide) ?_
  refine V_iv3 4 dX0_rouse_4 kvX0_44 rfl (by first | exact hW.1.1 | exact hW.1.2.1 | exact hW.1.2.2.1 | exact hW.1.2.2.2.1 | exact hW.1.2.2.2.2.1 | exact hW.2.1.1 | exact hW.2.1.2.1 | exact hW.2.1.2.2.1) rfl rfl (c_X0_setCell hW (fun h hW => ?_))
  refine V_aload_n 7 dX0_rouse_7 rfl ?_
  refine V_get 8 dX0_rouse_8 fdX0_9 (by first | exact hW.1.1 | exact hW.1.2.1 | exact hW.1.2.2.1 | exact hW.1.2.2.2.1 | exact hW.1.2.2.2.2.1 | exact hW.2.1.1 | exact hW.2.1.2.1 | exact hW.2.1.2.2.1) rfl ?_
  by_cases sw11_1 : (eW (setE E w 0 1)) = 1
  · refine V_tableIn 11 36 (25) dX0_rouse_11 (by rw [sw11_1]; decide) (by rw [sw11_1]; decide) (by rw [sw11_1]; rfl) rfl ?_
    refine V_aload_n 36 dX0_rouse_36 rfl ?_
    refine V_iload_n 37 dX0_rouse_37 rfl ?_
    refine V_iconstv 38 (1) dX0_rouse_38 (by decide) ?_
    refine V_aload_n 39 dX0_rouse_39 rfl ?_
    refine V_get 40 dX0_rouse_40 fdX0_34 (by first | exact hW.1.1 | exact hW.1.2.1 | exact hW.1.2.2.1 | exact hW.1.2.2.2.1 | exact hW.1.2.2.2.2.1 | exact hW.2.1.1 | exact hW.2.1.2.1 | exact hW.2.1.2.2.1) rfl ?_
    refine V_iload_n 43 dX0_rouse_43 rfl ?_
    refine V_iv1 44 dX0_rouse_44 kvX0_107 rfl (by first | exact hW.1.1 | exact hW.1.2.1 | exact hW.1.2.2.1 | exact hW.1.2.2.2.1 | exact hW.1.2.2.2.2.1 | exact hW.2.1.1 | exact hW.2.1.2.1 | exact hW.2.1.2.2.1) rfl rfl (c_X3_nameOf hW.2.1 ?_)
    refine V_iv3 47 dX0_rouse_47 kvX0_110 rfl (by first | exact hW.1.1 | exact hW.1.2.1 | exact hW.1.2.2.1 | exact hW.1.2.2.2.1 | exact hW.1.2.2.2.2.1 | exact hW.2.1.1 | exact hW.2.1.2.1 | exact hW.2.1.2.2.1) rfl rfl (c_X0_sendRight hW (fun h hW => ?_))
    refine V_goto 50 118 dX0_rouse_50 rfl ?_
    refine V_vret 118 dX0_rouse_118 ?_
    unfold rsE rs1 at k
    first | (rw [if_pos sw11_1] at k; exact k _ hW) | (rw [if_neg sw11_1, if_pos sw11_2] at k; exact k _ hW) | (rw [if_neg sw11_1, if_neg sw11_2, if_pos sw11_3] at k; exact k _ hW) | (rw [if_neg sw11_1, if_neg sw11_2, if_neg sw11_3] at k; exact k _ hW)
  by_cases sw11_2 : (eW (setE E w 0 1)) = 2
  · refine V_tableIn 11 53 (42) dX0_rouse_11 (by rw [sw11_2]; decide) (by rw [sw11_2]; decide) (by rw [sw11_2]; rfl) rfl ?_
    refine V_aload_n 53 dX0_rouse_53 rfl ?_
    refine V_iload_n 54 dX0_rouse_54 rfl ?_
    refine V_iconstv 55 (3) dX0_rouse_55 (by decide) ?_
    refine V_iconstv 56 (0) dX0_rouse_56 (by decide) ?_
    refine V_iv3 57 dX0_rouse_57 kvX0_44 rfl (by first | exact hW.1.1 | exact hW.1.2.1 | exact hW.1.2.2.1 | exact hW.1.2.2.2.1 | exact hW.1.2.2.2.2.1 | exact hW.2.1.1 | exact hW.2.1.2.1 | exact hW.2.1.2.2.1) rfl rfl (c_X0_setCell hW (fun h hW => ?_))
    refine V_aload_n 60 dX0_rouse_60 rfl ?_
    refine V_iload_n 61 dX0_rouse_61 rfl ?_
    refine V_iv1 62 dX0_rouse_62 kvX0_113 rfl (by first | exact hW.1.1 | exact hW.1.2.1 | exact hW.1.2.2.1 | exact hW.1.2.2.2.1 | exact hW.1.2.2.2.2.1 | exact hW.2.1.1 | exact hW.2.1.2.1 | exact hW.2.1.2.2.1) rfl rfl (c_X0_sendProbes hW (fun h hW => ?_))
    refine V_goto 65 118 dX0_rouse_65 rfl ?_
    refine V_vret 118 dX0_rouse_118 ?_
    unfold rsE rs1 at k
    first | (rw [if_pos sw11_1] at k; exact k _ hW) | (rw [if_neg sw11_1, if_pos sw11_2] at k; exact k _ hW) | (rw [if_neg sw11_1, if_neg sw11_2, if_pos sw11_3] at k; exact k _ hW) | (rw [if_neg sw11_1, if_neg sw11_2, if_neg sw11_3] at k; exact k _ hW)
  by_cases sw11_3 : (eW (setE E w 0 1)) = 3
  · refine V_tableIn 11 68 (57) dX0_rouse_11 (by rw [sw11_3]; decide) (by rw [sw11_3]; decide) (by rw [sw11_3]; rfl) rfl ?_
    refine V_aload_n 68 dX0_rouse_68 rfl ?_
    refine V_iload_n 69 dX0_rouse_69 rfl ?_
    refine V_iconstv 70 (3) dX0_rouse_70 (by decide) ?_
    refine V_iconstv 71 (0) dX0_rouse_71 (by decide) ?_
    refine V_iv3 72 dX0_rouse_72 kvX0_44 rfl (by first | exact hW.1.1 | exact hW.1.2.1 | exact hW.1.2.2.1 | exact hW.1.2.2.2.1 | exact hW.1.2.2.2.2.1 | exact hW.2.1.1 | exact hW.2.1.2.1 | exact hW.2.1.2.2.1) rfl rfl (c_X0_setCell hW (fun h hW => ?_))
    refine V_aload_n 75 dX0_rouse_75 rfl ?_
    refine V_iload_n 76 dX0_rouse_76 rfl ?_
    refine V_iconstv 77 (2) dX0_rouse_77 (by decide) ?_
    refine V_aload_n 78 dX0_rouse_78 rfl ?_
    refine V_get 79 dX0_rouse_79 fdX0_34 (by first | exact hW.1.1 | exact hW.1.2.1 | exact hW.1.2.2.1 | exact hW.1.2.2.2.1 | exact hW.1.2.2.2.2.1 | exact hW.2.1.1 | exact hW.2.1.2.1 | exact hW.2.1.2.2.1) rfl ?_
    refine V_iload_n 82 dX0_rouse_82 rfl ?_
    refine V_iv1 83 dX0_rouse_83 kvX0_107 rfl (by first | exact hW.1.1 | exact hW.1.2.1 | exact hW.1.2.2.1 | exact hW.1.2.2.2.1 | exact hW.1.2.2.2.2.1 | exact hW.2.1.1 | exact hW.2.1.2.1 | exact hW.2.1.2.2.1) rfl rfl (c_X3_nameOf hW.2.1 ?_)
    refine V_iv3 86 dX0_rouse_86 kvX0_44 rfl (by first | exact hW.1.1 | exact hW.1.2.1 | exact hW.1.2.2.1 | exact hW.1.2.2.2.1 | exact hW.1.2.2.2.2.1 | exact hW.2.1.1 | exact hW.2.1.2.1 | exact hW.2.1.2.2.1) rfl rfl (c_X0_setCell hW (fun h hW => ?_))
    refine V_aload_n 89 dX0_rouse_89 rfl ?_
    refine V_iload_n 90 dX0_rouse_90 rfl ?_
    refine V_iconstv 91 (4) dX0_rouse_91 (by decide) ?_
    refine V_aload_n 92 dX0_rouse_92 rfl ?_
    refine V_get 93 dX0_rouse_93 fdX0_34 (by first | exact hW.1.1 | exact hW.1.2.1 | exact hW.1.2.2.1 | exact hW.1.2.2.2.1 | exact hW.1.2.2.2.2.1 | exact hW.2.1.1 | exact hW.2.1.2.1 | exact hW.2.1.2.2.1) rfl ?_
    refine V_iload_n 96 dX0_rouse_96 rfl ?_
    refine V_iv1 97 dX0_rouse_97 kvX0_107 rfl (by first | exact hW.1.1 | exact hW.1.2.1 | exact hW.1.2.2.1 | exact hW.1.2.2.2.1 | exact hW.1.2.2.2.2.1 | exact hW.2.1.1 | exact hW.2.1.2.1 | exact hW.2.1.2.2.1) rfl rfl (c_X3_nameOf hW.2.1 ?_)
    refine V_iv3 100 dX0_rouse_100 kvX0_110 rfl (by first | exact hW.1.1 | exact hW.1.2.1 | exact hW.1.2.2.1 | exact hW.1.2.2.2.1 | exact hW.1.2.2.2.2.1 | exact hW.2.1.1 | exact hW.2.1.2.1 | exact hW.2.1.2.2.1) rfl rfl (c_X0_sendRight hW (fun h hW => ?_))
    refine V_goto 103 118 dX0_rouse_103 rfl ?_
    refine V_vret 118 dX0_rouse_118 ?_
    unfold rsE rs1 at k
    first | (rw [if_pos sw11_1] at k; exact k _ hW) | (rw [if_neg sw11_1, if_pos sw11_2] at k; exact k _ hW) | (rw [if_neg sw11_1, if_neg sw11_2, if_pos sw11_3] at k; exact k _ hW) | (rw [if_neg sw11_1, if_neg sw11_2, if_neg sw11_3] at k; exact k _ hW)
  have tq1 : ¬ (eW (setE E w 0 1)).toInt = 1 := fun q => sw11_1 (Int32.toInt_inj.mp q)
  have tq2 : ¬ (eW (setE E w 0 1)).toInt = 2 := fun q => sw11_2 (Int32.toInt_inj.mp q)
  have tq3 : ¬ (eW (setE E w 0 1)).toInt = 3 := fun q => sw11_3 (Int32.toInt_inj.mp q)
  refine V_tableOut 11 106 dX0_rouse_11 (by omega) rfl ?_
  refine V_aload_n 106 dX0_rouse_106 rfl ?_
  refine V_iload_n 107 dX0_rouse_107 rfl ?_
  refine V_iconstv 108 (3) dX0_rouse_108 (by decide) ?_
  refine V_iconstv 109 (1) dX0_rouse_109 (by decide) ?_
  refine V_iv3 110 dX0_rouse_110 kvX0_44 rfl (by first | exact hW.1.1 | exact hW.1.2.1 | exact hW.1.2.2.1 | exact hW.1.2.2.2.1 | exact hW.1.2.2.2.2.1 | exact hW.2.1.1 | exact hW.2.1.2.1 | exact hW.2.1.2.2.1) rfl rfl (c_X0_setCell hW (fun h hW => ?_))
  refine V_aload_n 113 dX0_rouse_113 rfl ?_
  refine V_iload_n 114 dX0_rouse_114 rfl ?_
  refine V_iv1 115 dX0_rouse_115 kvX0_117 rfl (by first | exact hW.1.1 | exact hW.1.2.1 | exact hW.1.2.2.1 | exact hW.1.2.2.2.1 | exact hW.1.2.2.2.2.1 | exact hW.2.1.1 | exact hW.2.1.2.1 | exact hW.2.1.2.2.1) rfl rfl (c_X0_draw hW (fun h hW => ?_))
  refine V_vret 118 dX0_rouse_118 ?_
  unfold rsE rs1 at k
  first | (rw [if_pos sw11_1] at k; exact k _ hW) | (rw [if_neg sw11_1, if_pos sw11_2] at k; exact k _ hW) | (rw [if_neg sw11_1, if_neg sw11_2, if_pos sw11_3] at k; exact k _ hW) | (rw [if_neg sw11_1, if_neg sw11_2, if_neg sw11_3] at k; exact k _ hW)
end M17
