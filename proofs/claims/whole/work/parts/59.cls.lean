theorem nn_and {x y : Int32} (h : 0 ≤ y) : 0 ≤ x &&& y := by
  have h1 := ib_le.mp h
  rw [ib_0] at h1
  apply ib_le.mpr
  rw [ib_0]
  have e : (x &&& y).toInt = (x.toBitVec &&& y.toBitVec).toInt := rfl
  rw [e]
  have m1 : y.toBitVec.msb = false := by
    rw [BitVec.msb_eq_toInt]
    exact decide_eq_false (by show ¬ y.toInt < 0; omega)
  have m2 : (x.toBitVec &&& y.toBitVec).msb = false := by rw [BitVec.msb_and, m1, Bool.and_false]
  rw [BitVec.msb_eq_toInt] at m2
  have := of_decide_eq_false m2
  omega
theorem an_le {x y : Int32} {n : Nat} (h : 0 ≤ x) (hn : x.toInt < n) : vp_in (x &&& y) n := by
  have h0 : 0 ≤ x &&& y := by
    have := nn_and (x := y) h
    rw [show x &&& y = y &&& x from by rw [Int32.and_comm]]
    exact this
  have h1 := ib_le.mp h0
  have h2 := ib_le.mp h
  rw [ib_0] at h1 h2
  refine vp_in_iff.mpr ⟨h1, ?_⟩
  have t : ∀ z : Int32, 0 ≤ z.toInt → z.toInt = (z.toBitVec.toNat : Int) := by
    intro z hz
    have e : z.toInt = z.toBitVec.toInt := rfl
    rw [e] at hz ⊢
    rw [BitVec.toInt_eq_toNat_cond] at hz ⊢
    have := z.toBitVec.isLt
    split at hz
    · rename_i q; rw [if_pos q]
    · omega
  rw [t _ h1]
  rw [t _ h2] at hn
  have e : (x &&& y).toBitVec.toNat = x.toBitVec.toNat &&& y.toBitVec.toNat := by
    rw [show (x &&& y).toBitVec = x.toBitVec &&& y.toBitVec from rfl, BitVec.toNat_and]
  rw [e]
  have := Nat.and_le_left (n := x.toBitVec.toNat) (m := y.toBitVec.toNat)
  omega
theorem ap_in {p x : Int32} (hp : ∃ k, k < 32 ∧ p = nI (2 * k)) : vp_in (p &&& x) 63 := by
  obtain ⟨k, h1, h2⟩ := hp
  subst h2
  exact an_le (nI_pos' (by omega)) (by rw [nI_toInt (by omega)]; omega)

def L_ph (F : Nat → Int32) (M : Nat → Nat → Int32) (p0 : Int32) (p1 : Int32) (p2 : Int32) : Nat → Int32
  | 0 => 0
  | i1 + 1 =>
    if p1 ≤ ((M 42) (12 * (i1 + 1) + p0.toNatClampNeg)) ∧ ((M 42) (12 * (i1 + 1) + p0.toNatClampNeg)) ≤ p2 then (L_ph F M p0 p1 p2 i1) ||| (1 <<< ((nI (i1 + 1)) &&& 31)) else
    (L_ph F M p0 p1 p2 i1)
set_option maxHeartbeats 4000000 in
set_option maxRecDepth 100000 in
theorem c_X2_partnersHaving (l : Launch) (dC : Nat → ClassId) (dI : Nat → Nat → Nat) (rl : List (Nat × Nat)) (ad : Nat × Nat → Nat) (cy : Nat → ClassId) (F : Nat → Int32) (M Y : Nat → Nat → Int32) (p0 : Int32) (p1 : Int32) (p2 : Int32) (hrl : ∀ r, r ∈ rl ↔ vd F r) (hI : iv F M) (hJ : jv F M) (hx12 : vp_in p0 12) : Met l yX2_partnersHaving wsX2_partnersHaving ({ frames := 1, cells := 0, slots := 0, locals := 22 } : Room) (va_Pc [.ref (ad (2, 0)), .int p0, .int p1, .int p2] (pC dC dI rl ad cy (eC ad cy F M Y))) (vp_Si (fun r => r = L_ph F M p0 p1 p2 5)) 0 0 (fun _ => False) := by
  refine Met.ofW (cc := cX2_partnersHaving) (maxL := 6) (ret := (some .int)) (by decide) rfl ?_
  intro p e s m args below meth c s₁ B hml hv
  obtain ⟨rfl, hP, hK, hN⟩ := hv
  have hx := B.exec
  have hb := B.bytes
  have hr := B.returns
  have hts := atoms_spec (ws := wsX2_partnersHaving) B.pre
  have hown : s.vm.findClass RX2 = some m.cls := findClass_of_methodNamed B.named
  have hlocks := B.notSynchronized
  have hin2 : ∀ w ∈ wsX20, w ∈ wsX2_partnersHaving := by decide +kernel
  have hl := lv_entry ([.ref (ad (2, 0)), .int p0, .int p1, .int p2]) (n := 6) (Nat.le_of_ble_eq_true rfl)
  rw [lg_entry_eq]
  generalize (lg_sl ([.ref (ad (2, 0)), .int p0, .int p1, .int p2]) ++ List.replicate (6 - (lg_sl ([.ref (ad (2, 0)), .int p0, .int p1, .int p2])).length) Slot.unset).toArray = ls at hl ⊢
  have hl : lv_has ls 6 [(0, .ref (ad (2, 0))), (1, .int p0), (2, .int p1), (3, .int p2)] := hl
  refine lv_iconst (v := 0) hx hb dX2_partnersHaving_0 (by decide) ?_
  refine lv_istore (lv' := [(4, .int 0), (0, .ref (ad (2, 0))), (1, .int p0), (2, .int p1), (3, .int p2)]) hx hb dX2_partnersHaving_1 hl (by decide) rfl (fun ls hl => ?_)
  refine lv_iconst (v := 1) hx hb dX2_partnersHaving_3 (by decide) ?_
  refine lv_istore (lv' := [(5, .int 1), (4, .int 0), (0, .ref (ad (2, 0))), (1, .int p0), (2, .int p1), (3, .int p2)]) hx hb dX2_partnersHaving_4 hl (by decide) rfl (fun ls hl => ?_)
  refine lp_for (N := 5) (lv := fun i1 => [(5, .int (nI (i1 + 1))), (4, .int (L_ph F M p0 p1 p2 i1)), (0, .ref (ad (2, 0))), (1, .int p0), (2, .int p1), (3, .int p2)]) (lv_sub hl [0, 1, 2, 3, 4, 5] rfl) (fun i1 hi1 ls hl kk1 => ?_) (fun ls hl => ?_)
  · replace hl : lv_has ls 6 [(5, .int (nI (i1 + 1))), (4, .int (L_ph F M p0 p1 p2 i1)), (0, .ref (ad (2, 0))), (1, .int p0), (2, .int p1), (3, .int p2)] := hl
    refine lv_iload hx hb dX2_partnersHaving_6 (lv_at hl 0 rfl) ?_
    refine lv_bipush (v := 6) hx hb dX2_partnersHaving_8 (by decide) ?_
    refine lv_icmp_ge (tgt := 45) hx hb dX2_partnersHaving_10 (by decide) (fun c => absurd c (lb_n (N := 6) (by decide) (show i1 + 1 < 6 by omega))) (fun _ => ?_)
    refine lv_aload_n hx hb dX2_partnersHaving_13 rfl (lv_at hl 2 rfl) ?_
    refine rg_get (D := (dC, dI)) (r := (2, 0)) (ci := 2) (v := .ref (ad (19, 0))) (C := RX2) (T := TX2) (N := 3) hx hb hts hin2 hown hK hP ((hrl _).mpr (vd_2 (by decide))) en_2 rfl 0 (by decide) (hts (.fieldLink RX2 11 "SocietyBook$Holdings" "rows" "[[I") (by decide +kernel)) (fun _ h9 => h9) rfl dX2_partnersHaving_14 ?_
    refine lv_iload hx hb dX2_partnersHaving_17 (lv_at hl 0 rfl) ?_
    refine rg_ald2 (r := (19, 0)) (v := .ref (ad (25, (i1 + 1)))) hx hb hK hP ((hrl _).mpr (vd_19 (by decide))) 10 en_19 rfl (nx_in (show nI (i1 + 1) = nI ((i1 + 1)) from by show nI (i1 + 1) = _; simp only [nI_add, pk_mul]) (by omega) (by decide)) (by rw [nx_cl (show nI (i1 + 1) = nI ((i1 + 1)) from by show nI (i1 + 1) = _; simp only [nI_add, pk_mul]) (by omega)]; rfl) dX2_partnersHaving_19 ?_
    refine lv_iload_n hx hb dX2_partnersHaving_20 rfl (lv_at hl 3 rfl) ?_
    refine rg_iald (r := (25, (i1 + 1))) (v := (M 42) (12 * (i1 + 1) + p0.toNatClampNeg)) hx hb hK hP ((hrl _).mpr (vd_25 (by omega))) 0 en_25 rfl hx12 (by exact if_pos (ib_cl hx12).2) dX2_partnersHaving_21 ?_
    refine lv_iload_n hx hb dX2_partnersHaving_22 rfl (lv_at hl 4 rfl) ?_
    refine lv_iload_n hx hb dX2_partnersHaving_23 rfl (lv_at hl 5 rfl) ?_
    refine vp_callSi (run_of (va_runSN (As := [.int ((M 42) (12 * (i1 + 1) + p0.toNatClampNeg)), .int p1, .int p2]) (rest := []) ⟨hx, hb, hml, hown, hts⟩ (c_X10_isWithin l ((M 42) (12 * (i1 + 1) + p0.toNatClampNeg)) p1 p2) ⟨va_cnB 3 hts gX2_partnersHaving_X10_isWithin_n56 rfl rfl rfl hN.1 (hts (.initialized RX10) (by decide +kernel)) (by decide +kernel) ⟨Nat.le_of_ble_eq_true rfl, Nat.le_of_ble_eq_true rfl⟩, hts (.static yX10_isWithin) (by decide +kernel), trivial⟩ ⟨fun _ _ _ _ q => q, fun U hU hW => ⟨rfl, trivial⟩⟩ rfl rfl hl.1 rfl (lv_room (Nat.le_of_ble_eq_true rfl)) dX2_partnersHaving_24 ⟨Nat.zero_le _, Nat.zero_le _⟩)) (fun r hr9 => ?_)
    subst hr9
    refine lv_if_eq (tgt := 39) hx hb dX2_partnersHaving_27 (by decide) (fun c1 => ?_) (fun c1 => ?_)
    · replace c1 := bo_f c1
      refine lv_iinc (v := nI ((i1 + 1) + 1)) (lv' := [(5, .int (nI ((i1 + 1) + 1))), (4, .int (L_ph F M p0 p1 p2 i1)), (0, .ref (ad (2, 0))), (1, .int p0), (2, .int p1), (3, .int p2)]) hx hb dX2_partnersHaving_39 hl (k := 0) rfl (nI_1 (i1 + 1)) (by decide) rfl (fun ls hl => ?_)
      refine lv_goto (tgt := 6) hx hb dX2_partnersHaving_42 (by decide) ?_
      have e9 : L_ph F M p0 p1 p2 (i1 + 1) = (L_ph F M p0 p1 p2 i1) := by rw [L_ph]; rw [if_neg c1]
      refine kk1 ls (show lv_has ls 6 [(5, .int (nI ((i1 + 1) + 1))), (4, .int (L_ph F M p0 p1 p2 (i1 + 1))), (0, .ref (ad (2, 0))), (1, .int p0), (2, .int p1), (3, .int p2)] from ?_)
      rw [e9]; exact lv_sub hl [0, 1, 2, 3, 4, 5] rfl
    · replace c1 := bo_t c1
      refine lv_iload hx hb dX2_partnersHaving_30 (lv_at hl 1 rfl) ?_
      refine lv_iconst (v := 1) hx hb dX2_partnersHaving_32 (by decide) ?_
      refine lv_iload hx hb dX2_partnersHaving_33 (lv_at hl 0 rfl) ?_
      refine lv_ishl hx hb dX2_partnersHaving_35 ?_
      refine lv_ior hx hb dX2_partnersHaving_36 ?_
      refine lv_istore (lv' := [(4, .int ((L_ph F M p0 p1 p2 i1) ||| (1 <<< ((nI (i1 + 1)) &&& 31)))), (5, .int (nI (i1 + 1))), (0, .ref (ad (2, 0))), (1, .int p0), (2, .int p1), (3, .int p2)]) hx hb dX2_partnersHaving_37 hl (by decide) rfl (fun ls hl => ?_)
      refine lv_iinc (v := nI ((i1 + 1) + 1)) (lv' := [(5, .int (nI ((i1 + 1) + 1))), (4, .int ((L_ph F M p0 p1 p2 i1) ||| (1 <<< ((nI (i1 + 1)) &&& 31)))), (0, .ref (ad (2, 0))), (1, .int p0), (2, .int p1), (3, .int p2)]) hx hb dX2_partnersHaving_39 hl (k := 1) rfl (nI_1 (i1 + 1)) (by decide) rfl (fun ls hl => ?_)
      refine lv_goto (tgt := 6) hx hb dX2_partnersHaving_42 (by decide) ?_
      have e9 : L_ph F M p0 p1 p2 (i1 + 1) = (L_ph F M p0 p1 p2 i1) ||| (1 <<< ((nI (i1 + 1)) &&& 31)) := by rw [L_ph]; rw [if_pos c1]
      refine kk1 ls (show lv_has ls 6 [(5, .int (nI ((i1 + 1) + 1))), (4, .int (L_ph F M p0 p1 p2 (i1 + 1))), (0, .ref (ad (2, 0))), (1, .int p0), (2, .int p1), (3, .int p2)] from ?_)
      rw [e9]; exact lv_sub hl [0, 1, 2, 3, 4, 5] rfl
  · replace hl : lv_has ls 6 [(5, .int (nI (5 + 1))), (4, .int (L_ph F M p0 p1 p2 5)), (0, .ref (ad (2, 0))), (1, .int p0), (2, .int p1), (3, .int p2)] := hl
    refine lv_iload hx hb dX2_partnersHaving_6 (lv_at hl 0 rfl) ?_
    refine lv_bipush (v := 6) hx hb dX2_partnersHaving_8 (by decide) ?_
    refine lv_icmp_ge (tgt := 45) hx hb dX2_partnersHaving_10 (by decide) (fun _ => ?_) (fun c => absurd (lb_y (N := 6) (by decide)) c)
    refine lv_iload hx hb dX2_partnersHaving_45 (lv_at hl 1 rfl) ?_
    exact W.iret (v := (L_ph F M p0 p1 p2 5)) hx hb hr (fun t ht hW => ⟨(L_ph F M p0 p1 p2 5), rfl, by rfl, ht⟩) (fun _ h => by cases h) dX2_partnersHaving_47

def wnG (F : Nat → Int32) (M : Nat → Nat → Int32) (p0 : Int32) : Int32 := if M 42 p0.toNatClampNeg = 0 then L_ph F M p0 2 9 5 else 0

def L_wn (F : Nat → Int32) (M : Nat → Nat → Int32) (p0 : Int32) (z0 : (Nat → Int32)) (z1 : (Nat → Int32)) : Nat → (Nat → Int32) × (Nat → Int32)
  | 0 => (z0, z1)
  | i1 + 1 =>
    if ((wnG F M p0) &&& (nI (2 * i1))) = 0 then ((L_wn F M p0 z0 z1 i1).1, upd ((L_wn F M p0 z0 z1 i1).2) (2 * i1) (((((L_wn F M p0 z0 z1 i1).2)) (2 * i1)) + (if (s_X11_bitsOf ((L_ph F M p0 0 0 5) &&& (nI (2 * i1)))) < (if 0 < (((M 42) p0.toNatClampNeg) - 1) then (((M 42) p0.toNatClampNeg) - 1) else 0) then (s_X11_bitsOf ((L_ph F M p0 0 0 5) &&& (nI (2 * i1)))) else (if 0 < (((M 42) p0.toNatClampNeg) - 1) then (((M 42) p0.toNatClampNeg) - 1) else 0)))) else
    (upd ((L_wn F M p0 z0 z1 i1).1) (2 * i1) (((((L_wn F M p0 z0 z1 i1).1)) (2 * i1)) + 1), upd ((L_wn F M p0 z0 z1 i1).2) (2 * i1) (((((L_wn F M p0 z0 z1 i1).2)) (2 * i1)) + (if (s_X11_bitsOf ((L_ph F M p0 0 0 5) &&& (nI (2 * i1)))) < (if 0 < (((M 42) p0.toNatClampNeg) - 1) then (((M 42) p0.toNatClampNeg) - 1) else 0) then (s_X11_bitsOf ((L_ph F M p0 0 0 5) &&& (nI (2 * i1)))) else (if 0 < (((M 42) p0.toNatClampNeg) - 1) then (((M 42) p0.toNatClampNeg) - 1) else 0))))
set_option maxHeartbeats 4000000 in
set_option maxRecDepth 100000 in
theorem c_X2_weighNumber (l : Launch) (dC : Nat → ClassId) (dI : Nat → Nat → Nat) (rl : List (Nat × Nat)) (ad : Nat × Nat → Nat) (cy : Nat → ClassId) (F : Nat → Int32) (M Y : Nat → Nat → Int32) (p0 : Int32) (hrl : ∀ r, r ∈ rl ↔ vd F r) (hI : iv F M) (hJ : jv F M) (A : Nat → Prop) (hD : va_D A (rx_W rl ad (eC ad cy F M Y))) (hx12 : vp_in p0 12) : Met l yX2_weighNumber wsX2_weighNumber ({ frames := 2, cells := 0, slots := 0, locals := 47 } : Room) (va_Pc [.ref (ad (2, 0)), .int p0] (pC dC dI rl ad cy (eC ad cy F M Y))) (va_Qv (fun (u : Nat → Nat → Int32) => u = va_up (va_up Y 0 (L_wn F M p0 (Y 0) (Y 1) n32).1) 1 (L_wn F M p0 (Y 0) (Y 1) n32).2) (qC A dC dI rl ad cy F M) A) 0 0 A := by
  refine Met.ofW (cc := cX2_weighNumber) (maxL := 7) (ret := none) (by decide) rfl ?_
  intro p e s m args below meth c s₁ B hml hv
  obtain ⟨rfl, hP, hK, hN⟩ := hv
  have hx := B.exec
  have hb := B.bytes
  have hr := B.returns
  have hts := atoms_spec (ws := wsX2_weighNumber) B.pre
  have hown : s.vm.findClass RX2 = some m.cls := findClass_of_methodNamed B.named
  have hlocks := B.notSynchronized
  have hin2 : ∀ w ∈ wsX20, w ∈ wsX2_weighNumber := by decide +kernel
  have hS : va_S A s.heap s.heap [] := va_S.rf
  have hl := lv_entry ([.ref (ad (2, 0)), .int p0]) (n := 7) (Nat.le_of_ble_eq_true rfl)
  rw [lg_entry_eq]
  generalize (lg_sl ([.ref (ad (2, 0)), .int p0]) ++ List.replicate (7 - (lg_sl ([.ref (ad (2, 0)), .int p0])).length) Slot.unset).toArray = ls at hl ⊢
  have hl : lv_has ls 7 [(0, .ref (ad (2, 0))), (1, .int p0)] := hl
  have hn32 := n32_eq
  refine lv_aload_n hx hb dX2_weighNumber_0 rfl (lv_at hl 0 rfl) ?_
  refine rg_get (D := (dC, dI)) (r := (2, 0)) (ci := 2) (v := .ref (ad (19, 0))) (C := RX2) (T := TX2) (N := 3) hx hb hts hin2 hown hK hP ((hrl _).mpr (vd_2 (by decide))) en_2 rfl 0 (by decide) (hts (.fieldLink RX2 11 "SocietyBook$Holdings" "rows" "[[I") (by decide +kernel)) (fun _ h9 => h9) rfl dX2_weighNumber_1 ?_
  refine lv_iconst (v := 0) hx hb dX2_weighNumber_4 (by decide) ?_
  refine rg_ald2 (r := (19, 0)) (v := .ref (ad (25, 0))) hx hb hK hP ((hrl _).mpr (vd_19 (by decide))) 10 en_19 rfl (ib_lit (by decide)) (by rw [show (0 : Int32).toNatClampNeg = 0 from by decide]; rfl) dX2_weighNumber_5 ?_
  refine lv_iload_n hx hb dX2_weighNumber_6 rfl (lv_at hl 1 rfl) ?_
  refine rg_iald (r := (25, 0)) (v := (M 42) p0.toNatClampNeg) hx hb hK hP ((hrl _).mpr (vd_25 (by decide))) 0 en_25 rfl hx12 (by exact (if_pos (ib_cl hx12).2).trans (by rw [Nat.mul_zero, Nat.zero_add])) dX2_weighNumber_7 ?_
  refine lv_istore_n (lv' := [(2, .int ((M 42) p0.toNatClampNeg)), (0, .ref (ad (2, 0))), (1, .int p0)]) hx hb dX2_weighNumber_8 rfl hl (by decide) rfl (fun ls hl => ?_)
  refine lv_iconst (v := 0) hx hb dX2_weighNumber_9 (by decide) ?_
  refine lv_iload_n hx hb dX2_weighNumber_10 rfl (lv_at hl 0 rfl) ?_
  refine lv_iconst (v := 1) hx hb dX2_weighNumber_11 (by decide) ?_
  refine lv_isub hx hb dX2_weighNumber_12 ?_
  refine va_mmax hx hb (hml.trans hl.1.symm) hown (hts (.methodLink RX2 39 Lib.Math.max.name) (by decide +kernel)) (hts (.static Lib.Math.max.name) (by decide +kernel)) (hts (.initialized "java/lang/Math") (by decide +kernel)) (hts (.code Lib.Math.max.name Lib.Math.max.code 2 (some .int)) (by decide +kernel)) (Nat.le_of_ble_eq_true rfl) (Nat.le_of_ble_eq_true rfl) (Nat.zero_le _) (Nat.zero_le _) dX2_weighNumber_13 ?_
  refine lv_istore_n (lv' := [(3, .int (if 0 < (((M 42) p0.toNatClampNeg) - 1) then (((M 42) p0.toNatClampNeg) - 1) else 0)), (2, .int ((M 42) p0.toNatClampNeg)), (0, .ref (ad (2, 0))), (1, .int p0)]) hx hb dX2_weighNumber_16 rfl hl (by decide) rfl (fun ls hl => ?_)
  refine lv_iload_n hx hb dX2_weighNumber_17 rfl (lv_at hl 1 rfl) ?_
  refine lv_if_ne (tgt := 32) hx hb dX2_weighNumber_18 (by decide) (fun c1 => ?_) (fun c1 => ?_)
  · refine lv_iconst (v := 0) hx hb dX2_weighNumber_32 (by decide) ?_
    refine W.eq (g2 := F0 m 33 ls (.int (wnG F M p0) :: [])) (by unfold wnG; rw [if_neg c1]) ?_
    refine lv_istore (lv' := [(4, .int (wnG F M p0)), (3, .int (if 0 < (((M 42) p0.toNatClampNeg) - 1) then (((M 42) p0.toNatClampNeg) - 1) else 0)), (2, .int ((M 42) p0.toNatClampNeg)), (0, .ref (ad (2, 0))), (1, .int p0)]) hx hb dX2_weighNumber_33 hl (by decide) rfl (fun ls hl => ?_)
    refine lv_aload_n hx hb dX2_weighNumber_35 rfl (lv_at hl 3 rfl) ?_
    refine lv_iload_n hx hb dX2_weighNumber_36 rfl (lv_at hl 4 rfl) ?_
    refine lv_iconst (v := 0) hx hb dX2_weighNumber_37 (by decide) ?_
    refine lv_iconst (v := 0) hx hb dX2_weighNumber_38 (by decide) ?_
    refine vp_callSi (W.runV (As := [.int p0, .int 0, .int 0]) (rest := []) ⟨hx, hb, hml, hown, hts⟩ (c_X2_partnersHaving l dC dI rl ad cy F M Y  p0 0 0 hrl hI hJ hx12) (cwV 3 hts gX2_weighNumber_X2_partnersHaving rfl rfl rfl (by decide +kernel) ⟨Nat.le_of_ble_eq_true rfl, Nat.le_of_ble_eq_true rfl⟩) ⟨pc_blind, rg_recv hK hP ((hrl _).mpr (vd_2 (by decide))) (ci := 2) rfl en_2, fun U hU hW => ⟨rfl, by rw [hU]; exact hP, va_K.moved hW.alike hK, nst_w hW hN⟩⟩ rfl rfl hl.1 rfl (lv_room (Nat.le_of_ble_eq_true rfl)) dX2_weighNumber_39 ⟨Nat.zero_le _, Nat.zero_le _⟩) (fun r hr9 => ?_)
    subst hr9
    refine lv_istore (lv' := [(5, .int (L_ph F M p0 0 0 5)), (4, .int (wnG F M p0)), (3, .int (if 0 < (((M 42) p0.toNatClampNeg) - 1) then (((M 42) p0.toNatClampNeg) - 1) else 0)), (2, .int ((M 42) p0.toNatClampNeg)), (0, .ref (ad (2, 0))), (1, .int p0)]) hx hb dX2_weighNumber_42 hl (by decide) rfl (fun ls hl => ?_)
    refine lv_iconst (v := 0) hx hb dX2_weighNumber_44 (by decide) ?_
    refine lv_istore (lv' := [(6, .int 0), (5, .int (L_ph F M p0 0 0 5)), (4, .int (wnG F M p0)), (3, .int (if 0 < (((M 42) p0.toNatClampNeg) - 1) then (((M 42) p0.toNatClampNeg) - 1) else 0)), (2, .int ((M 42) p0.toNatClampNeg)), (0, .ref (ad (2, 0))), (1, .int p0)]) hx hb dX2_weighNumber_45 hl (by decide) rfl (fun ls hl => ?_)
    refine lp_forH (N := n32) (lv := fun i1 => [(6, .int (nI (2 * i1))), (5, .int (L_ph F M p0 0 0 5)), (4, .int (wnG F M p0)), (3, .int (if 0 < (((M 42) p0.toNatClampNeg) - 1) then (((M 42) p0.toNatClampNeg) - 1) else 0)), (2, .int ((M 42) p0.toNatClampNeg)), (0, .ref (ad (2, 0))), (1, .int p0)]) (wd := fun i1 => rx_W rl ad (eC ad cy F M (va_up (va_up Y 0 ((L_wn F M p0 (Y 0) (Y 1) i1).1)) 1 ((L_wn F M p0 (Y 0) (Y 1) i1).2)))) hP hD hS (lv_sub hl [0, 1, 2, 3, 4, 5, 6] rfl) (fun i1 hi1 ls H locs hl hP hD hS kk1 => ?_) (fun ls H locs hl hP hD hS => ?_)
    · replace hl : lv_has ls 7 [(6, .int (nI (2 * i1))), (5, .int (L_ph F M p0 0 0 5)), (4, .int (wnG F M p0)), (3, .int (if 0 < (((M 42) p0.toNatClampNeg) - 1) then (((M 42) p0.toNatClampNeg) - 1) else 0)), (2, .int ((M 42) p0.toNatClampNeg)), (0, .ref (ad (2, 0))), (1, .int p0)] := hl
      replace hP : va_P (dC, dI) vwCl (rx_W rl ad (eC ad cy F M (va_up (va_up Y 0 ((L_wn F M p0 (Y 0) (Y 1) i1).1)) 1 ((L_wn F M p0 (Y 0) (Y 1) i1).2)))) H := hP
      replace hD : va_D A (rx_W rl ad (eC ad cy F M (va_up (va_up Y 0 ((L_wn F M p0 (Y 0) (Y 1) i1).1)) 1 ((L_wn F M p0 (Y 0) (Y 1) i1).2)))) := hD
      refine lv_iload hx hb dX2_weighNumber_47 (lv_at hl 0 rfl) ?_
      refine lv_bipush (v := 62) hx hb dX2_weighNumber_49 (by decide) ?_
      refine lv_icmp_gt (tgt := 101) hx hb dX2_weighNumber_51 (by decide) (fun c => absurd c (lb_n62 hi1)) (fun _ => ?_)
      refine lv_iload hx hb dX2_weighNumber_54 (lv_at hl 2 rfl) ?_
      refine lv_iload hx hb dX2_weighNumber_56 (lv_at hl 0 rfl) ?_
      refine lv_iand hx hb dX2_weighNumber_58 ?_
      refine lv_if_eq (tgt := 73) hx hb dX2_weighNumber_59 (by decide) (fun c2 => ?_) (fun c2 => ?_)
      · refine lv_aload_n hx hb dX2_weighNumber_73 rfl (lv_at hl 5 rfl) ?_
        refine rg_get (D := (dC, dI)) (r := (2, 0)) (ci := 2) (v := .ref (ad (21, 0))) (C := RX2) (T := TX2) (N := 3) hx hb hts hin2 hown hK hP ((hrl _).mpr (vd_2 (by decide))) en_2 rfl 2 (by decide) (hts (.fieldLink RX2 20 "SocietyBook$Holdings" "taken" "[I") (by decide +kernel)) (fun _ h9 => h9) rfl dX2_weighNumber_74 ?_
        refine lv_iload hx hb dX2_weighNumber_77 (lv_at hl 0 rfl) ?_
        refine lv_dup2_11 hx hb dX2_weighNumber_79 rfl rfl ?_
        refine rg_iald (r := (21, 0)) (v := (((L_wn F M p0 (Y 0) (Y 1) i1).2)) (2 * i1)) hx hb hK hP ((hrl _).mpr (vd_21 (by decide))) 0 en_21 rfl (nx_in (show nI (2 * i1) = nI ((2 * i1)) from by show nI (2 * i1) = _; simp only [nI_add, pk_mul]) (by omega) (by decide)) (by rw [nx_cl (show nI (2 * i1) = nI ((2 * i1)) from by show nI (2 * i1) = _; simp only [nI_add, pk_mul]) (by omega)]; (first | done | rfl)) dX2_weighNumber_80 ?_
        refine lv_iload_n hx hb dX2_weighNumber_81 rfl (lv_at hl 3 rfl) ?_
        refine lv_iload hx hb dX2_weighNumber_82 (lv_at hl 1 rfl) ?_
        refine lv_iload hx hb dX2_weighNumber_84 (lv_at hl 0 rfl) ?_
        refine lv_iand hx hb dX2_weighNumber_86 ?_
        refine vp_callSi (W.runS (As := [.int ((L_ph F M p0 0 0 5) &&& (nI (2 * i1)))]) (rest := [.int (if 0 < (((M 42) p0.toNatClampNeg) - 1) then (((M 42) p0.toNatClampNeg) - 1) else 0), .int ((((L_wn F M p0 (Y 0) (Y 1) i1).2)) (2 * i1)), .int (nI (2 * i1)), .ref (ad (21, 0))]) ⟨hx, hb, hml, hown, hts⟩ (c_J6_bitCount_0f7a4 l ((L_ph F M p0 0 0 5) &&& (nI (2 * i1)))) (va_cwS 1 hts gX2_weighNumber_J6_bitCount_0f7a4 rfl rfl rfl (by decide +kernel) ⟨Nat.le_of_ble_eq_true rfl, Nat.le_of_ble_eq_true rfl⟩) ⟨fun _ _ _ _ q => q, fun U hU hW => ⟨rfl, trivial⟩⟩ rfl rfl hl.1 rfl (lv_room (Nat.le_of_ble_eq_true rfl)) dX2_weighNumber_87 ⟨Nat.zero_le _, Nat.zero_le _⟩) (fun r hr9 => ?_)
        subst hr9
        rw [bc_eq (x := (L_ph F M p0 0 0 5) &&& (nI (2 * i1))) (nn_and (nI_pos' (show 2 * i1 < 2 ^ 31 by omega)))]
        refine va_mmin hx hb (hml.trans hl.1.symm) hown (hts (.methodLink RX2 33 Lib.Math.min.name) (by decide +kernel)) (hts (.static Lib.Math.min.name) (by decide +kernel)) (hts (.initialized "java/lang/Math") (by decide +kernel)) (hts (.code Lib.Math.min.name Lib.Math.min.code 2 (some .int)) (by decide +kernel)) (Nat.le_of_ble_eq_true rfl) (Nat.le_of_ble_eq_true rfl) (Nat.zero_le _) (Nat.zero_le _) dX2_weighNumber_90 ?_
        refine lv_iadd hx hb dX2_weighNumber_93 ?_
        refine rg_iast (r := (21, 0)) hx hb hK hP hD hS ((hrl _).mpr (vd_21 (by decide))) 0 en_21 rfl (nx_in (show nI (2 * i1) = nI ((2 * i1)) from by show nI (2 * i1) = _; simp only [nI_add, pk_mul]) (by omega) (by decide)) dX2_weighNumber_94 (fun H locs hP hD hS => ?_)
        rw [nx_cl (show nI (2 * i1) = nI ((2 * i1)) from by show nI (2 * i1) = _; simp only [nI_add, pk_mul]) (by omega)] at hP
        replace hP : va_P (dC, dI) vwCl (rx_W rl ad (eC ad cy F M (va_up (va_up Y 0 ((L_wn F M p0 (Y 0) (Y 1) i1).1)) 1 (upd ((L_wn F M p0 (Y 0) (Y 1) i1).2) (2 * i1) (((((L_wn F M p0 (Y 0) (Y 1) i1).2)) (2 * i1)) + (if (s_X11_bitsOf ((L_ph F M p0 0 0 5) &&& (nI (2 * i1)))) < (if 0 < (((M 42) p0.toNatClampNeg) - 1) then (((M 42) p0.toNatClampNeg) - 1) else 0) then (s_X11_bitsOf ((L_ph F M p0 0 0 5) &&& (nI (2 * i1)))) else (if 0 < (((M 42) p0.toNatClampNeg) - 1) then (((M 42) p0.toNatClampNeg) - 1) else 0))))))) H := ec_mp1 (vd_u21 hrl) (ec_21 ad cy F M (va_up (va_up Y 0 ((L_wn F M p0 (Y 0) (Y 1) i1).1)) 1 ((L_wn F M p0 (Y 0) (Y 1) i1).2)) (2 * i1) (((((L_wn F M p0 (Y 0) (Y 1) i1).2)) (2 * i1)) + (if (s_X11_bitsOf ((L_ph F M p0 0 0 5) &&& (nI (2 * i1)))) < (if 0 < (((M 42) p0.toNatClampNeg) - 1) then (((M 42) p0.toNatClampNeg) - 1) else 0) then (s_X11_bitsOf ((L_ph F M p0 0 0 5) &&& (nI (2 * i1)))) else (if 0 < (((M 42) p0.toNatClampNeg) - 1) then (((M 42) p0.toNatClampNeg) - 1) else 0)))) hP
        replace hD : va_D A (rx_W rl ad (eC ad cy F M (va_up (va_up Y 0 ((L_wn F M p0 (Y 0) (Y 1) i1).1)) 1 (upd ((L_wn F M p0 (Y 0) (Y 1) i1).2) (2 * i1) (((((L_wn F M p0 (Y 0) (Y 1) i1).2)) (2 * i1)) + (if (s_X11_bitsOf ((L_ph F M p0 0 0 5) &&& (nI (2 * i1)))) < (if 0 < (((M 42) p0.toNatClampNeg) - 1) then (((M 42) p0.toNatClampNeg) - 1) else 0) then (s_X11_bitsOf ((L_ph F M p0 0 0 5) &&& (nI (2 * i1)))) else (if 0 < (((M 42) p0.toNatClampNeg) - 1) then (((M 42) p0.toNatClampNeg) - 1) else 0))))))) := rx_D hD
        refine lv_iinc (v := nI (2 * (i1 + 1))) (lv' := [(6, .int (nI (2 * (i1 + 1)))), (5, .int (L_ph F M p0 0 0 5)), (4, .int (wnG F M p0)), (3, .int (if 0 < (((M 42) p0.toNatClampNeg) - 1) then (((M 42) p0.toNatClampNeg) - 1) else 0)), (2, .int ((M 42) p0.toNatClampNeg)), (0, .ref (ad (2, 0))), (1, .int p0)]) hx hb dX2_weighNumber_95 hl (k := 0) rfl (nI_add (2 * i1) 2) (by decide) rfl (fun ls hl => ?_)
        refine lv_goto (tgt := 47) hx hb dX2_weighNumber_98 (by decide) ?_
        have e9 : L_wn F M p0 (Y 0) (Y 1) (i1 + 1) = ((L_wn F M p0 (Y 0) (Y 1) i1).1, upd ((L_wn F M p0 (Y 0) (Y 1) i1).2) (2 * i1) (((((L_wn F M p0 (Y 0) (Y 1) i1).2)) (2 * i1)) + (if (s_X11_bitsOf ((L_ph F M p0 0 0 5) &&& (nI (2 * i1)))) < (if 0 < (((M 42) p0.toNatClampNeg) - 1) then (((M 42) p0.toNatClampNeg) - 1) else 0) then (s_X11_bitsOf ((L_ph F M p0 0 0 5) &&& (nI (2 * i1)))) else (if 0 < (((M 42) p0.toNatClampNeg) - 1) then (((M 42) p0.toNatClampNeg) - 1) else 0)))) := by rw [L_wn]; rw [if_pos c2]
        refine kk1 ls H locs (show lv_has ls 7 [(6, .int (nI (2 * (i1 + 1)))), (5, .int (L_ph F M p0 0 0 5)), (4, .int (wnG F M p0)), (3, .int (if 0 < (((M 42) p0.toNatClampNeg) - 1) then (((M 42) p0.toNatClampNeg) - 1) else 0)), (2, .int ((M 42) p0.toNatClampNeg)), (0, .ref (ad (2, 0))), (1, .int p0)] from ?_) (show va_P (dC, dI) vwCl (rx_W rl ad (eC ad cy F M (va_up (va_up Y 0 ((L_wn F M p0 (Y 0) (Y 1) (i1 + 1)).1)) 1 ((L_wn F M p0 (Y 0) (Y 1) (i1 + 1)).2)))) H from ?_) (show va_D A (rx_W rl ad (eC ad cy F M (va_up (va_up Y 0 ((L_wn F M p0 (Y 0) (Y 1) (i1 + 1)).1)) 1 ((L_wn F M p0 (Y 0) (Y 1) (i1 + 1)).2)))) from ?_) hS
        · exact lv_sub hl [0, 1, 2, 3, 4, 5, 6] rfl
        · rw [e9]; exact hP
        · rw [e9]; exact hD
      · refine lv_aload_n hx hb dX2_weighNumber_62 rfl (lv_at hl 5 rfl) ?_
        refine rg_get (D := (dC, dI)) (r := (2, 0)) (ci := 2) (v := .ref (ad (20, 0))) (C := RX2) (T := TX2) (N := 3) hx hb hts hin2 hown hK hP ((hrl _).mpr (vd_2 (by decide))) en_2 rfl 1 (by decide) (hts (.fieldLink RX2 16 "SocietyBook$Holdings" "given" "[I") (by decide +kernel)) (fun _ h9 => h9) rfl dX2_weighNumber_63 ?_
        refine lv_iload hx hb dX2_weighNumber_66 (lv_at hl 0 rfl) ?_
        refine lv_dup2_11 hx hb dX2_weighNumber_68 rfl rfl ?_
        refine rg_iald (r := (20, 0)) (v := (((L_wn F M p0 (Y 0) (Y 1) i1).1)) (2 * i1)) hx hb hK hP ((hrl _).mpr (vd_20 (by decide))) 0 en_20 rfl (nx_in (show nI (2 * i1) = nI ((2 * i1)) from by show nI (2 * i1) = _; simp only [nI_add, pk_mul]) (by omega) (by decide)) (by rw [nx_cl (show nI (2 * i1) = nI ((2 * i1)) from by show nI (2 * i1) = _; simp only [nI_add, pk_mul]) (by omega)]; (first | done | rfl)) dX2_weighNumber_69 ?_
        refine lv_iconst (v := 1) hx hb dX2_weighNumber_70 (by decide) ?_
        refine lv_iadd hx hb dX2_weighNumber_71 ?_
        refine rg_iast (r := (20, 0)) hx hb hK hP hD hS ((hrl _).mpr (vd_20 (by decide))) 0 en_20 rfl (nx_in (show nI (2 * i1) = nI ((2 * i1)) from by show nI (2 * i1) = _; simp only [nI_add, pk_mul]) (by omega) (by decide)) dX2_weighNumber_72 (fun H locs hP hD hS => ?_)
        rw [nx_cl (show nI (2 * i1) = nI ((2 * i1)) from by show nI (2 * i1) = _; simp only [nI_add, pk_mul]) (by omega)] at hP
        replace hP : va_P (dC, dI) vwCl (rx_W rl ad (eC ad cy F M (va_up (va_up Y 1 ((L_wn F M p0 (Y 0) (Y 1) i1).2)) 0 (upd ((L_wn F M p0 (Y 0) (Y 1) i1).1) (2 * i1) (((((L_wn F M p0 (Y 0) (Y 1) i1).1)) (2 * i1)) + 1))))) H := ec_mp1 (vd_u20 hrl) (ec_20 ad cy F M (va_up (va_up Y 0 ((L_wn F M p0 (Y 0) (Y 1) i1).1)) 1 ((L_wn F M p0 (Y 0) (Y 1) i1).2)) (2 * i1) (((((L_wn F M p0 (Y 0) (Y 1) i1).1)) (2 * i1)) + 1)) hP
        replace hD : va_D A (rx_W rl ad (eC ad cy F M (va_up (va_up Y 1 ((L_wn F M p0 (Y 0) (Y 1) i1).2)) 0 (upd ((L_wn F M p0 (Y 0) (Y 1) i1).1) (2 * i1) (((((L_wn F M p0 (Y 0) (Y 1) i1).1)) (2 * i1)) + 1))))) := rx_D hD
        refine lv_aload_n hx hb dX2_weighNumber_73 rfl (lv_at hl 5 rfl) ?_
        refine rg_get (D := (dC, dI)) (r := (2, 0)) (ci := 2) (v := .ref (ad (21, 0))) (C := RX2) (T := TX2) (N := 3) hx hb hts hin2 hown hK hP ((hrl _).mpr (vd_2 (by decide))) en_2 rfl 2 (by decide) (hts (.fieldLink RX2 20 "SocietyBook$Holdings" "taken" "[I") (by decide +kernel)) (fun _ h9 => h9) rfl dX2_weighNumber_74 ?_
        refine lv_iload hx hb dX2_weighNumber_77 (lv_at hl 0 rfl) ?_
        refine lv_dup2_11 hx hb dX2_weighNumber_79 rfl rfl ?_
        refine rg_iald (r := (21, 0)) (v := (((L_wn F M p0 (Y 0) (Y 1) i1).2)) (2 * i1)) hx hb hK hP ((hrl _).mpr (vd_21 (by decide))) 0 en_21 rfl (nx_in (show nI (2 * i1) = nI ((2 * i1)) from by show nI (2 * i1) = _; simp only [nI_add, pk_mul]) (by omega) (by decide)) (by rw [nx_cl (show nI (2 * i1) = nI ((2 * i1)) from by show nI (2 * i1) = _; simp only [nI_add, pk_mul]) (by omega)]; (first | done | rfl)) dX2_weighNumber_80 ?_
        refine lv_iload_n hx hb dX2_weighNumber_81 rfl (lv_at hl 3 rfl) ?_
        refine lv_iload hx hb dX2_weighNumber_82 (lv_at hl 1 rfl) ?_
        refine lv_iload hx hb dX2_weighNumber_84 (lv_at hl 0 rfl) ?_
        refine lv_iand hx hb dX2_weighNumber_86 ?_
        refine vp_callSi (W.runS (As := [.int ((L_ph F M p0 0 0 5) &&& (nI (2 * i1)))]) (rest := [.int (if 0 < (((M 42) p0.toNatClampNeg) - 1) then (((M 42) p0.toNatClampNeg) - 1) else 0), .int ((((L_wn F M p0 (Y 0) (Y 1) i1).2)) (2 * i1)), .int (nI (2 * i1)), .ref (ad (21, 0))]) ⟨hx, hb, hml, hown, hts⟩ (c_J6_bitCount_0f7a4 l ((L_ph F M p0 0 0 5) &&& (nI (2 * i1)))) (va_cwS 1 hts gX2_weighNumber_J6_bitCount_0f7a4 rfl rfl rfl (by decide +kernel) ⟨Nat.le_of_ble_eq_true rfl, Nat.le_of_ble_eq_true rfl⟩) ⟨fun _ _ _ _ q => q, fun U hU hW => ⟨rfl, trivial⟩⟩ rfl rfl hl.1 rfl (lv_room (Nat.le_of_ble_eq_true rfl)) dX2_weighNumber_87 ⟨Nat.zero_le _, Nat.zero_le _⟩) (fun r hr9 => ?_)
        subst hr9
        rw [bc_eq (x := (L_ph F M p0 0 0 5) &&& (nI (2 * i1))) (nn_and (nI_pos' (show 2 * i1 < 2 ^ 31 by omega)))]
        refine va_mmin hx hb (hml.trans hl.1.symm) hown (hts (.methodLink RX2 33 Lib.Math.min.name) (by decide +kernel)) (hts (.static Lib.Math.min.name) (by decide +kernel)) (hts (.initialized "java/lang/Math") (by decide +kernel)) (hts (.code Lib.Math.min.name Lib.Math.min.code 2 (some .int)) (by decide +kernel)) (Nat.le_of_ble_eq_true rfl) (Nat.le_of_ble_eq_true rfl) (Nat.zero_le _) (Nat.zero_le _) dX2_weighNumber_90 ?_
        refine lv_iadd hx hb dX2_weighNumber_93 ?_
        refine rg_iast (r := (21, 0)) hx hb hK hP hD hS ((hrl _).mpr (vd_21 (by decide))) 0 en_21 rfl (nx_in (show nI (2 * i1) = nI ((2 * i1)) from by show nI (2 * i1) = _; simp only [nI_add, pk_mul]) (by omega) (by decide)) dX2_weighNumber_94 (fun H locs hP hD hS => ?_)
        rw [nx_cl (show nI (2 * i1) = nI ((2 * i1)) from by show nI (2 * i1) = _; simp only [nI_add, pk_mul]) (by omega)] at hP
        replace hP : va_P (dC, dI) vwCl (rx_W rl ad (eC ad cy F M (va_up (va_up Y 0 (upd ((L_wn F M p0 (Y 0) (Y 1) i1).1) (2 * i1) (((((L_wn F M p0 (Y 0) (Y 1) i1).1)) (2 * i1)) + 1))) 1 (upd ((L_wn F M p0 (Y 0) (Y 1) i1).2) (2 * i1) (((((L_wn F M p0 (Y 0) (Y 1) i1).2)) (2 * i1)) + (if (s_X11_bitsOf ((L_ph F M p0 0 0 5) &&& (nI (2 * i1)))) < (if 0 < (((M 42) p0.toNatClampNeg) - 1) then (((M 42) p0.toNatClampNeg) - 1) else 0) then (s_X11_bitsOf ((L_ph F M p0 0 0 5) &&& (nI (2 * i1)))) else (if 0 < (((M 42) p0.toNatClampNeg) - 1) then (((M 42) p0.toNatClampNeg) - 1) else 0))))))) H := ec_mp1 (vd_u21 hrl) (ec_21 ad cy F M (va_up (va_up Y 1 ((L_wn F M p0 (Y 0) (Y 1) i1).2)) 0 (upd ((L_wn F M p0 (Y 0) (Y 1) i1).1) (2 * i1) (((((L_wn F M p0 (Y 0) (Y 1) i1).1)) (2 * i1)) + 1))) (2 * i1) (((((L_wn F M p0 (Y 0) (Y 1) i1).2)) (2 * i1)) + (if (s_X11_bitsOf ((L_ph F M p0 0 0 5) &&& (nI (2 * i1)))) < (if 0 < (((M 42) p0.toNatClampNeg) - 1) then (((M 42) p0.toNatClampNeg) - 1) else 0) then (s_X11_bitsOf ((L_ph F M p0 0 0 5) &&& (nI (2 * i1)))) else (if 0 < (((M 42) p0.toNatClampNeg) - 1) then (((M 42) p0.toNatClampNeg) - 1) else 0)))) hP
        replace hD : va_D A (rx_W rl ad (eC ad cy F M (va_up (va_up Y 0 (upd ((L_wn F M p0 (Y 0) (Y 1) i1).1) (2 * i1) (((((L_wn F M p0 (Y 0) (Y 1) i1).1)) (2 * i1)) + 1))) 1 (upd ((L_wn F M p0 (Y 0) (Y 1) i1).2) (2 * i1) (((((L_wn F M p0 (Y 0) (Y 1) i1).2)) (2 * i1)) + (if (s_X11_bitsOf ((L_ph F M p0 0 0 5) &&& (nI (2 * i1)))) < (if 0 < (((M 42) p0.toNatClampNeg) - 1) then (((M 42) p0.toNatClampNeg) - 1) else 0) then (s_X11_bitsOf ((L_ph F M p0 0 0 5) &&& (nI (2 * i1)))) else (if 0 < (((M 42) p0.toNatClampNeg) - 1) then (((M 42) p0.toNatClampNeg) - 1) else 0))))))) := rx_D hD
        refine lv_iinc (v := nI (2 * (i1 + 1))) (lv' := [(6, .int (nI (2 * (i1 + 1)))), (5, .int (L_ph F M p0 0 0 5)), (4, .int (wnG F M p0)), (3, .int (if 0 < (((M 42) p0.toNatClampNeg) - 1) then (((M 42) p0.toNatClampNeg) - 1) else 0)), (2, .int ((M 42) p0.toNatClampNeg)), (0, .ref (ad (2, 0))), (1, .int p0)]) hx hb dX2_weighNumber_95 hl (k := 0) rfl (nI_add (2 * i1) 2) (by decide) rfl (fun ls hl => ?_)
        refine lv_goto (tgt := 47) hx hb dX2_weighNumber_98 (by decide) ?_
        have e9 : L_wn F M p0 (Y 0) (Y 1) (i1 + 1) = (upd ((L_wn F M p0 (Y 0) (Y 1) i1).1) (2 * i1) (((((L_wn F M p0 (Y 0) (Y 1) i1).1)) (2 * i1)) + 1), upd ((L_wn F M p0 (Y 0) (Y 1) i1).2) (2 * i1) (((((L_wn F M p0 (Y 0) (Y 1) i1).2)) (2 * i1)) + (if (s_X11_bitsOf ((L_ph F M p0 0 0 5) &&& (nI (2 * i1)))) < (if 0 < (((M 42) p0.toNatClampNeg) - 1) then (((M 42) p0.toNatClampNeg) - 1) else 0) then (s_X11_bitsOf ((L_ph F M p0 0 0 5) &&& (nI (2 * i1)))) else (if 0 < (((M 42) p0.toNatClampNeg) - 1) then (((M 42) p0.toNatClampNeg) - 1) else 0)))) := by rw [L_wn]; rw [if_neg c2]
        refine kk1 ls H locs (show lv_has ls 7 [(6, .int (nI (2 * (i1 + 1)))), (5, .int (L_ph F M p0 0 0 5)), (4, .int (wnG F M p0)), (3, .int (if 0 < (((M 42) p0.toNatClampNeg) - 1) then (((M 42) p0.toNatClampNeg) - 1) else 0)), (2, .int ((M 42) p0.toNatClampNeg)), (0, .ref (ad (2, 0))), (1, .int p0)] from ?_) (show va_P (dC, dI) vwCl (rx_W rl ad (eC ad cy F M (va_up (va_up Y 0 ((L_wn F M p0 (Y 0) (Y 1) (i1 + 1)).1)) 1 ((L_wn F M p0 (Y 0) (Y 1) (i1 + 1)).2)))) H from ?_) (show va_D A (rx_W rl ad (eC ad cy F M (va_up (va_up Y 0 ((L_wn F M p0 (Y 0) (Y 1) (i1 + 1)).1)) 1 ((L_wn F M p0 (Y 0) (Y 1) (i1 + 1)).2)))) from ?_) hS
        · exact lv_sub hl [0, 1, 2, 3, 4, 5, 6] rfl
        · rw [e9]; exact hP
        · rw [e9]; exact hD
    · replace hl : lv_has ls 7 [(6, .int (nI (2 * n32))), (5, .int (L_ph F M p0 0 0 5)), (4, .int (wnG F M p0)), (3, .int (if 0 < (((M 42) p0.toNatClampNeg) - 1) then (((M 42) p0.toNatClampNeg) - 1) else 0)), (2, .int ((M 42) p0.toNatClampNeg)), (0, .ref (ad (2, 0))), (1, .int p0)] := hl
      replace hP : va_P (dC, dI) vwCl (rx_W rl ad (eC ad cy F M (va_up (va_up Y 0 ((L_wn F M p0 (Y 0) (Y 1) n32).1)) 1 ((L_wn F M p0 (Y 0) (Y 1) n32).2)))) H := hP
      replace hD : va_D A (rx_W rl ad (eC ad cy F M (va_up (va_up Y 0 ((L_wn F M p0 (Y 0) (Y 1) n32).1)) 1 ((L_wn F M p0 (Y 0) (Y 1) n32).2)))) := hD
      refine lv_iload hx hb dX2_weighNumber_47 (lv_at hl 0 rfl) ?_
      refine lv_bipush (v := 62) hx hb dX2_weighNumber_49 (by decide) ?_
      refine lv_icmp_gt (tgt := 101) hx hb dX2_weighNumber_51 (by decide) (fun _ => ?_) (fun c => absurd lb_y62 c)
      exact W.vret hx hb hr (fun t ht hW => ⟨⟨va_up (va_up Y 0 ((L_wn F M p0 (Y 0) (Y 1) n32).1)) 1 ((L_wn F M p0 (Y 0) (Y 1) n32).2), rfl, rfl, ⟨⟨by rw [ht]; exact hP, va_K.moved hW.alike hK, nst_w hW hN⟩, hD⟩⟩, hS.F ht⟩) hS.2.2 dX2_weighNumber_101
  · refine lv_aload_n hx hb dX2_weighNumber_21 rfl (lv_at hl 2 rfl) ?_
    refine lv_iload_n hx hb dX2_weighNumber_22 rfl (lv_at hl 3 rfl) ?_
    refine lv_iconst (v := 2) hx hb dX2_weighNumber_23 (by decide) ?_
    refine lv_bipush (v := 9) hx hb dX2_weighNumber_24 (by decide) ?_
    refine vp_callSi (W.runV (As := [.int p0, .int 2, .int 9]) (rest := []) ⟨hx, hb, hml, hown, hts⟩ (c_X2_partnersHaving l dC dI rl ad cy F M Y  p0 2 9 hrl hI hJ hx12) (cwV 3 hts gX2_weighNumber_X2_partnersHaving rfl rfl rfl (by decide +kernel) ⟨Nat.le_of_ble_eq_true rfl, Nat.le_of_ble_eq_true rfl⟩) ⟨pc_blind, rg_recv hK hP ((hrl _).mpr (vd_2 (by decide))) (ci := 2) rfl en_2, fun U hU hW => ⟨rfl, by rw [hU]; exact hP, va_K.moved hW.alike hK, nst_w hW hN⟩⟩ rfl rfl hl.1 rfl (lv_room (Nat.le_of_ble_eq_true rfl)) dX2_weighNumber_26 ⟨Nat.zero_le _, Nat.zero_le _⟩) (fun r hr9 => ?_)
    subst hr9
    refine lv_goto (tgt := 33) hx hb dX2_weighNumber_29 (by decide) ?_
    refine W.eq (g2 := F0 m 33 ls (.int (wnG F M p0) :: [])) (by unfold wnG; rw [if_pos c1]) ?_
    refine lv_istore (lv' := [(4, .int (wnG F M p0)), (3, .int (if 0 < (((M 42) p0.toNatClampNeg) - 1) then (((M 42) p0.toNatClampNeg) - 1) else 0)), (2, .int ((M 42) p0.toNatClampNeg)), (0, .ref (ad (2, 0))), (1, .int p0)]) hx hb dX2_weighNumber_33 hl (by decide) rfl (fun ls hl => ?_)
    refine lv_aload_n hx hb dX2_weighNumber_35 rfl (lv_at hl 3 rfl) ?_
    refine lv_iload_n hx hb dX2_weighNumber_36 rfl (lv_at hl 4 rfl) ?_
    refine lv_iconst (v := 0) hx hb dX2_weighNumber_37 (by decide) ?_
    refine lv_iconst (v := 0) hx hb dX2_weighNumber_38 (by decide) ?_
    refine vp_callSi (W.runV (As := [.int p0, .int 0, .int 0]) (rest := []) ⟨hx, hb, hml, hown, hts⟩ (c_X2_partnersHaving l dC dI rl ad cy F M Y  p0 0 0 hrl hI hJ hx12) (cwV 3 hts gX2_weighNumber_X2_partnersHaving rfl rfl rfl (by decide +kernel) ⟨Nat.le_of_ble_eq_true rfl, Nat.le_of_ble_eq_true rfl⟩) ⟨pc_blind, rg_recv hK hP ((hrl _).mpr (vd_2 (by decide))) (ci := 2) rfl en_2, fun U hU hW => ⟨rfl, by rw [hU]; exact hP, va_K.moved hW.alike hK, nst_w hW hN⟩⟩ rfl rfl hl.1 rfl (lv_room (Nat.le_of_ble_eq_true rfl)) dX2_weighNumber_39 ⟨Nat.zero_le _, Nat.zero_le _⟩) (fun r hr9 => ?_)
    subst hr9
    refine lv_istore (lv' := [(5, .int (L_ph F M p0 0 0 5)), (4, .int (wnG F M p0)), (3, .int (if 0 < (((M 42) p0.toNatClampNeg) - 1) then (((M 42) p0.toNatClampNeg) - 1) else 0)), (2, .int ((M 42) p0.toNatClampNeg)), (0, .ref (ad (2, 0))), (1, .int p0)]) hx hb dX2_weighNumber_42 hl (by decide) rfl (fun ls hl => ?_)
    refine lv_iconst (v := 0) hx hb dX2_weighNumber_44 (by decide) ?_
    refine lv_istore (lv' := [(6, .int 0), (5, .int (L_ph F M p0 0 0 5)), (4, .int (wnG F M p0)), (3, .int (if 0 < (((M 42) p0.toNatClampNeg) - 1) then (((M 42) p0.toNatClampNeg) - 1) else 0)), (2, .int ((M 42) p0.toNatClampNeg)), (0, .ref (ad (2, 0))), (1, .int p0)]) hx hb dX2_weighNumber_45 hl (by decide) rfl (fun ls hl => ?_)
    refine lp_forH (N := n32) (lv := fun i1 => [(6, .int (nI (2 * i1))), (5, .int (L_ph F M p0 0 0 5)), (4, .int (wnG F M p0)), (3, .int (if 0 < (((M 42) p0.toNatClampNeg) - 1) then (((M 42) p0.toNatClampNeg) - 1) else 0)), (2, .int ((M 42) p0.toNatClampNeg)), (0, .ref (ad (2, 0))), (1, .int p0)]) (wd := fun i1 => rx_W rl ad (eC ad cy F M (va_up (va_up Y 0 ((L_wn F M p0 (Y 0) (Y 1) i1).1)) 1 ((L_wn F M p0 (Y 0) (Y 1) i1).2)))) hP hD hS (lv_sub hl [0, 1, 2, 3, 4, 5, 6] rfl) (fun i1 hi1 ls H locs hl hP hD hS kk1 => ?_) (fun ls H locs hl hP hD hS => ?_)
    · replace hl : lv_has ls 7 [(6, .int (nI (2 * i1))), (5, .int (L_ph F M p0 0 0 5)), (4, .int (wnG F M p0)), (3, .int (if 0 < (((M 42) p0.toNatClampNeg) - 1) then (((M 42) p0.toNatClampNeg) - 1) else 0)), (2, .int ((M 42) p0.toNatClampNeg)), (0, .ref (ad (2, 0))), (1, .int p0)] := hl
      replace hP : va_P (dC, dI) vwCl (rx_W rl ad (eC ad cy F M (va_up (va_up Y 0 ((L_wn F M p0 (Y 0) (Y 1) i1).1)) 1 ((L_wn F M p0 (Y 0) (Y 1) i1).2)))) H := hP
      replace hD : va_D A (rx_W rl ad (eC ad cy F M (va_up (va_up Y 0 ((L_wn F M p0 (Y 0) (Y 1) i1).1)) 1 ((L_wn F M p0 (Y 0) (Y 1) i1).2)))) := hD
      refine lv_iload hx hb dX2_weighNumber_47 (lv_at hl 0 rfl) ?_
      refine lv_bipush (v := 62) hx hb dX2_weighNumber_49 (by decide) ?_
      refine lv_icmp_gt (tgt := 101) hx hb dX2_weighNumber_51 (by decide) (fun c => absurd c (lb_n62 hi1)) (fun _ => ?_)
      refine lv_iload hx hb dX2_weighNumber_54 (lv_at hl 2 rfl) ?_
      refine lv_iload hx hb dX2_weighNumber_56 (lv_at hl 0 rfl) ?_
      refine lv_iand hx hb dX2_weighNumber_58 ?_
      refine lv_if_eq (tgt := 73) hx hb dX2_weighNumber_59 (by decide) (fun c3 => ?_) (fun c3 => ?_)
      · refine lv_aload_n hx hb dX2_weighNumber_73 rfl (lv_at hl 5 rfl) ?_
        refine rg_get (D := (dC, dI)) (r := (2, 0)) (ci := 2) (v := .ref (ad (21, 0))) (C := RX2) (T := TX2) (N := 3) hx hb hts hin2 hown hK hP ((hrl _).mpr (vd_2 (by decide))) en_2 rfl 2 (by decide) (hts (.fieldLink RX2 20 "SocietyBook$Holdings" "taken" "[I") (by decide +kernel)) (fun _ h9 => h9) rfl dX2_weighNumber_74 ?_
        refine lv_iload hx hb dX2_weighNumber_77 (lv_at hl 0 rfl) ?_
        refine lv_dup2_11 hx hb dX2_weighNumber_79 rfl rfl ?_
        refine rg_iald (r := (21, 0)) (v := (((L_wn F M p0 (Y 0) (Y 1) i1).2)) (2 * i1)) hx hb hK hP ((hrl _).mpr (vd_21 (by decide))) 0 en_21 rfl (nx_in (show nI (2 * i1) = nI ((2 * i1)) from by show nI (2 * i1) = _; simp only [nI_add, pk_mul]) (by omega) (by decide)) (by rw [nx_cl (show nI (2 * i1) = nI ((2 * i1)) from by show nI (2 * i1) = _; simp only [nI_add, pk_mul]) (by omega)]; (first | done | rfl)) dX2_weighNumber_80 ?_
        refine lv_iload_n hx hb dX2_weighNumber_81 rfl (lv_at hl 3 rfl) ?_
        refine lv_iload hx hb dX2_weighNumber_82 (lv_at hl 1 rfl) ?_
        refine lv_iload hx hb dX2_weighNumber_84 (lv_at hl 0 rfl) ?_
        refine lv_iand hx hb dX2_weighNumber_86 ?_
        refine vp_callSi (W.runS (As := [.int ((L_ph F M p0 0 0 5) &&& (nI (2 * i1)))]) (rest := [.int (if 0 < (((M 42) p0.toNatClampNeg) - 1) then (((M 42) p0.toNatClampNeg) - 1) else 0), .int ((((L_wn F M p0 (Y 0) (Y 1) i1).2)) (2 * i1)), .int (nI (2 * i1)), .ref (ad (21, 0))]) ⟨hx, hb, hml, hown, hts⟩ (c_J6_bitCount_0f7a4 l ((L_ph F M p0 0 0 5) &&& (nI (2 * i1)))) (va_cwS 1 hts gX2_weighNumber_J6_bitCount_0f7a4 rfl rfl rfl (by decide +kernel) ⟨Nat.le_of_ble_eq_true rfl, Nat.le_of_ble_eq_true rfl⟩) ⟨fun _ _ _ _ q => q, fun U hU hW => ⟨rfl, trivial⟩⟩ rfl rfl hl.1 rfl (lv_room (Nat.le_of_ble_eq_true rfl)) dX2_weighNumber_87 ⟨Nat.zero_le _, Nat.zero_le _⟩) (fun r hr9 => ?_)
        subst hr9
        rw [bc_eq (x := (L_ph F M p0 0 0 5) &&& (nI (2 * i1))) (nn_and (nI_pos' (show 2 * i1 < 2 ^ 31 by omega)))]
        refine va_mmin hx hb (hml.trans hl.1.symm) hown (hts (.methodLink RX2 33 Lib.Math.min.name) (by decide +kernel)) (hts (.static Lib.Math.min.name) (by decide +kernel)) (hts (.initialized "java/lang/Math") (by decide +kernel)) (hts (.code Lib.Math.min.name Lib.Math.min.code 2 (some .int)) (by decide +kernel)) (Nat.le_of_ble_eq_true rfl) (Nat.le_of_ble_eq_true rfl) (Nat.zero_le _) (Nat.zero_le _) dX2_weighNumber_90 ?_
        refine lv_iadd hx hb dX2_weighNumber_93 ?_
        refine rg_iast (r := (21, 0)) hx hb hK hP hD hS ((hrl _).mpr (vd_21 (by decide))) 0 en_21 rfl (nx_in (show nI (2 * i1) = nI ((2 * i1)) from by show nI (2 * i1) = _; simp only [nI_add, pk_mul]) (by omega) (by decide)) dX2_weighNumber_94 (fun H locs hP hD hS => ?_)
        rw [nx_cl (show nI (2 * i1) = nI ((2 * i1)) from by show nI (2 * i1) = _; simp only [nI_add, pk_mul]) (by omega)] at hP
        replace hP : va_P (dC, dI) vwCl (rx_W rl ad (eC ad cy F M (va_up (va_up Y 0 ((L_wn F M p0 (Y 0) (Y 1) i1).1)) 1 (upd ((L_wn F M p0 (Y 0) (Y 1) i1).2) (2 * i1) (((((L_wn F M p0 (Y 0) (Y 1) i1).2)) (2 * i1)) + (if (s_X11_bitsOf ((L_ph F M p0 0 0 5) &&& (nI (2 * i1)))) < (if 0 < (((M 42) p0.toNatClampNeg) - 1) then (((M 42) p0.toNatClampNeg) - 1) else 0) then (s_X11_bitsOf ((L_ph F M p0 0 0 5) &&& (nI (2 * i1)))) else (if 0 < (((M 42) p0.toNatClampNeg) - 1) then (((M 42) p0.toNatClampNeg) - 1) else 0))))))) H := ec_mp1 (vd_u21 hrl) (ec_21 ad cy F M (va_up (va_up Y 0 ((L_wn F M p0 (Y 0) (Y 1) i1).1)) 1 ((L_wn F M p0 (Y 0) (Y 1) i1).2)) (2 * i1) (((((L_wn F M p0 (Y 0) (Y 1) i1).2)) (2 * i1)) + (if (s_X11_bitsOf ((L_ph F M p0 0 0 5) &&& (nI (2 * i1)))) < (if 0 < (((M 42) p0.toNatClampNeg) - 1) then (((M 42) p0.toNatClampNeg) - 1) else 0) then (s_X11_bitsOf ((L_ph F M p0 0 0 5) &&& (nI (2 * i1)))) else (if 0 < (((M 42) p0.toNatClampNeg) - 1) then (((M 42) p0.toNatClampNeg) - 1) else 0)))) hP
        replace hD : va_D A (rx_W rl ad (eC ad cy F M (va_up (va_up Y 0 ((L_wn F M p0 (Y 0) (Y 1) i1).1)) 1 (upd ((L_wn F M p0 (Y 0) (Y 1) i1).2) (2 * i1) (((((L_wn F M p0 (Y 0) (Y 1) i1).2)) (2 * i1)) + (if (s_X11_bitsOf ((L_ph F M p0 0 0 5) &&& (nI (2 * i1)))) < (if 0 < (((M 42) p0.toNatClampNeg) - 1) then (((M 42) p0.toNatClampNeg) - 1) else 0) then (s_X11_bitsOf ((L_ph F M p0 0 0 5) &&& (nI (2 * i1)))) else (if 0 < (((M 42) p0.toNatClampNeg) - 1) then (((M 42) p0.toNatClampNeg) - 1) else 0))))))) := rx_D hD
        refine lv_iinc (v := nI (2 * (i1 + 1))) (lv' := [(6, .int (nI (2 * (i1 + 1)))), (5, .int (L_ph F M p0 0 0 5)), (4, .int (wnG F M p0)), (3, .int (if 0 < (((M 42) p0.toNatClampNeg) - 1) then (((M 42) p0.toNatClampNeg) - 1) else 0)), (2, .int ((M 42) p0.toNatClampNeg)), (0, .ref (ad (2, 0))), (1, .int p0)]) hx hb dX2_weighNumber_95 hl (k := 0) rfl (nI_add (2 * i1) 2) (by decide) rfl (fun ls hl => ?_)
        refine lv_goto (tgt := 47) hx hb dX2_weighNumber_98 (by decide) ?_
        have e9 : L_wn F M p0 (Y 0) (Y 1) (i1 + 1) = ((L_wn F M p0 (Y 0) (Y 1) i1).1, upd ((L_wn F M p0 (Y 0) (Y 1) i1).2) (2 * i1) (((((L_wn F M p0 (Y 0) (Y 1) i1).2)) (2 * i1)) + (if (s_X11_bitsOf ((L_ph F M p0 0 0 5) &&& (nI (2 * i1)))) < (if 0 < (((M 42) p0.toNatClampNeg) - 1) then (((M 42) p0.toNatClampNeg) - 1) else 0) then (s_X11_bitsOf ((L_ph F M p0 0 0 5) &&& (nI (2 * i1)))) else (if 0 < (((M 42) p0.toNatClampNeg) - 1) then (((M 42) p0.toNatClampNeg) - 1) else 0)))) := by rw [L_wn]; rw [if_pos c3]
        refine kk1 ls H locs (show lv_has ls 7 [(6, .int (nI (2 * (i1 + 1)))), (5, .int (L_ph F M p0 0 0 5)), (4, .int (wnG F M p0)), (3, .int (if 0 < (((M 42) p0.toNatClampNeg) - 1) then (((M 42) p0.toNatClampNeg) - 1) else 0)), (2, .int ((M 42) p0.toNatClampNeg)), (0, .ref (ad (2, 0))), (1, .int p0)] from ?_) (show va_P (dC, dI) vwCl (rx_W rl ad (eC ad cy F M (va_up (va_up Y 0 ((L_wn F M p0 (Y 0) (Y 1) (i1 + 1)).1)) 1 ((L_wn F M p0 (Y 0) (Y 1) (i1 + 1)).2)))) H from ?_) (show va_D A (rx_W rl ad (eC ad cy F M (va_up (va_up Y 0 ((L_wn F M p0 (Y 0) (Y 1) (i1 + 1)).1)) 1 ((L_wn F M p0 (Y 0) (Y 1) (i1 + 1)).2)))) from ?_) hS
        · exact lv_sub hl [0, 1, 2, 3, 4, 5, 6] rfl
        · rw [e9]; exact hP
        · rw [e9]; exact hD
      · refine lv_aload_n hx hb dX2_weighNumber_62 rfl (lv_at hl 5 rfl) ?_
        refine rg_get (D := (dC, dI)) (r := (2, 0)) (ci := 2) (v := .ref (ad (20, 0))) (C := RX2) (T := TX2) (N := 3) hx hb hts hin2 hown hK hP ((hrl _).mpr (vd_2 (by decide))) en_2 rfl 1 (by decide) (hts (.fieldLink RX2 16 "SocietyBook$Holdings" "given" "[I") (by decide +kernel)) (fun _ h9 => h9) rfl dX2_weighNumber_63 ?_
        refine lv_iload hx hb dX2_weighNumber_66 (lv_at hl 0 rfl) ?_
        refine lv_dup2_11 hx hb dX2_weighNumber_68 rfl rfl ?_
        refine rg_iald (r := (20, 0)) (v := (((L_wn F M p0 (Y 0) (Y 1) i1).1)) (2 * i1)) hx hb hK hP ((hrl _).mpr (vd_20 (by decide))) 0 en_20 rfl (nx_in (show nI (2 * i1) = nI ((2 * i1)) from by show nI (2 * i1) = _; simp only [nI_add, pk_mul]) (by omega) (by decide)) (by rw [nx_cl (show nI (2 * i1) = nI ((2 * i1)) from by show nI (2 * i1) = _; simp only [nI_add, pk_mul]) (by omega)]; (first | done | rfl)) dX2_weighNumber_69 ?_
        refine lv_iconst (v := 1) hx hb dX2_weighNumber_70 (by decide) ?_
        refine lv_iadd hx hb dX2_weighNumber_71 ?_
        refine rg_iast (r := (20, 0)) hx hb hK hP hD hS ((hrl _).mpr (vd_20 (by decide))) 0 en_20 rfl (nx_in (show nI (2 * i1) = nI ((2 * i1)) from by show nI (2 * i1) = _; simp only [nI_add, pk_mul]) (by omega) (by decide)) dX2_weighNumber_72 (fun H locs hP hD hS => ?_)
        rw [nx_cl (show nI (2 * i1) = nI ((2 * i1)) from by show nI (2 * i1) = _; simp only [nI_add, pk_mul]) (by omega)] at hP
        replace hP : va_P (dC, dI) vwCl (rx_W rl ad (eC ad cy F M (va_up (va_up Y 1 ((L_wn F M p0 (Y 0) (Y 1) i1).2)) 0 (upd ((L_wn F M p0 (Y 0) (Y 1) i1).1) (2 * i1) (((((L_wn F M p0 (Y 0) (Y 1) i1).1)) (2 * i1)) + 1))))) H := ec_mp1 (vd_u20 hrl) (ec_20 ad cy F M (va_up (va_up Y 0 ((L_wn F M p0 (Y 0) (Y 1) i1).1)) 1 ((L_wn F M p0 (Y 0) (Y 1) i1).2)) (2 * i1) (((((L_wn F M p0 (Y 0) (Y 1) i1).1)) (2 * i1)) + 1)) hP
        replace hD : va_D A (rx_W rl ad (eC ad cy F M (va_up (va_up Y 1 ((L_wn F M p0 (Y 0) (Y 1) i1).2)) 0 (upd ((L_wn F M p0 (Y 0) (Y 1) i1).1) (2 * i1) (((((L_wn F M p0 (Y 0) (Y 1) i1).1)) (2 * i1)) + 1))))) := rx_D hD
        refine lv_aload_n hx hb dX2_weighNumber_73 rfl (lv_at hl 5 rfl) ?_
        refine rg_get (D := (dC, dI)) (r := (2, 0)) (ci := 2) (v := .ref (ad (21, 0))) (C := RX2) (T := TX2) (N := 3) hx hb hts hin2 hown hK hP ((hrl _).mpr (vd_2 (by decide))) en_2 rfl 2 (by decide) (hts (.fieldLink RX2 20 "SocietyBook$Holdings" "taken" "[I") (by decide +kernel)) (fun _ h9 => h9) rfl dX2_weighNumber_74 ?_
        refine lv_iload hx hb dX2_weighNumber_77 (lv_at hl 0 rfl) ?_
        refine lv_dup2_11 hx hb dX2_weighNumber_79 rfl rfl ?_
        refine rg_iald (r := (21, 0)) (v := (((L_wn F M p0 (Y 0) (Y 1) i1).2)) (2 * i1)) hx hb hK hP ((hrl _).mpr (vd_21 (by decide))) 0 en_21 rfl (nx_in (show nI (2 * i1) = nI ((2 * i1)) from by show nI (2 * i1) = _; simp only [nI_add, pk_mul]) (by omega) (by decide)) (by rw [nx_cl (show nI (2 * i1) = nI ((2 * i1)) from by show nI (2 * i1) = _; simp only [nI_add, pk_mul]) (by omega)]; (first | done | rfl)) dX2_weighNumber_80 ?_
        refine lv_iload_n hx hb dX2_weighNumber_81 rfl (lv_at hl 3 rfl) ?_
        refine lv_iload hx hb dX2_weighNumber_82 (lv_at hl 1 rfl) ?_
        refine lv_iload hx hb dX2_weighNumber_84 (lv_at hl 0 rfl) ?_
        refine lv_iand hx hb dX2_weighNumber_86 ?_
        refine vp_callSi (W.runS (As := [.int ((L_ph F M p0 0 0 5) &&& (nI (2 * i1)))]) (rest := [.int (if 0 < (((M 42) p0.toNatClampNeg) - 1) then (((M 42) p0.toNatClampNeg) - 1) else 0), .int ((((L_wn F M p0 (Y 0) (Y 1) i1).2)) (2 * i1)), .int (nI (2 * i1)), .ref (ad (21, 0))]) ⟨hx, hb, hml, hown, hts⟩ (c_J6_bitCount_0f7a4 l ((L_ph F M p0 0 0 5) &&& (nI (2 * i1)))) (va_cwS 1 hts gX2_weighNumber_J6_bitCount_0f7a4 rfl rfl rfl (by decide +kernel) ⟨Nat.le_of_ble_eq_true rfl, Nat.le_of_ble_eq_true rfl⟩) ⟨fun _ _ _ _ q => q, fun U hU hW => ⟨rfl, trivial⟩⟩ rfl rfl hl.1 rfl (lv_room (Nat.le_of_ble_eq_true rfl)) dX2_weighNumber_87 ⟨Nat.zero_le _, Nat.zero_le _⟩) (fun r hr9 => ?_)
        subst hr9
        rw [bc_eq (x := (L_ph F M p0 0 0 5) &&& (nI (2 * i1))) (nn_and (nI_pos' (show 2 * i1 < 2 ^ 31 by omega)))]
        refine va_mmin hx hb (hml.trans hl.1.symm) hown (hts (.methodLink RX2 33 Lib.Math.min.name) (by decide +kernel)) (hts (.static Lib.Math.min.name) (by decide +kernel)) (hts (.initialized "java/lang/Math") (by decide +kernel)) (hts (.code Lib.Math.min.name Lib.Math.min.code 2 (some .int)) (by decide +kernel)) (Nat.le_of_ble_eq_true rfl) (Nat.le_of_ble_eq_true rfl) (Nat.zero_le _) (Nat.zero_le _) dX2_weighNumber_90 ?_
        refine lv_iadd hx hb dX2_weighNumber_93 ?_
        refine rg_iast (r := (21, 0)) hx hb hK hP hD hS ((hrl _).mpr (vd_21 (by decide))) 0 en_21 rfl (nx_in (show nI (2 * i1) = nI ((2 * i1)) from by show nI (2 * i1) = _; simp only [nI_add, pk_mul]) (by omega) (by decide)) dX2_weighNumber_94 (fun H locs hP hD hS => ?_)
        rw [nx_cl (show nI (2 * i1) = nI ((2 * i1)) from by show nI (2 * i1) = _; simp only [nI_add, pk_mul]) (by omega)] at hP
        replace hP : va_P (dC, dI) vwCl (rx_W rl ad (eC ad cy F M (va_up (va_up Y 0 (upd ((L_wn F M p0 (Y 0) (Y 1) i1).1) (2 * i1) (((((L_wn F M p0 (Y 0) (Y 1) i1).1)) (2 * i1)) + 1))) 1 (upd ((L_wn F M p0 (Y 0) (Y 1) i1).2) (2 * i1) (((((L_wn F M p0 (Y 0) (Y 1) i1).2)) (2 * i1)) + (if (s_X11_bitsOf ((L_ph F M p0 0 0 5) &&& (nI (2 * i1)))) < (if 0 < (((M 42) p0.toNatClampNeg) - 1) then (((M 42) p0.toNatClampNeg) - 1) else 0) then (s_X11_bitsOf ((L_ph F M p0 0 0 5) &&& (nI (2 * i1)))) else (if 0 < (((M 42) p0.toNatClampNeg) - 1) then (((M 42) p0.toNatClampNeg) - 1) else 0))))))) H := ec_mp1 (vd_u21 hrl) (ec_21 ad cy F M (va_up (va_up Y 1 ((L_wn F M p0 (Y 0) (Y 1) i1).2)) 0 (upd ((L_wn F M p0 (Y 0) (Y 1) i1).1) (2 * i1) (((((L_wn F M p0 (Y 0) (Y 1) i1).1)) (2 * i1)) + 1))) (2 * i1) (((((L_wn F M p0 (Y 0) (Y 1) i1).2)) (2 * i1)) + (if (s_X11_bitsOf ((L_ph F M p0 0 0 5) &&& (nI (2 * i1)))) < (if 0 < (((M 42) p0.toNatClampNeg) - 1) then (((M 42) p0.toNatClampNeg) - 1) else 0) then (s_X11_bitsOf ((L_ph F M p0 0 0 5) &&& (nI (2 * i1)))) else (if 0 < (((M 42) p0.toNatClampNeg) - 1) then (((M 42) p0.toNatClampNeg) - 1) else 0)))) hP
        replace hD : va_D A (rx_W rl ad (eC ad cy F M (va_up (va_up Y 0 (upd ((L_wn F M p0 (Y 0) (Y 1) i1).1) (2 * i1) (((((L_wn F M p0 (Y 0) (Y 1) i1).1)) (2 * i1)) + 1))) 1 (upd ((L_wn F M p0 (Y 0) (Y 1) i1).2) (2 * i1) (((((L_wn F M p0 (Y 0) (Y 1) i1).2)) (2 * i1)) + (if (s_X11_bitsOf ((L_ph F M p0 0 0 5) &&& (nI (2 * i1)))) < (if 0 < (((M 42) p0.toNatClampNeg) - 1) then (((M 42) p0.toNatClampNeg) - 1) else 0) then (s_X11_bitsOf ((L_ph F M p0 0 0 5) &&& (nI (2 * i1)))) else (if 0 < (((M 42) p0.toNatClampNeg) - 1) then (((M 42) p0.toNatClampNeg) - 1) else 0))))))) := rx_D hD
        refine lv_iinc (v := nI (2 * (i1 + 1))) (lv' := [(6, .int (nI (2 * (i1 + 1)))), (5, .int (L_ph F M p0 0 0 5)), (4, .int (wnG F M p0)), (3, .int (if 0 < (((M 42) p0.toNatClampNeg) - 1) then (((M 42) p0.toNatClampNeg) - 1) else 0)), (2, .int ((M 42) p0.toNatClampNeg)), (0, .ref (ad (2, 0))), (1, .int p0)]) hx hb dX2_weighNumber_95 hl (k := 0) rfl (nI_add (2 * i1) 2) (by decide) rfl (fun ls hl => ?_)
        refine lv_goto (tgt := 47) hx hb dX2_weighNumber_98 (by decide) ?_
        have e9 : L_wn F M p0 (Y 0) (Y 1) (i1 + 1) = (upd ((L_wn F M p0 (Y 0) (Y 1) i1).1) (2 * i1) (((((L_wn F M p0 (Y 0) (Y 1) i1).1)) (2 * i1)) + 1), upd ((L_wn F M p0 (Y 0) (Y 1) i1).2) (2 * i1) (((((L_wn F M p0 (Y 0) (Y 1) i1).2)) (2 * i1)) + (if (s_X11_bitsOf ((L_ph F M p0 0 0 5) &&& (nI (2 * i1)))) < (if 0 < (((M 42) p0.toNatClampNeg) - 1) then (((M 42) p0.toNatClampNeg) - 1) else 0) then (s_X11_bitsOf ((L_ph F M p0 0 0 5) &&& (nI (2 * i1)))) else (if 0 < (((M 42) p0.toNatClampNeg) - 1) then (((M 42) p0.toNatClampNeg) - 1) else 0)))) := by rw [L_wn]; rw [if_neg c3]
        refine kk1 ls H locs (show lv_has ls 7 [(6, .int (nI (2 * (i1 + 1)))), (5, .int (L_ph F M p0 0 0 5)), (4, .int (wnG F M p0)), (3, .int (if 0 < (((M 42) p0.toNatClampNeg) - 1) then (((M 42) p0.toNatClampNeg) - 1) else 0)), (2, .int ((M 42) p0.toNatClampNeg)), (0, .ref (ad (2, 0))), (1, .int p0)] from ?_) (show va_P (dC, dI) vwCl (rx_W rl ad (eC ad cy F M (va_up (va_up Y 0 ((L_wn F M p0 (Y 0) (Y 1) (i1 + 1)).1)) 1 ((L_wn F M p0 (Y 0) (Y 1) (i1 + 1)).2)))) H from ?_) (show va_D A (rx_W rl ad (eC ad cy F M (va_up (va_up Y 0 ((L_wn F M p0 (Y 0) (Y 1) (i1 + 1)).1)) 1 ((L_wn F M p0 (Y 0) (Y 1) (i1 + 1)).2)))) from ?_) hS
        · exact lv_sub hl [0, 1, 2, 3, 4, 5, 6] rfl
        · rw [e9]; exact hP
        · rw [e9]; exact hD
    · replace hl : lv_has ls 7 [(6, .int (nI (2 * n32))), (5, .int (L_ph F M p0 0 0 5)), (4, .int (wnG F M p0)), (3, .int (if 0 < (((M 42) p0.toNatClampNeg) - 1) then (((M 42) p0.toNatClampNeg) - 1) else 0)), (2, .int ((M 42) p0.toNatClampNeg)), (0, .ref (ad (2, 0))), (1, .int p0)] := hl
      replace hP : va_P (dC, dI) vwCl (rx_W rl ad (eC ad cy F M (va_up (va_up Y 0 ((L_wn F M p0 (Y 0) (Y 1) n32).1)) 1 ((L_wn F M p0 (Y 0) (Y 1) n32).2)))) H := hP
      replace hD : va_D A (rx_W rl ad (eC ad cy F M (va_up (va_up Y 0 ((L_wn F M p0 (Y 0) (Y 1) n32).1)) 1 ((L_wn F M p0 (Y 0) (Y 1) n32).2)))) := hD
      refine lv_iload hx hb dX2_weighNumber_47 (lv_at hl 0 rfl) ?_
      refine lv_bipush (v := 62) hx hb dX2_weighNumber_49 (by decide) ?_
      refine lv_icmp_gt (tgt := 101) hx hb dX2_weighNumber_51 (by decide) (fun _ => ?_) (fun c => absurd lb_y62 c)
      exact W.vret hx hb hr (fun t ht hW => ⟨⟨va_up (va_up Y 0 ((L_wn F M p0 (Y 0) (Y 1) n32).1)) 1 ((L_wn F M p0 (Y 0) (Y 1) n32).2), rfl, rfl, ⟨⟨by rw [ht]; exact hP, va_K.moved hW.alike hK, nst_w hW hN⟩, hD⟩⟩, hS.F ht⟩) hS.2.2 dX2_weighNumber_101

def L_wg1 (F : Nat → Int32) (M : Nat → Nat → Int32)  (z0 : (Nat → Int32)) (z1 : (Nat → Int32)) : Nat → (Nat → Int32) × (Nat → Int32)
  | 0 => (z0, z1)
  | i1 + 1 =>
    (upd ((L_wg1 F M z0 z1 i1).1) (2 * i1) 0, upd ((L_wg1 F M z0 z1 i1).2) (2 * i1) 0)
noncomputable def L_wg2 (F : Nat → Int32) (M : Nat → Nat → Int32)  (z0 : (Nat → Int32)) (z1 : (Nat → Int32)) : Nat → (Nat → Int32) × (Nat → Int32)
  | 0 => (z0, z1)
  | i1 + 1 =>
    ((L_wn F M (nI i1) ((L_wg2 F M z0 z1 i1).1) ((L_wg2 F M z0 z1 i1).2) n32).1, (L_wn F M (nI i1) ((L_wg2 F M z0 z1 i1).1) ((L_wg2 F M z0 z1 i1).2) n32).2)
set_option maxHeartbeats 4000000 in
set_option maxRecDepth 100000 in
theorem c_X2_weigh (l : Launch) (dC : Nat → ClassId) (dI : Nat → Nat → Nat) (rl : List (Nat × Nat)) (ad : Nat × Nat → Nat) (cy : Nat → ClassId) (F : Nat → Int32) (M Y : Nat → Nat → Int32)  (hrl : ∀ r, r ∈ rl ↔ vd F r) (hI : iv F M) (hJ : jv F M) (A : Nat → Prop) (hD : va_D A (rx_W rl ad (eC ad cy F M Y))) : Met l yX2_weigh wsX2_weigh ({ frames := 3, cells := 0, slots := 0, locals := 73 } : Room) (va_Pc [.ref (ad (2, 0))] (pC dC dI rl ad cy (eC ad cy F M Y))) (va_Qv (fun (u : Nat → Nat → Int32) => u = va_up (va_up Y 0 (L_wg2 F M (L_wg1 F M (Y 0) (Y 1) n32).1 (L_wg1 F M (Y 0) (Y 1) n32).2 12).1) 1 (L_wg2 F M (L_wg1 F M (Y 0) (Y 1) n32).1 (L_wg1 F M (Y 0) (Y 1) n32).2 12).2) (qC A dC dI rl ad cy F M) A) 0 0 A := by
  refine Met.ofW (cc := cX2_weigh) (maxL := 2) (ret := none) (by decide) rfl ?_
  intro p e s m args below meth c s₁ B hml hv
  obtain ⟨rfl, hP, hK, hN⟩ := hv
  have hx := B.exec
  have hb := B.bytes
  have hr := B.returns
  have hts := atoms_spec (ws := wsX2_weigh) B.pre
  have hown : s.vm.findClass RX2 = some m.cls := findClass_of_methodNamed B.named
  have hlocks := B.notSynchronized
  have hin2 : ∀ w ∈ wsX20, w ∈ wsX2_weigh := by decide +kernel
  have hS : va_S A s.heap s.heap [] := va_S.rf
  have hl := lv_entry ([.ref (ad (2, 0))]) (n := 2) (Nat.le_of_ble_eq_true rfl)
  rw [lg_entry_eq]
  generalize (lg_sl ([.ref (ad (2, 0))]) ++ List.replicate (2 - (lg_sl ([.ref (ad (2, 0))])).length) Slot.unset).toArray = ls at hl ⊢
  have hl : lv_has ls 2 [(0, .ref (ad (2, 0)))] := hl
  have hn32 := n32_eq
  refine lv_iconst (v := 0) hx hb dX2_weigh_0 (by decide) ?_
  refine lv_istore_n (lv' := [(1, .int 0), (0, .ref (ad (2, 0)))]) hx hb dX2_weigh_1 rfl hl (by decide) rfl (fun ls hl => ?_)
  refine lp_forH (N := n32) (lv := fun i1 => [(1, .int (nI (2 * i1))), (0, .ref (ad (2, 0)))]) (wd := fun i1 => rx_W rl ad (eC ad cy F M (va_up (va_up Y 0 ((L_wg1 F M (Y 0) (Y 1) i1).1)) 1 ((L_wg1 F M (Y 0) (Y 1) i1).2)))) hP hD hS (lv_sub hl [0, 1] rfl) (fun i1 hi1 ls H locs hl hP hD hS kk1 => ?_) (fun ls H locs hl hP hD hS => ?_)
  · replace hl : lv_has ls 2 [(1, .int (nI (2 * i1))), (0, .ref (ad (2, 0)))] := hl
    replace hP : va_P (dC, dI) vwCl (rx_W rl ad (eC ad cy F M (va_up (va_up Y 0 ((L_wg1 F M (Y 0) (Y 1) i1).1)) 1 ((L_wg1 F M (Y 0) (Y 1) i1).2)))) H := hP
    replace hD : va_D A (rx_W rl ad (eC ad cy F M (va_up (va_up Y 0 ((L_wg1 F M (Y 0) (Y 1) i1).1)) 1 ((L_wg1 F M (Y 0) (Y 1) i1).2)))) := hD
    refine lv_iload_n hx hb dX2_weigh_2 rfl (lv_at hl 0 rfl) ?_
    refine lv_bipush (v := 62) hx hb dX2_weigh_3 (by decide) ?_
    refine lv_icmp_gt (tgt := 28) hx hb dX2_weigh_5 (by decide) (fun c => absurd c (lb_n62 hi1)) (fun _ => ?_)
    refine lv_aload_n hx hb dX2_weigh_8 rfl (lv_at hl 1 rfl) ?_
    refine rg_get (D := (dC, dI)) (r := (2, 0)) (ci := 2) (v := .ref (ad (20, 0))) (C := RX2) (T := TX2) (N := 3) hx hb hts hin2 hown hK hP ((hrl _).mpr (vd_2 (by decide))) en_2 rfl 1 (by decide) (hts (.fieldLink RX2 16 "SocietyBook$Holdings" "given" "[I") (by decide +kernel)) (fun _ h9 => h9) rfl dX2_weigh_9 ?_
    refine lv_iload_n hx hb dX2_weigh_12 rfl (lv_at hl 0 rfl) ?_
    refine lv_iconst (v := 0) hx hb dX2_weigh_13 (by decide) ?_
    refine rg_iast (r := (20, 0)) hx hb hK hP hD hS ((hrl _).mpr (vd_20 (by decide))) 0 en_20 rfl (nx_in (show nI (2 * i1) = nI ((2 * i1)) from by show nI (2 * i1) = _; simp only [nI_add, pk_mul]) (by omega) (by decide)) dX2_weigh_14 (fun H locs hP hD hS => ?_)
    rw [nx_cl (show nI (2 * i1) = nI ((2 * i1)) from by show nI (2 * i1) = _; simp only [nI_add, pk_mul]) (by omega)] at hP
    replace hP : va_P (dC, dI) vwCl (rx_W rl ad (eC ad cy F M (va_up (va_up Y 1 ((L_wg1 F M (Y 0) (Y 1) i1).2)) 0 (upd ((L_wg1 F M (Y 0) (Y 1) i1).1) (2 * i1) 0)))) H := ec_mp1 (vd_u20 hrl) (ec_20 ad cy F M (va_up (va_up Y 0 ((L_wg1 F M (Y 0) (Y 1) i1).1)) 1 ((L_wg1 F M (Y 0) (Y 1) i1).2)) (2 * i1) 0) hP
    replace hD : va_D A (rx_W rl ad (eC ad cy F M (va_up (va_up Y 1 ((L_wg1 F M (Y 0) (Y 1) i1).2)) 0 (upd ((L_wg1 F M (Y 0) (Y 1) i1).1) (2 * i1) 0)))) := rx_D hD
    refine lv_aload_n hx hb dX2_weigh_15 rfl (lv_at hl 1 rfl) ?_
    refine rg_get (D := (dC, dI)) (r := (2, 0)) (ci := 2) (v := .ref (ad (21, 0))) (C := RX2) (T := TX2) (N := 3) hx hb hts hin2 hown hK hP ((hrl _).mpr (vd_2 (by decide))) en_2 rfl 2 (by decide) (hts (.fieldLink RX2 20 "SocietyBook$Holdings" "taken" "[I") (by decide +kernel)) (fun _ h9 => h9) rfl dX2_weigh_16 ?_
    refine lv_iload_n hx hb dX2_weigh_19 rfl (lv_at hl 0 rfl) ?_
    refine lv_iconst (v := 0) hx hb dX2_weigh_20 (by decide) ?_
    refine rg_iast (r := (21, 0)) hx hb hK hP hD hS ((hrl _).mpr (vd_21 (by decide))) 0 en_21 rfl (nx_in (show nI (2 * i1) = nI ((2 * i1)) from by show nI (2 * i1) = _; simp only [nI_add, pk_mul]) (by omega) (by decide)) dX2_weigh_21 (fun H locs hP hD hS => ?_)
    rw [nx_cl (show nI (2 * i1) = nI ((2 * i1)) from by show nI (2 * i1) = _; simp only [nI_add, pk_mul]) (by omega)] at hP
    replace hP : va_P (dC, dI) vwCl (rx_W rl ad (eC ad cy F M (va_up (va_up Y 0 (upd ((L_wg1 F M (Y 0) (Y 1) i1).1) (2 * i1) 0)) 1 (upd ((L_wg1 F M (Y 0) (Y 1) i1).2) (2 * i1) 0)))) H := ec_mp1 (vd_u21 hrl) (ec_21 ad cy F M (va_up (va_up Y 1 ((L_wg1 F M (Y 0) (Y 1) i1).2)) 0 (upd ((L_wg1 F M (Y 0) (Y 1) i1).1) (2 * i1) 0)) (2 * i1) 0) hP
    replace hD : va_D A (rx_W rl ad (eC ad cy F M (va_up (va_up Y 0 (upd ((L_wg1 F M (Y 0) (Y 1) i1).1) (2 * i1) 0)) 1 (upd ((L_wg1 F M (Y 0) (Y 1) i1).2) (2 * i1) 0)))) := rx_D hD
    refine lv_iinc (v := nI (2 * (i1 + 1))) (lv' := [(1, .int (nI (2 * (i1 + 1)))), (0, .ref (ad (2, 0)))]) hx hb dX2_weigh_22 hl (k := 0) rfl (nI_add (2 * i1) 2) (by decide) rfl (fun ls hl => ?_)
    refine lv_goto (tgt := 2) hx hb dX2_weigh_25 (by decide) ?_
    have e9 : L_wg1 F M (Y 0) (Y 1) (i1 + 1) = (upd ((L_wg1 F M (Y 0) (Y 1) i1).1) (2 * i1) 0, upd ((L_wg1 F M (Y 0) (Y 1) i1).2) (2 * i1) 0) := by rw [L_wg1]
    refine kk1 ls H locs (show lv_has ls 2 [(1, .int (nI (2 * (i1 + 1)))), (0, .ref (ad (2, 0)))] from ?_) (show va_P (dC, dI) vwCl (rx_W rl ad (eC ad cy F M (va_up (va_up Y 0 ((L_wg1 F M (Y 0) (Y 1) (i1 + 1)).1)) 1 ((L_wg1 F M (Y 0) (Y 1) (i1 + 1)).2)))) H from ?_) (show va_D A (rx_W rl ad (eC ad cy F M (va_up (va_up Y 0 ((L_wg1 F M (Y 0) (Y 1) (i1 + 1)).1)) 1 ((L_wg1 F M (Y 0) (Y 1) (i1 + 1)).2)))) from ?_) hS
    · exact lv_sub hl [0, 1] rfl
    · rw [e9]; exact hP
    · rw [e9]; exact hD
  · replace hl : lv_has ls 2 [(1, .int (nI (2 * n32))), (0, .ref (ad (2, 0)))] := hl
    replace hP : va_P (dC, dI) vwCl (rx_W rl ad (eC ad cy F M (va_up (va_up Y 0 ((L_wg1 F M (Y 0) (Y 1) n32).1)) 1 ((L_wg1 F M (Y 0) (Y 1) n32).2)))) H := hP
    replace hD : va_D A (rx_W rl ad (eC ad cy F M (va_up (va_up Y 0 ((L_wg1 F M (Y 0) (Y 1) n32).1)) 1 ((L_wg1 F M (Y 0) (Y 1) n32).2)))) := hD
    refine lv_iload_n hx hb dX2_weigh_2 rfl (lv_at hl 0 rfl) ?_
    refine lv_bipush (v := 62) hx hb dX2_weigh_3 (by decide) ?_
    refine lv_icmp_gt (tgt := 28) hx hb dX2_weigh_5 (by decide) (fun _ => ?_) (fun c => absurd lb_y62 c)
    refine lv_iconst (v := 0) hx hb dX2_weigh_28 (by decide) ?_
    refine lv_istore_n (lv' := [(1, .int 0), (0, .ref (ad (2, 0)))]) hx hb dX2_weigh_29 rfl hl (by decide) rfl (fun ls hl => ?_)
    refine lp_forH (N := 12) (lv := fun i1 => [(1, .int (nI i1)), (0, .ref (ad (2, 0)))]) (wd := fun i1 => rx_W rl ad (eC ad cy F M (va_up (va_up Y 0 ((L_wg2 F M ((L_wg1 F M (Y 0) (Y 1) n32).1) ((L_wg1 F M (Y 0) (Y 1) n32).2) i1).1)) 1 ((L_wg2 F M ((L_wg1 F M (Y 0) (Y 1) n32).1) ((L_wg1 F M (Y 0) (Y 1) n32).2) i1).2)))) hP hD hS (lv_sub hl [0, 1] rfl) (fun i1 hi1 ls H locs hl hP hD hS kk1 => ?_) (fun ls H locs hl hP hD hS => ?_)
    · replace hl : lv_has ls 2 [(1, .int (nI i1)), (0, .ref (ad (2, 0)))] := hl
      replace hP : va_P (dC, dI) vwCl (rx_W rl ad (eC ad cy F M (va_up (va_up Y 0 ((L_wg2 F M ((L_wg1 F M (Y 0) (Y 1) n32).1) ((L_wg1 F M (Y 0) (Y 1) n32).2) i1).1)) 1 ((L_wg2 F M ((L_wg1 F M (Y 0) (Y 1) n32).1) ((L_wg1 F M (Y 0) (Y 1) n32).2) i1).2)))) H := hP
      replace hD : va_D A (rx_W rl ad (eC ad cy F M (va_up (va_up Y 0 ((L_wg2 F M ((L_wg1 F M (Y 0) (Y 1) n32).1) ((L_wg1 F M (Y 0) (Y 1) n32).2) i1).1)) 1 ((L_wg2 F M ((L_wg1 F M (Y 0) (Y 1) n32).1) ((L_wg1 F M (Y 0) (Y 1) n32).2) i1).2)))) := hD
      refine lv_iload_n hx hb dX2_weigh_30 rfl (lv_at hl 0 rfl) ?_
      refine lv_bipush (v := 12) hx hb dX2_weigh_31 (by decide) ?_
      refine lv_icmp_ge (tgt := 47) hx hb dX2_weigh_33 (by decide) (fun c => absurd c (lb_n (by decide) hi1)) (fun _ => ?_)
      refine lv_aload_n hx hb dX2_weigh_36 rfl (lv_at hl 1 rfl) ?_
      refine lv_iload_n hx hb dX2_weigh_37 rfl (lv_at hl 0 rfl) ?_
      refine va_callv (va_runV (As := [.int (nI i1)]) (rest := []) ⟨hx, hb, hml, hown, hts⟩ (c_X2_weighNumber l dC dI rl ad cy F M (va_up (va_up Y 0 ((L_wg2 F M ((L_wg1 F M (Y 0) (Y 1) n32).1) ((L_wg1 F M (Y 0) (Y 1) n32).2) i1).1)) 1 ((L_wg2 F M ((L_wg1 F M (Y 0) (Y 1) n32).1) ((L_wg1 F M (Y 0) (Y 1) n32).2) i1).2))  (nI i1) hrl hI hJ A hD (vp_in_nI (show i1 < 12 by omega) (by decide))) (cwV 1 hts gX2_weigh_X2_weighNumber rfl rfl rfl (by decide +kernel) ⟨Nat.le_of_ble_eq_true rfl, Nat.le_of_ble_eq_true rfl⟩) ⟨pc_blind, rg_recv hK hP ((hrl _).mpr (vd_2 (by decide))) (ci := 2) rfl en_2, fun U hU hW => ⟨rfl, by rw [hU]; exact hP, va_K.moved hW.alike hK, nst_w hW hN⟩⟩ rfl rfl hl.1 rfl (lv_room (Nat.le_of_ble_eq_true rfl)) dX2_weigh_38 ⟨Nat.zero_le _, Nat.zero_le _⟩) hS (fun q _ h => h) (fun q h => h) (fun u t H1 locs ht hvm hw hB hz1 hk1 hS => ?_)
      subst hw
      obtain ⟨⟨hP, -, -⟩, hD⟩ := hB
      rw [ht] at hP
      clear hz1 hk1 ht hvm; generalize H1 = H at hP hS ⊢
      replace hP : va_P (dC, dI) vwCl (rx_W rl ad (eC ad cy F M (va_up (va_up Y 0 ((L_wn F M (nI i1) ((L_wg2 F M ((L_wg1 F M (Y 0) (Y 1) n32).1) ((L_wg1 F M (Y 0) (Y 1) n32).2) i1).1) ((L_wg2 F M ((L_wg1 F M (Y 0) (Y 1) n32).1) ((L_wg1 F M (Y 0) (Y 1) n32).2) i1).2) n32).1)) 1 ((L_wn F M (nI i1) ((L_wg2 F M ((L_wg1 F M (Y 0) (Y 1) n32).1) ((L_wg1 F M (Y 0) (Y 1) n32).2) i1).1) ((L_wg2 F M ((L_wg1 F M (Y 0) (Y 1) n32).1) ((L_wg1 F M (Y 0) (Y 1) n32).2) i1).2) n32).2)))) H := hP
      replace hD : va_D A (rx_W rl ad (eC ad cy F M (va_up (va_up Y 0 ((L_wn F M (nI i1) ((L_wg2 F M ((L_wg1 F M (Y 0) (Y 1) n32).1) ((L_wg1 F M (Y 0) (Y 1) n32).2) i1).1) ((L_wg2 F M ((L_wg1 F M (Y 0) (Y 1) n32).1) ((L_wg1 F M (Y 0) (Y 1) n32).2) i1).2) n32).1)) 1 ((L_wn F M (nI i1) ((L_wg2 F M ((L_wg1 F M (Y 0) (Y 1) n32).1) ((L_wg1 F M (Y 0) (Y 1) n32).2) i1).1) ((L_wg2 F M ((L_wg1 F M (Y 0) (Y 1) n32).1) ((L_wg1 F M (Y 0) (Y 1) n32).2) i1).2) n32).2)))) := hD
      refine lv_iinc (v := nI (i1 + 1)) (lv' := [(1, .int (nI (i1 + 1))), (0, .ref (ad (2, 0)))]) hx hb dX2_weigh_41 hl (k := 0) rfl (nI_1 i1) (by decide) rfl (fun ls hl => ?_)
      refine lv_goto (tgt := 30) hx hb dX2_weigh_44 (by decide) ?_
      have e9 : L_wg2 F M ((L_wg1 F M (Y 0) (Y 1) n32).1) ((L_wg1 F M (Y 0) (Y 1) n32).2) (i1 + 1) = ((L_wn F M (nI i1) ((L_wg2 F M ((L_wg1 F M (Y 0) (Y 1) n32).1) ((L_wg1 F M (Y 0) (Y 1) n32).2) i1).1) ((L_wg2 F M ((L_wg1 F M (Y 0) (Y 1) n32).1) ((L_wg1 F M (Y 0) (Y 1) n32).2) i1).2) n32).1, (L_wn F M (nI i1) ((L_wg2 F M ((L_wg1 F M (Y 0) (Y 1) n32).1) ((L_wg1 F M (Y 0) (Y 1) n32).2) i1).1) ((L_wg2 F M ((L_wg1 F M (Y 0) (Y 1) n32).1) ((L_wg1 F M (Y 0) (Y 1) n32).2) i1).2) n32).2) := by rw [L_wg2]
      refine kk1 ls H locs (show lv_has ls 2 [(1, .int (nI (i1 + 1))), (0, .ref (ad (2, 0)))] from ?_) (show va_P (dC, dI) vwCl (rx_W rl ad (eC ad cy F M (va_up (va_up Y 0 ((L_wg2 F M ((L_wg1 F M (Y 0) (Y 1) n32).1) ((L_wg1 F M (Y 0) (Y 1) n32).2) (i1 + 1)).1)) 1 ((L_wg2 F M ((L_wg1 F M (Y 0) (Y 1) n32).1) ((L_wg1 F M (Y 0) (Y 1) n32).2) (i1 + 1)).2)))) H from ?_) (show va_D A (rx_W rl ad (eC ad cy F M (va_up (va_up Y 0 ((L_wg2 F M ((L_wg1 F M (Y 0) (Y 1) n32).1) ((L_wg1 F M (Y 0) (Y 1) n32).2) (i1 + 1)).1)) 1 ((L_wg2 F M ((L_wg1 F M (Y 0) (Y 1) n32).1) ((L_wg1 F M (Y 0) (Y 1) n32).2) (i1 + 1)).2)))) from ?_) hS
      · exact lv_sub hl [0, 1] rfl
      · rw [e9]; exact hP
      · rw [e9]; exact hD
    · replace hl : lv_has ls 2 [(1, .int (nI 12)), (0, .ref (ad (2, 0)))] := hl
      replace hP : va_P (dC, dI) vwCl (rx_W rl ad (eC ad cy F M (va_up (va_up Y 0 ((L_wg2 F M ((L_wg1 F M (Y 0) (Y 1) n32).1) ((L_wg1 F M (Y 0) (Y 1) n32).2) 12).1)) 1 ((L_wg2 F M ((L_wg1 F M (Y 0) (Y 1) n32).1) ((L_wg1 F M (Y 0) (Y 1) n32).2) 12).2)))) H := hP
      replace hD : va_D A (rx_W rl ad (eC ad cy F M (va_up (va_up Y 0 ((L_wg2 F M ((L_wg1 F M (Y 0) (Y 1) n32).1) ((L_wg1 F M (Y 0) (Y 1) n32).2) 12).1)) 1 ((L_wg2 F M ((L_wg1 F M (Y 0) (Y 1) n32).1) ((L_wg1 F M (Y 0) (Y 1) n32).2) 12).2)))) := hD
      refine lv_iload_n hx hb dX2_weigh_30 rfl (lv_at hl 0 rfl) ?_
      refine lv_bipush (v := 12) hx hb dX2_weigh_31 (by decide) ?_
      refine lv_icmp_ge (tgt := 47) hx hb dX2_weigh_33 (by decide) (fun _ => ?_) (fun c => absurd (lb_y (by decide)) c)
      exact W.vret hx hb hr (fun t ht hW => ⟨⟨va_up (va_up Y 0 ((L_wg2 F M ((L_wg1 F M (Y 0) (Y 1) n32).1) ((L_wg1 F M (Y 0) (Y 1) n32).2) 12).1)) 1 ((L_wg2 F M ((L_wg1 F M (Y 0) (Y 1) n32).1) ((L_wg1 F M (Y 0) (Y 1) n32).2) 12).2), rfl, rfl, ⟨⟨by rw [ht]; exact hP, va_K.moved hW.alike hK, nst_w hW hN⟩, hD⟩⟩, hS.F ht⟩) hS.2.2 dX2_weigh_47

noncomputable def wgY (F : Nat → Int32) (M Y : Nat → Nat → Int32) : Nat → Nat → Int32 := va_up (va_up Y 0 (L_wg2 F M (L_wg1 F M (Y 0) (Y 1) n32).1 (L_wg1 F M (Y 0) (Y 1) n32).2 12).1) 1 (L_wg2 F M (L_wg1 F M (Y 0) (Y 1) n32).1 (L_wg1 F M (Y 0) (Y 1) n32).2 12).2

def L_cm (F : Nat → Int32) (M : Nat → Nat → Int32) (Y : Nat → Nat → Int32) (p0 : Int32) : Nat → Int32
  | 0 => 12
  | i1 + 1 =>
    if ((nI (2 * i1)) &&& (p0 ^^^ (-1))) = 0 then if (((Y 1) (2 * i1)) + ((Y 0) ((p0 &&& ((nI (2 * i1)) ^^^ (-1))).toNatClampNeg))) < (L_cm F M Y p0 i1) then (((Y 1) (2 * i1)) + ((Y 0) ((p0 &&& ((nI (2 * i1)) ^^^ (-1))).toNatClampNeg))) else (L_cm F M Y p0 i1) else
    (L_cm F M Y p0 i1)
set_option maxHeartbeats 4000000 in
set_option maxRecDepth 100000 in
theorem c_X2_mostSwaps (l : Launch) (dC : Nat → ClassId) (dI : Nat → Nat → Nat) (rl : List (Nat × Nat)) (ad : Nat × Nat → Nat) (cy : Nat → ClassId) (F : Nat → Int32) (M Y : Nat → Nat → Int32) (p0 : Int32) (hrl : ∀ r, r ∈ rl ↔ vd F r) (hI : iv F M) (hJ : jv F M) (hp : ∃ k, k < 32 ∧ p0 = nI (2 * k)) : Met l yX2_mostSwaps wsX2_mostSwaps ({ frames := 1, cells := 0, slots := 0, locals := 13 } : Room) (va_Pc [.ref (ad (2, 0)), .int p0] (pC dC dI rl ad cy (eC ad cy F M Y))) (vp_Si (fun r => r = L_cm F M Y p0 n32)) 0 0 (fun _ => False) := by
  refine Met.ofW (cc := cX2_mostSwaps) (maxL := 4) (ret := (some .int)) (by decide) rfl ?_
  intro p e s m args below meth c s₁ B hml hv
  obtain ⟨rfl, hP, hK, hN⟩ := hv
  have hx := B.exec
  have hb := B.bytes
  have hr := B.returns
  have hts := atoms_spec (ws := wsX2_mostSwaps) B.pre
  have hown : s.vm.findClass RX2 = some m.cls := findClass_of_methodNamed B.named
  have hlocks := B.notSynchronized
  have hin2 : ∀ w ∈ wsX20, w ∈ wsX2_mostSwaps := by decide +kernel
  have hl := lv_entry ([.ref (ad (2, 0)), .int p0]) (n := 4) (Nat.le_of_ble_eq_true rfl)
  rw [lg_entry_eq]
  generalize (lg_sl ([.ref (ad (2, 0)), .int p0]) ++ List.replicate (4 - (lg_sl ([.ref (ad (2, 0)), .int p0])).length) Slot.unset).toArray = ls at hl ⊢
  have hl : lv_has ls 4 [(0, .ref (ad (2, 0))), (1, .int p0)] := hl
  have hn32 := n32_eq
  refine lv_bipush (v := 12) hx hb dX2_mostSwaps_0 (by decide) ?_
  refine lv_istore_n (lv' := [(2, .int 12), (0, .ref (ad (2, 0))), (1, .int p0)]) hx hb dX2_mostSwaps_2 rfl hl (by decide) rfl (fun ls hl => ?_)
  refine lv_iconst (v := 0) hx hb dX2_mostSwaps_3 (by decide) ?_
  refine lv_istore_n (lv' := [(3, .int 0), (2, .int 12), (0, .ref (ad (2, 0))), (1, .int p0)]) hx hb dX2_mostSwaps_4 rfl hl (by decide) rfl (fun ls hl => ?_)
  refine lp_for (N := n32) (lv := fun i1 => [(3, .int (nI (2 * i1))), (2, .int (L_cm F M Y p0 i1)), (0, .ref (ad (2, 0))), (1, .int p0)]) (lv_sub hl [0, 1, 2, 3] rfl) (fun i1 hi1 ls hl kk1 => ?_) (fun ls hl => ?_)
  · replace hl : lv_has ls 4 [(3, .int (nI (2 * i1))), (2, .int (L_cm F M Y p0 i1)), (0, .ref (ad (2, 0))), (1, .int p0)] := hl
    refine lv_iload_n hx hb dX2_mostSwaps_5 rfl (lv_at hl 0 rfl) ?_
    refine lv_bipush (v := 62) hx hb dX2_mostSwaps_6 (by decide) ?_
    refine lv_icmp_gt (tgt := 47) hx hb dX2_mostSwaps_8 (by decide) (fun c => absurd c (lb_n62 hi1)) (fun _ => ?_)
    refine lv_iload_n hx hb dX2_mostSwaps_11 rfl (lv_at hl 0 rfl) ?_
    refine lv_iload_n hx hb dX2_mostSwaps_12 rfl (lv_at hl 3 rfl) ?_
    refine lv_iconst (v := (-1)) hx hb dX2_mostSwaps_13 (by decide) ?_
    refine lv_ixor hx hb dX2_mostSwaps_14 ?_
    refine lv_iand hx hb dX2_mostSwaps_15 ?_
    refine lv_if_ne (tgt := 41) hx hb dX2_mostSwaps_16 (by decide) (fun c1 => ?_) (fun c1 => ?_)
    · refine lv_iinc (v := nI (2 * (i1 + 1))) (lv' := [(3, .int (nI (2 * (i1 + 1)))), (2, .int (L_cm F M Y p0 i1)), (0, .ref (ad (2, 0))), (1, .int p0)]) hx hb dX2_mostSwaps_41 hl (k := 0) rfl (nI_add (2 * i1) 2) (by decide) rfl (fun ls hl => ?_)
      refine lv_goto (tgt := 5) hx hb dX2_mostSwaps_44 (by decide) ?_
      have e9 : L_cm F M Y p0 (i1 + 1) = (L_cm F M Y p0 i1) := by rw [L_cm]; rw [if_neg c1]
      refine kk1 ls (show lv_has ls 4 [(3, .int (nI (2 * (i1 + 1)))), (2, .int (L_cm F M Y p0 (i1 + 1))), (0, .ref (ad (2, 0))), (1, .int p0)] from ?_)
      rw [e9]; exact lv_sub hl [0, 1, 2, 3] rfl
    · refine lv_iload_n hx hb dX2_mostSwaps_19 rfl (lv_at hl 1 rfl) ?_
      refine lv_aload_n hx hb dX2_mostSwaps_20 rfl (lv_at hl 2 rfl) ?_
      refine rg_get (D := (dC, dI)) (r := (2, 0)) (ci := 2) (v := .ref (ad (21, 0))) (C := RX2) (T := TX2) (N := 3) hx hb hts hin2 hown hK hP ((hrl _).mpr (vd_2 (by decide))) en_2 rfl 2 (by decide) (hts (.fieldLink RX2 20 "SocietyBook$Holdings" "taken" "[I") (by decide +kernel)) (fun _ h9 => h9) rfl dX2_mostSwaps_21 ?_
      refine lv_iload_n hx hb dX2_mostSwaps_24 rfl (lv_at hl 0 rfl) ?_
      refine rg_iald (r := (21, 0)) (v := (Y 1) (2 * i1)) hx hb hK hP ((hrl _).mpr (vd_21 (by decide))) 0 en_21 rfl (nx_in (show nI (2 * i1) = nI ((2 * i1)) from by show nI (2 * i1) = _; simp only [nI_add, pk_mul]) (by omega) (by decide)) (by rw [nx_cl (show nI (2 * i1) = nI ((2 * i1)) from by show nI (2 * i1) = _; simp only [nI_add, pk_mul]) (by omega)]; (first | done | rfl)) dX2_mostSwaps_25 ?_
      refine lv_aload_n hx hb dX2_mostSwaps_26 rfl (lv_at hl 2 rfl) ?_
      refine rg_get (D := (dC, dI)) (r := (2, 0)) (ci := 2) (v := .ref (ad (20, 0))) (C := RX2) (T := TX2) (N := 3) hx hb hts hin2 hown hK hP ((hrl _).mpr (vd_2 (by decide))) en_2 rfl 1 (by decide) (hts (.fieldLink RX2 16 "SocietyBook$Holdings" "given" "[I") (by decide +kernel)) (fun _ h9 => h9) rfl dX2_mostSwaps_27 ?_
      refine lv_iload_n hx hb dX2_mostSwaps_30 rfl (lv_at hl 3 rfl) ?_
      refine lv_iload_n hx hb dX2_mostSwaps_31 rfl (lv_at hl 0 rfl) ?_
      refine lv_iconst (v := (-1)) hx hb dX2_mostSwaps_32 (by decide) ?_
      refine lv_ixor hx hb dX2_mostSwaps_33 ?_
      refine lv_iand hx hb dX2_mostSwaps_34 ?_
      refine rg_iald (r := (20, 0)) (v := (Y 0) ((p0 &&& ((nI (2 * i1)) ^^^ (-1))).toNatClampNeg)) hx hb hK hP ((hrl _).mpr (vd_20 (by decide))) 0 en_20 rfl (ap_in hp) rfl dX2_mostSwaps_35 ?_
      refine lv_iadd hx hb dX2_mostSwaps_36 ?_
      refine va_mmin hx hb (hml.trans hl.1.symm) hown (hts (.methodLink RX2 33 Lib.Math.min.name) (by decide +kernel)) (hts (.static Lib.Math.min.name) (by decide +kernel)) (hts (.initialized "java/lang/Math") (by decide +kernel)) (hts (.code Lib.Math.min.name Lib.Math.min.code 2 (some .int)) (by decide +kernel)) (Nat.le_of_ble_eq_true rfl) (Nat.le_of_ble_eq_true rfl) (Nat.zero_le _) (Nat.zero_le _) dX2_mostSwaps_37 ?_
      refine lv_istore_n (lv' := [(2, .int (if (((Y 1) (2 * i1)) + ((Y 0) ((p0 &&& ((nI (2 * i1)) ^^^ (-1))).toNatClampNeg))) < (L_cm F M Y p0 i1) then (((Y 1) (2 * i1)) + ((Y 0) ((p0 &&& ((nI (2 * i1)) ^^^ (-1))).toNatClampNeg))) else (L_cm F M Y p0 i1))), (3, .int (nI (2 * i1))), (0, .ref (ad (2, 0))), (1, .int p0)]) hx hb dX2_mostSwaps_40 rfl hl (by decide) rfl (fun ls hl => ?_)
      refine lv_iinc (v := nI (2 * (i1 + 1))) (lv' := [(3, .int (nI (2 * (i1 + 1)))), (2, .int (if (((Y 1) (2 * i1)) + ((Y 0) ((p0 &&& ((nI (2 * i1)) ^^^ (-1))).toNatClampNeg))) < (L_cm F M Y p0 i1) then (((Y 1) (2 * i1)) + ((Y 0) ((p0 &&& ((nI (2 * i1)) ^^^ (-1))).toNatClampNeg))) else (L_cm F M Y p0 i1))), (0, .ref (ad (2, 0))), (1, .int p0)]) hx hb dX2_mostSwaps_41 hl (k := 1) rfl (nI_add (2 * i1) 2) (by decide) rfl (fun ls hl => ?_)
      refine lv_goto (tgt := 5) hx hb dX2_mostSwaps_44 (by decide) ?_
      have e9 : L_cm F M Y p0 (i1 + 1) = if (((Y 1) (2 * i1)) + ((Y 0) ((p0 &&& ((nI (2 * i1)) ^^^ (-1))).toNatClampNeg))) < (L_cm F M Y p0 i1) then (((Y 1) (2 * i1)) + ((Y 0) ((p0 &&& ((nI (2 * i1)) ^^^ (-1))).toNatClampNeg))) else (L_cm F M Y p0 i1) := by rw [L_cm]; rw [if_pos c1]
      refine kk1 ls (show lv_has ls 4 [(3, .int (nI (2 * (i1 + 1)))), (2, .int (L_cm F M Y p0 (i1 + 1))), (0, .ref (ad (2, 0))), (1, .int p0)] from ?_)
      rw [e9]; exact lv_sub hl [0, 1, 2, 3] rfl
  · replace hl : lv_has ls 4 [(3, .int (nI (2 * n32))), (2, .int (L_cm F M Y p0 n32)), (0, .ref (ad (2, 0))), (1, .int p0)] := hl
    refine lv_iload_n hx hb dX2_mostSwaps_5 rfl (lv_at hl 0 rfl) ?_
    refine lv_bipush (v := 62) hx hb dX2_mostSwaps_6 (by decide) ?_
    refine lv_icmp_gt (tgt := 47) hx hb dX2_mostSwaps_8 (by decide) (fun _ => ?_) (fun c => absurd lb_y62 c)
    refine lv_iload_n hx hb dX2_mostSwaps_47 rfl (lv_at hl 1 rfl) ?_
    exact W.iret (v := (L_cm F M Y p0 n32)) hx hb hr (fun t ht hW => ⟨(L_cm F M Y p0 n32), rfl, by rfl, ht⟩) (fun _ h => by cases h) dX2_mostSwaps_48
