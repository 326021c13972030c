
theorem md_eq {F : Nat → Int32} {M : Nat → Nat → Int32} {p0 p1 : Int32} (h0 : 0 ≤ p0) (h1 : 0 ≤ p1) : ∀ n, ct_A (M 39) (M 40) p0.toNatClampNeg p1.toNatClampNeg n = L_medals F M p0 p1 n := by
  intro n
  induction n with
  | zero => rfl
  | succ n ih =>
    rw [ct_A, L_medals, nI_bk h0, nI_bk h1, ih, Int32.add_zero]
    by_cases c1 : M 39 n = p0
    · by_cases c2 : M 40 n = p1
      · rw [if_pos ⟨c1, c2⟩, if_pos c1, if_pos c2]
      · rw [if_neg (fun q => c2 q.2), if_pos c1, if_neg c2]
    · rw [if_neg (fun q => c1 q.1), if_neg c1]
theorem cl12 {x y : Int32} {S : Nat} (h1 : vp_in x S) (h2 : vp_in y 12) (hN : S < 1000) : (12 * x + y).toNatClampNeg = 12 * x.toNatClampNeg + y.toNatClampNeg := by
  have a1 := vp_in_iff.mp h1
  have a2 := vp_in_iff.mp h2
  have b1 := (ib_cl h1).1
  have b2 := (ib_cl h2).1
  have e12 : (12 : Int32).toInt = 12 := by decide
  have e1 : (12 * x).toInt = 12 * x.toInt := by rw [ib_mul (by rw [e12]; omega) (by rw [e12]; omega), e12]
  have e2 : (12 * x + y).toInt = 12 * x.toInt + y.toInt := by rw [ib_add (by rw [e1]; omega) (by rw [e1]; omega), e1]
  have e3 : (12 * x + y).toNatClampNeg = (12 * x + y).toInt.toNat := rfl
  rw [e3, e2]
  omega
theorem bl_F (F : Nat → Int32) : va_up (va_up F 4 (F 4 + 1)) 2 (F 4 + 1 - 1) = va_up (va_up F 2 (F 4)) 4 (F 4 + 1) := by
  funext k
  unfold va_up
  by_cases h2 : k = 2
  · subst h2; simp
  · by_cases h4 : k = 4
    · subst h4; simp
    · simp [h2, h4]

set_option maxHeartbeats 4000000 in
set_option maxRecDepth 100000 in
theorem c_X10_medals (l : Launch) (dC : Nat → ClassId) (dI : Nat → Nat → Nat) (rl : List (Nat × Nat)) (ad : Nat × Nat → Nat) (cy : Nat → ClassId) (F : Nat → Int32) (M Y : Nat → Nat → Int32) (p0 : Int32) (p1 : Int32) (hrl : ∀ r, r ∈ rl ↔ vd F r) (hI : iv F M) (hJ : jv F M) : Met l yX10_medals wsX10_medals ({ frames := 2, cells := 0, slots := 0, locals := 43 } : Room) (va_Pc [.ref (ad (9, 0)), .int p0, .int p1] (pC dC dI rl ad cy (eC ad cy F M Y))) (vp_Si (fun r => r = (s_X11_medals F M p0 p1))) 0 0 (fun _ => False) := by
  refine Met.ofW (cc := cX10_medals) (maxL := 3) (ret := (some .int)) (by decide) rfl ?_
  intro p e s m args below meth c s₁ B hml hv
  obtain ⟨rfl, hP, hK, hN⟩ := hv
  have hx := B.exec
  have hb := B.bytes
  have hr := B.returns
  have hts := atoms_spec (ws := wsX10_medals) B.pre
  have hown : s.vm.findClass RX10 = some m.cls := findClass_of_methodNamed B.named
  have hlocks := B.notSynchronized
  have hin10 : ∀ w ∈ wsX100, w ∈ wsX10_medals := by decide +kernel
  have hin3 : ∀ w ∈ wsX30, w ∈ wsX10_medals := by decide +kernel
  have hl := lv_entry ([.ref (ad (9, 0)), .int p0, .int p1]) (n := 3) (Nat.le_of_ble_eq_true rfl)
  rw [lg_entry_eq]
  generalize (lg_sl ([.ref (ad (9, 0)), .int p0, .int p1]) ++ List.replicate (3 - (lg_sl ([.ref (ad (9, 0)), .int p0, .int p1])).length) Slot.unset).toArray = ls at hl ⊢
  have hl : lv_has ls 3 [(0, .ref (ad (9, 0))), (1, .int p0), (2, .int p1)] := hl
  refine lv_iload_n hx hb dX10_medals_0 rfl (lv_at hl 1 rfl) ?_
  refine lv_iconst (v := 0) hx hb dX10_medals_1 (by decide) ?_
  refine lv_iconst (v := 3) hx hb dX10_medals_2 (by decide) ?_
  refine vp_callSi (W.runS (As := [.int p0, .int 0, .int 3]) (rest := []) ⟨hx, hb, hml, hown, hts⟩ (c_X10_isWithin l p0 0 3) (va_cwS 3 hts gX10_medals_X10_isWithin rfl rfl rfl (by decide +kernel) ⟨Nat.le_of_ble_eq_true rfl, Nat.le_of_ble_eq_true rfl⟩) ⟨fun _ _ _ _ q => q, fun U hU hW => ⟨rfl, trivial⟩⟩ rfl rfl hl.1 rfl (lv_room (Nat.le_of_ble_eq_true rfl)) dX10_medals_3 ⟨Nat.zero_le _, Nat.zero_le _⟩) (fun r hr9 => ?_)
  subst hr9
  refine lv_if_eq (tgt := 17) hx hb dX10_medals_6 (by decide) (fun c1 => ?_) (fun c1 => ?_)
  · replace c1 := bo_f c1
    refine lv_iconst (v := (-1)) hx hb dX10_medals_17 (by decide) ?_
    exact W.iret (v := (-1)) hx hb hr (fun t ht hW => ⟨(-1), rfl, by unfold s_X11_medals; rw [if_neg c1], ht⟩) (fun _ h => by cases h) dX10_medals_18
  · replace c1 := bo_t c1
    refine lv_aload_n hx hb dX10_medals_9 rfl (lv_at hl 0 rfl) ?_
    refine lv_iload_n hx hb dX10_medals_10 rfl (lv_at hl 2 rfl) ?_
    refine vp_callSi (W.runV (As := [.int p1]) (rest := []) ⟨hx, hb, hml, hown, hts⟩ (c_X10_isFellow l dC dI rl ad cy F M Y  p1 hrl hI hJ ) (cwV 1 hts gX10_medals_X10_isFellow rfl rfl rfl (by decide +kernel) ⟨Nat.le_of_ble_eq_true rfl, Nat.le_of_ble_eq_true rfl⟩) ⟨pc_blind, rg_recv hK hP ((hrl _).mpr (vd_9 (by decide))) (ci := 9) rfl en_9, fun U hU hW => ⟨rfl, by rw [hU]; exact hP, va_K.moved hW.alike hK, nst_w hW hN⟩⟩ rfl rfl hl.1 rfl (lv_room (Nat.le_of_ble_eq_true rfl)) dX10_medals_11 ⟨Nat.zero_le _, Nat.zero_le _⟩) (fun r hr9 => ?_)
    subst hr9
    refine lv_if_ne (tgt := 19) hx hb dX10_medals_14 (by decide) (fun c2 => ?_) (fun c2 => ?_)
    · replace c2 := bo_t c2
      refine lv_aload_n hx hb dX10_medals_19 rfl (lv_at hl 0 rfl) ?_
      refine rg_get (D := (dC, dI)) (r := (9, 0)) (ci := 9) (v := .ref (ad (16, 0))) (C := RX10) (T := TX10) (N := 19) hx hb hts hin10 hown hK hP ((hrl _).mpr (vd_9 (by decide))) en_9 rfl 12 (by decide) (hts (.fieldLink RX10 41 "SocietyBook" "medalRow" "[LSocietyBook$Medal;") (by decide +kernel)) (fun _ h9 => h9) rfl dX10_medals_20 ?_
      refine lv_iload_n hx hb dX10_medals_23 rfl (lv_at hl 1 rfl) ?_
      refine rg_aldq (r := (16, 0)) (v := .ref (ad (3, p0.toNatClampNeg))) hx hb hK hP ((hrl _).mpr (vd_16 (by decide))) 8 en_16 rfl (ib_in c1 (by decide)) rfl dX10_medals_24 ?_
      refine rg_get (D := (dC, dI)) (r := (3, p0.toNatClampNeg)) (ci := 3) (v := .ref (ad (22, p0.toNatClampNeg))) (C := RX3) (T := TX3) (N := 4) hx hb hts hin3 hown hK hP ((hrl _).mpr (vd_3 (ib_cl (ib_in c1 (by decide))).2)) en_3 rfl 2 (by decide) (hts (.fieldLink RX10 221 "SocietyBook$Medal" "times" "[I") (by decide +kernel)) (fun _ h9 => h9) rfl dX10_medals_25 ?_
      refine lv_iload_n hx hb dX10_medals_28 rfl (lv_at hl 2 rfl) ?_
      refine rg_iald (r := (22, p0.toNatClampNeg)) (v := ct_A (M 39) (M 40) p0.toNatClampNeg p1.toNatClampNeg (F 38).toNatClampNeg) hx hb hK hP ((hrl _).mpr (vd_22 (ib_cl (ib_in c1 (by decide))).2)) 0 en_22 rfl (ib_cn c2 (iv_4 hI) (by decide)) (by exact if_pos (ib_cl (ib_cn c2 (iv_4 hI) (by decide))).2) dX10_medals_29 ?_
      exact W.iret (v := ct_A (M 39) (M 40) p0.toNatClampNeg p1.toNatClampNeg (F 38).toNatClampNeg) hx hb hr (fun t ht hW => ⟨ct_A (M 39) (M 40) p0.toNatClampNeg p1.toNatClampNeg (F 38).toNatClampNeg, rfl, by unfold s_X11_medals; rw [if_pos c1]; rw [if_pos c2]; exact md_eq c1.1 c2.1 _, ht⟩) (fun _ h => by cases h) dX10_medals_30
    · replace c2 := bo_f c2
      refine lv_iconst (v := (-1)) hx hb dX10_medals_17 (by decide) ?_
      exact W.iret (v := (-1)) hx hb hr (fun t ht hW => ⟨(-1), rfl, by unfold s_X11_medals; rw [if_pos c1]; rw [if_neg c2], ht⟩) (fun _ h => by cases h) dX10_medals_18

set_option maxHeartbeats 4000000 in
set_option maxRecDepth 100000 in
theorem c_X10_stock (l : Launch) (dC : Nat → ClassId) (dI : Nat → Nat → Nat) (rl : List (Nat × Nat)) (ad : Nat × Nat → Nat) (cy : Nat → ClassId) (F : Nat → Int32) (M Y : Nat → Nat → Int32) (p0 : Int32) (p1 : Int32) (p2 : Int32) (hrl : ∀ r, r ∈ rl ↔ vd F r) (hI : iv F M) (hJ : jv F M) (A : Nat → Prop) (hD : va_D A (rx_W rl ad (eC ad cy F M Y))) : Met l yX10_stock wsX10_stock ({ frames := 2, cells := 0, slots := 0, locals := 43 } : Room) (va_Pc [.ref (ad (9, 0)), .int p0, .int p1, .int p2] (pC dC dI rl ad cy (eC ad cy F M Y))) (va_Qi (fun r (_ : Nat → Nat → Int32) => r = (s_X11_stock F M p0 p1 p2).1) (qC A dC dI rl ad cy (s_X11_stock F M p0 p1 p2).2.1 (s_X11_stock F M p0 p1 p2).2.2) A) 0 0 A := by
  refine Met.ofW (cc := cX10_stock) (maxL := 5) (ret := (some .int)) (by decide) rfl ?_
  intro p e s m args below meth c s₁ B hml hv
  obtain ⟨rfl, hP, hK, hN⟩ := hv
  have hx := B.exec
  have hb := B.bytes
  have hr := B.returns
  have hts := atoms_spec (ws := wsX10_stock) B.pre
  have hown : s.vm.findClass RX10 = some m.cls := findClass_of_methodNamed B.named
  have hlocks := B.notSynchronized
  have hin10 : ∀ w ∈ wsX100, w ∈ wsX10_stock := by decide +kernel
  have hin2 : ∀ w ∈ wsX20, w ∈ wsX10_stock := by decide +kernel
  have hS : va_S A s.heap s.heap [] := va_S.rf
  have hl := lv_entry ([.ref (ad (9, 0)), .int p0, .int p1, .int p2]) (n := 5) (Nat.le_of_ble_eq_true rfl)
  rw [lg_entry_eq]
  generalize (lg_sl ([.ref (ad (9, 0)), .int p0, .int p1, .int p2]) ++ List.replicate (5 - (lg_sl ([.ref (ad (9, 0)), .int p0, .int p1, .int p2])).length) Slot.unset).toArray = ls at hl ⊢
  have hl : lv_has ls 5 [(0, .ref (ad (9, 0))), (1, .int p0), (2, .int p1), (3, .int p2)] := hl
  refine lv_iload_n hx hb dX10_stock_0 rfl (lv_at hl 1 rfl) ?_
  refine lv_iload_n hx hb dX10_stock_1 rfl (lv_at hl 2 rfl) ?_
  refine vp_callSi (W.runS (As := [.int p0, .int p1]) (rest := []) ⟨hx, hb, hml, hown, hts⟩ (c_X10_isPlace l p0 p1) (va_cwS 2 hts gX10_stock_X10_isPlace rfl rfl rfl (by decide +kernel) ⟨Nat.le_of_ble_eq_true rfl, Nat.le_of_ble_eq_true rfl⟩) ⟨fun _ _ _ _ q => q, fun U hU hW => ⟨rfl, trivial⟩⟩ rfl rfl hl.1 rfl (lv_room (Nat.le_of_ble_eq_true rfl)) dX10_stock_2 ⟨Nat.zero_le _, Nat.zero_le _⟩) (fun r hr9 => ?_)
  subst hr9
  refine lv_if_eq (tgt := 18) hx hb dX10_stock_5 (by decide) (fun c1 => ?_) (fun c1 => ?_)
  · replace c1 := bo_f c1
    refine lv_iconst (v := (-1)) hx hb dX10_stock_18 (by decide) ?_
    have E9 : s_X11_stock F M p0 p1 p2 = ((-1), (F, M)) := by unfold s_X11_stock; rw [if_neg c1]
    exact W.iret (v := (-1)) hx hb hr (fun t ht hW => ⟨⟨(-1), Y, rfl, by rw [E9], by rw [E9]; exact ⟨⟨by rw [ht]; exact hP, va_K.moved hW.alike hK, nst_w hW hN⟩, hD⟩⟩, hS.F ht⟩) hS.2.2 dX10_stock_19
  · replace c1 := bo_t c1
    refine lv_iload_n hx hb dX10_stock_8 rfl (lv_at hl 3 rfl) ?_
    refine lv_iconst (v := 0) hx hb dX10_stock_9 (by decide) ?_
    refine lv_bipush (v := 9) hx hb dX10_stock_10 (by decide) ?_
    refine vp_callSi (W.runS (As := [.int p2, .int 0, .int 9]) (rest := []) ⟨hx, hb, hml, hown, hts⟩ (c_X10_isWithin l p2 0 9) (va_cwS 3 hts gX10_stock_X10_isWithin rfl rfl rfl (by decide +kernel) ⟨Nat.le_of_ble_eq_true rfl, Nat.le_of_ble_eq_true rfl⟩) ⟨fun _ _ _ _ q => q, fun U hU hW => ⟨rfl, trivial⟩⟩ rfl rfl hl.1 rfl (lv_room (Nat.le_of_ble_eq_true rfl)) dX10_stock_12 ⟨Nat.zero_le _, Nat.zero_le _⟩) (fun r hr9 => ?_)
    subst hr9
    refine lv_if_ne (tgt := 20) hx hb dX10_stock_15 (by decide) (fun c2 => ?_) (fun c2 => ?_)
    · replace c2 := bo_t c2
      refine lv_aload_n hx hb dX10_stock_20 rfl (lv_at hl 0 rfl) ?_
      refine rg_get (D := (dC, dI)) (r := (9, 0)) (ci := 9) (v := .ref (ad (2, 0))) (C := RX10) (T := TX10) (N := 19) hx hb hts hin10 hown hK hP ((hrl _).mpr (vd_9 (by decide))) en_9 rfl 14 (by decide) (hts (.fieldLink RX10 48 "SocietyBook" "holdings" "LSocietyBook$Holdings;") (by decide +kernel)) (fun _ h9 => h9) rfl dX10_stock_21 ?_
      refine rg_get (D := (dC, dI)) (r := (2, 0)) (ci := 2) (v := .ref (ad (19, 0))) (C := RX2) (T := TX2) (N := 3) hx hb hts hin2 hown hK hP ((hrl _).mpr (vd_2 (by decide))) en_2 rfl 0 (by decide) (hts (.fieldLink RX10 230 "SocietyBook$Holdings" "rows" "[[I") (by decide +kernel)) (fun _ h9 => h9) rfl dX10_stock_24 ?_
      refine lv_iload_n hx hb dX10_stock_27 rfl (lv_at hl 1 rfl) ?_
      refine rg_ald2 (r := (19, 0)) (v := .ref (ad (25, p0.toNatClampNeg))) hx hb hK hP ((hrl _).mpr (vd_19 (by decide))) 10 en_19 rfl (ib_in (lo := 0) c1.1 (by decide)) rfl dX10_stock_28 ?_
      refine lv_iload_n hx hb dX10_stock_29 rfl (lv_at hl 2 rfl) ?_
      refine rg_iald (r := (25, p0.toNatClampNeg)) (v := (M 42) (12 * p0.toNatClampNeg + p1.toNatClampNeg)) hx hb hK hP ((hrl _).mpr (vd_25 (ib_cl (ib_in (lo := 0) c1.1 (by decide))).2)) 0 en_25 rfl (ib_in (lo := 0) c1.2 (by decide)) (by exact if_pos (ib_cl (ib_in (lo := 0) c1.2 (by decide))).2) dX10_stock_30 ?_
      refine lv_istore (lv' := [(4, .int ((M 42) (12 * p0.toNatClampNeg + p1.toNatClampNeg))), (0, .ref (ad (9, 0))), (1, .int p0), (2, .int p1), (3, .int p2)]) hx hb dX10_stock_31 hl (by decide) rfl (fun ls hl => ?_)
      refine lv_aload_n hx hb dX10_stock_33 rfl (lv_at hl 1 rfl) ?_
      refine rg_get (D := (dC, dI)) (r := (9, 0)) (ci := 9) (v := .ref (ad (2, 0))) (C := RX10) (T := TX10) (N := 19) hx hb hts hin10 hown hK hP ((hrl _).mpr (vd_9 (by decide))) en_9 rfl 14 (by decide) (hts (.fieldLink RX10 48 "SocietyBook" "holdings" "LSocietyBook$Holdings;") (by decide +kernel)) (fun _ h9 => h9) rfl dX10_stock_34 ?_
      refine rg_get (D := (dC, dI)) (r := (2, 0)) (ci := 2) (v := .ref (ad (19, 0))) (C := RX2) (T := TX2) (N := 3) hx hb hts hin2 hown hK hP ((hrl _).mpr (vd_2 (by decide))) en_2 rfl 0 (by decide) (hts (.fieldLink RX10 230 "SocietyBook$Holdings" "rows" "[[I") (by decide +kernel)) (fun _ h9 => h9) rfl dX10_stock_37 ?_
      refine lv_iload_n hx hb dX10_stock_40 rfl (lv_at hl 2 rfl) ?_
      refine rg_ald2 (r := (19, 0)) (v := .ref (ad (25, p0.toNatClampNeg))) hx hb hK hP ((hrl _).mpr (vd_19 (by decide))) 10 en_19 rfl (ib_in (lo := 0) c1.1 (by decide)) rfl dX10_stock_41 ?_
      refine lv_iload_n hx hb dX10_stock_42 rfl (lv_at hl 3 rfl) ?_
      refine lv_iload_n hx hb dX10_stock_43 rfl (lv_at hl 4 rfl) ?_
      refine rg_iast (r := (25, p0.toNatClampNeg)) hx hb hK hP hD hS ((hrl _).mpr (vd_25 (ib_cl (ib_in (lo := 0) c1.1 (by decide))).2)) 0 en_25 rfl (ib_in (lo := 0) c1.2 (by decide)) dX10_stock_44 (fun H locs hP hD hS => ?_)
      replace hP : va_P (dC, dI) vwCl (rx_W rl ad (eC ad cy F (va_up M 42 (upd (M 42) (12 * p0.toNatClampNeg + p1.toNatClampNeg) p2)) Y)) H := ec_mp (ec_25 ad cy F M Y p0.toNatClampNeg p1.toNatClampNeg (ib_cl (ib_in (lo := 0) c1.2 (by decide))).2 p2) hP
      replace hD : va_D A (rx_W rl ad (eC ad cy F (va_up M 42 (upd (M 42) (12 * p0.toNatClampNeg + p1.toNatClampNeg) p2)) Y)) := rx_D hD
      refine lv_iload hx hb dX10_stock_45 (lv_at hl 0 rfl) ?_
      have E9 : s_X11_stock F M p0 p1 p2 = ((M 42) (12 * p0.toNatClampNeg + p1.toNatClampNeg), (F, va_up M 42 (upd (M 42) (12 * p0.toNatClampNeg + p1.toNatClampNeg) p2))) := by unfold s_X11_stock; rw [if_pos c1]; rw [if_pos c2]; rw [cl12 (S := 6) (ib_in (lo := 0) c1.1 (by decide)) (ib_in (lo := 0) c1.2 (by decide)) (by decide)]
      exact W.iret (v := (M 42) (12 * p0.toNatClampNeg + p1.toNatClampNeg)) hx hb hr (fun t ht hW => ⟨⟨(M 42) (12 * p0.toNatClampNeg + p1.toNatClampNeg), Y, rfl, by rw [E9], by rw [E9]; exact ⟨⟨by rw [ht]; exact hP, va_K.moved hW.alike hK, nst_w hW hN⟩, hD⟩⟩, hS.F ht⟩) hS.2.2 dX10_stock_47
    · replace c2 := bo_f c2
      refine lv_iconst (v := (-1)) hx hb dX10_stock_18 (by decide) ?_
      have E9 : s_X11_stock F M p0 p1 p2 = ((-1), (F, M)) := by unfold s_X11_stock; rw [if_pos c1]; rw [if_neg c2]
      exact W.iret (v := (-1)) hx hb hr (fun t ht hW => ⟨⟨(-1), Y, rfl, by rw [E9], by rw [E9]; exact ⟨⟨by rw [ht]; exact hP, va_K.moved hW.alike hK, nst_w hW hN⟩, hD⟩⟩, hS.F ht⟩) hS.2.2 dX10_stock_19

set_option maxHeartbeats 4000000 in
set_option maxRecDepth 100000 in
theorem c_X10_copies (l : Launch) (dC : Nat → ClassId) (dI : Nat → Nat → Nat) (rl : List (Nat × Nat)) (ad : Nat × Nat → Nat) (cy : Nat → ClassId) (F : Nat → Int32) (M Y : Nat → Nat → Int32) (p0 : Int32) (p1 : Int32) (hrl : ∀ r, r ∈ rl ↔ vd F r) (hI : iv F M) (hJ : jv F M) : Met l yX10_copies wsX10_copies ({ frames := 2, cells := 0, slots := 0, locals := 43 } : Room) (va_Pc [.ref (ad (9, 0)), .int p0, .int p1] (pC dC dI rl ad cy (eC ad cy F M Y))) (vp_Si (fun r => r = (s_X11_copies F M p0 p1))) 0 0 (fun _ => False) := by
  refine Met.ofW (cc := cX10_copies) (maxL := 3) (ret := (some .int)) (by decide) rfl ?_
  intro p e s m args below meth c s₁ B hml hv
  obtain ⟨rfl, hP, hK, hN⟩ := hv
  have hx := B.exec
  have hb := B.bytes
  have hr := B.returns
  have hts := atoms_spec (ws := wsX10_copies) B.pre
  have hown : s.vm.findClass RX10 = some m.cls := findClass_of_methodNamed B.named
  have hlocks := B.notSynchronized
  have hin10 : ∀ w ∈ wsX100, w ∈ wsX10_copies := by decide +kernel
  have hin2 : ∀ w ∈ wsX20, w ∈ wsX10_copies := by decide +kernel
  have hl := lv_entry ([.ref (ad (9, 0)), .int p0, .int p1]) (n := 3) (Nat.le_of_ble_eq_true rfl)
  rw [lg_entry_eq]
  generalize (lg_sl ([.ref (ad (9, 0)), .int p0, .int p1]) ++ List.replicate (3 - (lg_sl ([.ref (ad (9, 0)), .int p0, .int p1])).length) Slot.unset).toArray = ls at hl ⊢
  have hl : lv_has ls 3 [(0, .ref (ad (9, 0))), (1, .int p0), (2, .int p1)] := hl
  refine lv_iload_n hx hb dX10_copies_0 rfl (lv_at hl 1 rfl) ?_
  refine lv_iload_n hx hb dX10_copies_1 rfl (lv_at hl 2 rfl) ?_
  refine vp_callSi (W.runS (As := [.int p0, .int p1]) (rest := []) ⟨hx, hb, hml, hown, hts⟩ (c_X10_isPlace l p0 p1) (va_cwS 2 hts gX10_copies_X10_isPlace rfl rfl rfl (by decide +kernel) ⟨Nat.le_of_ble_eq_true rfl, Nat.le_of_ble_eq_true rfl⟩) ⟨fun _ _ _ _ q => q, fun U hU hW => ⟨rfl, trivial⟩⟩ rfl rfl hl.1 rfl (lv_room (Nat.le_of_ble_eq_true rfl)) dX10_copies_2 ⟨Nat.zero_le _, Nat.zero_le _⟩) (fun r hr9 => ?_)
  subst hr9
  refine lv_if_ne (tgt := 10) hx hb dX10_copies_5 (by decide) (fun c1 => ?_) (fun c1 => ?_)
  · replace c1 := bo_t c1
    refine lv_aload_n hx hb dX10_copies_10 rfl (lv_at hl 0 rfl) ?_
    refine rg_get (D := (dC, dI)) (r := (9, 0)) (ci := 9) (v := .ref (ad (2, 0))) (C := RX10) (T := TX10) (N := 19) hx hb hts hin10 hown hK hP ((hrl _).mpr (vd_9 (by decide))) en_9 rfl 14 (by decide) (hts (.fieldLink RX10 48 "SocietyBook" "holdings" "LSocietyBook$Holdings;") (by decide +kernel)) (fun _ h9 => h9) rfl dX10_copies_11 ?_
    refine rg_get (D := (dC, dI)) (r := (2, 0)) (ci := 2) (v := .ref (ad (19, 0))) (C := RX2) (T := TX2) (N := 3) hx hb hts hin2 hown hK hP ((hrl _).mpr (vd_2 (by decide))) en_2 rfl 0 (by decide) (hts (.fieldLink RX10 230 "SocietyBook$Holdings" "rows" "[[I") (by decide +kernel)) (fun _ h9 => h9) rfl dX10_copies_14 ?_
    refine lv_iload_n hx hb dX10_copies_17 rfl (lv_at hl 1 rfl) ?_
    refine rg_ald2 (r := (19, 0)) (v := .ref (ad (25, p0.toNatClampNeg))) hx hb hK hP ((hrl _).mpr (vd_19 (by decide))) 10 en_19 rfl (ib_in (lo := 0) c1.1 (by decide)) rfl dX10_copies_18 ?_
    refine lv_iload_n hx hb dX10_copies_19 rfl (lv_at hl 2 rfl) ?_
    refine rg_iald (r := (25, p0.toNatClampNeg)) (v := (M 42) (12 * p0.toNatClampNeg + p1.toNatClampNeg)) hx hb hK hP ((hrl _).mpr (vd_25 (ib_cl (ib_in (lo := 0) c1.1 (by decide))).2)) 0 en_25 rfl (ib_in (lo := 0) c1.2 (by decide)) (by exact if_pos (ib_cl (ib_in (lo := 0) c1.2 (by decide))).2) dX10_copies_20 ?_
    exact W.iret (v := (M 42) (12 * p0.toNatClampNeg + p1.toNatClampNeg)) hx hb hr (fun t ht hW => ⟨(M 42) (12 * p0.toNatClampNeg + p1.toNatClampNeg), rfl, by unfold s_X11_copies; rw [if_pos c1]; rw [cl12 (S := 6) (ib_in (lo := 0) c1.1 (by decide)) (ib_in (lo := 0) c1.2 (by decide)) (by decide)], ht⟩) (fun _ h => by cases h) dX10_copies_21
  · replace c1 := bo_f c1
    refine lv_iconst (v := (-1)) hx hb dX10_copies_8 (by decide) ?_
    exact W.iret (v := (-1)) hx hb hr (fun t ht hW => ⟨(-1), rfl, by unfold s_X11_copies; rw [if_neg c1], ht⟩) (fun _ h => by cases h) dX10_copies_9

set_option maxHeartbeats 4000000 in
set_option maxRecDepth 100000 in
theorem c_X2_lacking (l : Launch) (dC : Nat → ClassId) (dI : Nat → Nat → Nat) (rl : List (Nat × Nat)) (ad : Nat × Nat → Nat) (cy : Nat → ClassId) (F : Nat → Int32) (M Y : Nat → Nat → Int32)  (hrl : ∀ r, r ∈ rl ↔ vd F r) (hI : iv F M) (hJ : jv F M) : Met l yX2_lacking wsX2_lacking ({ frames := 0, cells := 0, slots := 0, locals := 0 } : Room) (va_Pc [.ref (ad (2, 0))] (pC dC dI rl ad cy (eC ad cy F M Y))) (vp_Si (fun r => r = s_X11_lacking F M)) 0 0 (fun _ => False) := by
  refine Met.ofW (cc := cX2_lacking) (maxL := 3) (ret := (some .int)) (by decide) rfl ?_
  intro p e s m args below meth c s₁ B hml hv
  obtain ⟨rfl, hP, hK, hN⟩ := hv
  have hx := B.exec
  have hb := B.bytes
  have hr := B.returns
  have hts := atoms_spec (ws := wsX2_lacking) B.pre
  have hown : s.vm.findClass RX2 = some m.cls := findClass_of_methodNamed B.named
  have hlocks := B.notSynchronized
  have hin2 : ∀ w ∈ wsX20, w ∈ wsX2_lacking := by decide +kernel
  have hl := lv_entry ([.ref (ad (2, 0))]) (n := 3) (Nat.le_of_ble_eq_true rfl)
  rw [lg_entry_eq]
  generalize (lg_sl ([.ref (ad (2, 0))]) ++ List.replicate (3 - (lg_sl ([.ref (ad (2, 0))])).length) Slot.unset).toArray = ls at hl ⊢
  have hl : lv_has ls 3 [(0, .ref (ad (2, 0)))] := hl
  refine lv_iconst (v := 0) hx hb dX2_lacking_0 (by decide) ?_
  refine lv_istore_n (lv' := [(1, .int 0), (0, .ref (ad (2, 0)))]) hx hb dX2_lacking_1 rfl hl (by decide) rfl (fun ls hl => ?_)
  refine lv_iconst (v := 0) hx hb dX2_lacking_2 (by decide) ?_
  refine lv_istore_n (lv' := [(2, .int 0), (1, .int 0), (0, .ref (ad (2, 0)))]) hx hb dX2_lacking_3 rfl hl (by decide) rfl (fun ls hl => ?_)
  refine lp_for (N := 12) (lv := fun i1 => [(2, .int (nI i1)), (1, .int (L_lacking F M i1)), (0, .ref (ad (2, 0)))]) (lv_sub hl [0, 1, 2] rfl) (fun i1 hi1 ls hl kk1 => ?_) (fun ls hl => ?_)
  · replace hl : lv_has ls 3 [(2, .int (nI i1)), (1, .int (L_lacking F M i1)), (0, .ref (ad (2, 0)))] := hl
    refine lv_iload_n hx hb dX2_lacking_4 rfl (lv_at hl 0 rfl) ?_
    refine lv_bipush (v := 12) hx hb dX2_lacking_5 (by decide) ?_
    refine lv_icmp_ge (tgt := 33) hx hb dX2_lacking_7 (by decide) (fun c => absurd c (lb_n (by decide) hi1)) (fun _ => ?_)
    refine lv_aload_n hx hb dX2_lacking_10 rfl (lv_at hl 2 rfl) ?_
    refine rg_get (D := (dC, dI)) (r := (2, 0)) (ci := 2) (v := .ref (ad (19, 0))) (C := RX2) (T := TX2) (N := 3) hx hb hts hin2 hown hK hP ((hrl _).mpr (vd_2 (by decide))) en_2 rfl 0 (by decide) (hts (.fieldLink RX2 11 "SocietyBook$Holdings" "rows" "[[I") (by decide +kernel)) (fun _ h9 => h9) rfl dX2_lacking_11 ?_
    refine lv_iconst (v := 0) hx hb dX2_lacking_14 (by decide) ?_
    refine rg_ald2 (r := (19, 0)) (v := .ref (ad (25, 0))) hx hb hK hP ((hrl _).mpr (vd_19 (by decide))) 10 en_19 rfl (ib_lit (by decide)) (by rw [show (0 : Int32).toNatClampNeg = 0 from by decide]; rfl) dX2_lacking_15 ?_
    refine lv_iload_n hx hb dX2_lacking_16 rfl (lv_at hl 0 rfl) ?_
    refine rg_iald (r := (25, 0)) (v := (M 42) i1) hx hb hK hP ((hrl _).mpr (vd_25 (by decide))) 0 en_25 rfl (vp_in_nI (show i1 < 12 by omega) (by decide)) (by rw [nI_clamp (show i1 < 2 ^ 31 by omega)]; exact (if_pos (show i1 < 12 by omega)).trans (by rw [Nat.mul_zero, Nat.zero_add])) dX2_lacking_17 ?_
    refine lv_if_ne (tgt := 27) hx hb dX2_lacking_18 (by decide) (fun c1 => ?_) (fun c1 => ?_)
    · refine lv_iinc (v := nI (i1 + 1)) (lv' := [(2, .int (nI (i1 + 1))), (1, .int (L_lacking F M i1)), (0, .ref (ad (2, 0)))]) hx hb dX2_lacking_27 hl (k := 0) rfl (nI_1 i1) (by decide) rfl (fun ls hl => ?_)
      refine lv_goto (tgt := 4) hx hb dX2_lacking_30 (by decide) ?_
      have e9 : L_lacking F M (i1 + 1) = (L_lacking F M i1) := by rw [L_lacking]; rw [if_neg c1]; rw [Int32.or_zero]
      refine kk1 ls (show lv_has ls 3 [(2, .int (nI (i1 + 1))), (1, .int (L_lacking F M (i1 + 1))), (0, .ref (ad (2, 0)))] from ?_)
      rw [e9]; exact lv_sub hl [0, 1, 2] rfl
    · refine lv_iload_n hx hb dX2_lacking_21 rfl (lv_at hl 1 rfl) ?_
      refine lv_iconst (v := 1) hx hb dX2_lacking_22 (by decide) ?_
      refine lv_iload_n hx hb dX2_lacking_23 rfl (lv_at hl 0 rfl) ?_
      refine lv_ishl hx hb dX2_lacking_24 ?_
      refine lv_ior hx hb dX2_lacking_25 ?_
      refine lv_istore_n (lv' := [(1, .int ((L_lacking F M i1) ||| (1 <<< ((nI i1) &&& 31)))), (2, .int (nI i1)), (0, .ref (ad (2, 0)))]) hx hb dX2_lacking_26 rfl hl (by decide) rfl (fun ls hl => ?_)
      refine lv_iinc (v := nI (i1 + 1)) (lv' := [(2, .int (nI (i1 + 1))), (1, .int ((L_lacking F M i1) ||| (1 <<< ((nI i1) &&& 31)))), (0, .ref (ad (2, 0)))]) hx hb dX2_lacking_27 hl (k := 1) rfl (nI_1 i1) (by decide) rfl (fun ls hl => ?_)
      refine lv_goto (tgt := 4) hx hb dX2_lacking_30 (by decide) ?_
      have e9 : L_lacking F M (i1 + 1) = (L_lacking F M i1) ||| (1 <<< ((nI i1) &&& 31)) := by rw [L_lacking]; rw [if_pos c1]
      refine kk1 ls (show lv_has ls 3 [(2, .int (nI (i1 + 1))), (1, .int (L_lacking F M (i1 + 1))), (0, .ref (ad (2, 0)))] from ?_)
      rw [e9]; exact lv_sub hl [0, 1, 2] rfl
  · replace hl : lv_has ls 3 [(2, .int (nI 12)), (1, .int (L_lacking F M 12)), (0, .ref (ad (2, 0)))] := hl
    refine lv_iload_n hx hb dX2_lacking_4 rfl (lv_at hl 0 rfl) ?_
    refine lv_bipush (v := 12) hx hb dX2_lacking_5 (by decide) ?_
    refine lv_icmp_ge (tgt := 33) hx hb dX2_lacking_7 (by decide) (fun _ => ?_) (fun c => absurd (lb_y (by decide)) c)
    refine lv_iload_n hx hb dX2_lacking_33 rfl (lv_at hl 1 rfl) ?_
    exact W.iret (v := (L_lacking F M 12)) hx hb hr (fun t ht hW => ⟨(L_lacking F M 12), rfl, by rfl, ht⟩) (fun _ h => by cases h) dX2_lacking_34

set_option maxHeartbeats 4000000 in
set_option maxRecDepth 100000 in
theorem c_X10_lacks (l : Launch) (dC : Nat → ClassId) (dI : Nat → Nat → Nat) (rl : List (Nat × Nat)) (ad : Nat × Nat → Nat) (cy : Nat → ClassId) (F : Nat → Int32) (M Y : Nat → Nat → Int32)  (hrl : ∀ r, r ∈ rl ↔ vd F r) (hI : iv F M) (hJ : jv F M) : Met l yX10_lacks wsX10_lacks ({ frames := 1, cells := 0, slots := 0, locals := 22 } : Room) (va_Pc [.ref (ad (9, 0))] (pC dC dI rl ad cy (eC ad cy F M Y))) (vp_Si (fun r => r = (s_X11_lacks F M))) 0 0 (fun _ => False) := by
  refine Met.ofW (cc := cX10_lacks) (maxL := 1) (ret := (some .int)) (by decide) rfl ?_
  intro p e s m args below meth c s₁ B hml hv
  obtain ⟨rfl, hP, hK, hN⟩ := hv
  have hx := B.exec
  have hb := B.bytes
  have hr := B.returns
  have hts := atoms_spec (ws := wsX10_lacks) B.pre
  have hown : s.vm.findClass RX10 = some m.cls := findClass_of_methodNamed B.named
  have hlocks := B.notSynchronized
  have hin10 : ∀ w ∈ wsX100, w ∈ wsX10_lacks := by decide +kernel
  have hl := lv_entry ([.ref (ad (9, 0))]) (n := 1) (Nat.le_of_ble_eq_true rfl)
  rw [lg_entry_eq]
  generalize (lg_sl ([.ref (ad (9, 0))]) ++ List.replicate (1 - (lg_sl ([.ref (ad (9, 0))])).length) Slot.unset).toArray = ls at hl ⊢
  have hl : lv_has ls 1 [(0, .ref (ad (9, 0)))] := hl
  refine lv_aload_n hx hb dX10_lacks_0 rfl (lv_at hl 0 rfl) ?_
  refine rg_get (D := (dC, dI)) (r := (9, 0)) (ci := 9) (v := .ref (ad (2, 0))) (C := RX10) (T := TX10) (N := 19) hx hb hts hin10 hown hK hP ((hrl _).mpr (vd_9 (by decide))) en_9 rfl 14 (by decide) (hts (.fieldLink RX10 48 "SocietyBook" "holdings" "LSocietyBook$Holdings;") (by decide +kernel)) (fun _ h9 => h9) rfl dX10_lacks_1 ?_
  refine vp_callSi (W.runV (As := []) (rest := []) ⟨hx, hb, hml, hown, hts⟩ (c_X2_lacking l dC dI rl ad cy F M Y   hrl hI hJ ) (cwV 0 hts gX10_lacks_X2_lacking rfl rfl rfl (by decide +kernel) ⟨Nat.le_of_ble_eq_true rfl, Nat.le_of_ble_eq_true rfl⟩) ⟨pc_blind, rg_recv hK hP ((hrl _).mpr (vd_2 (by decide))) (ci := 2) rfl en_2, fun U hU hW => ⟨rfl, by rw [hU]; exact hP, va_K.moved hW.alike hK, nst_w hW hN⟩⟩ rfl rfl hl.1 rfl (lv_room (Nat.le_of_ble_eq_true rfl)) dX10_lacks_4 ⟨Nat.zero_le _, Nat.zero_le _⟩) (fun r hr9 => ?_)
  subst hr9
  exact W.iret (v := s_X11_lacking F M) hx hb hr (fun t ht hW => ⟨s_X11_lacking F M, rfl, by unfold s_X11_lacks; rfl, ht⟩) (fun _ h => by cases h) dX10_lacks_7

set_option maxHeartbeats 4000000 in
set_option maxRecDepth 100000 in
theorem c_X10_mark (l : Launch) (dC : Nat → ClassId) (dI : Nat → Nat → Nat) (rl : List (Nat × Nat)) (ad : Nat × Nat → Nat) (cy : Nat → ClassId) (F : Nat → Int32) (M Y : Nat → Nat → Int32) (p0 : Int32) (p1 : Int32) (hrl : ∀ r, r ∈ rl ↔ vd F r) (hI : iv F M) (hJ : jv F M) (A : Nat → Prop) (hD : va_D A (rx_W rl ad (eC ad cy F M Y))) : Met l yX10_mark wsX10_mark ({ frames := 2, cells := 0, slots := 0, locals := 43 } : Room) (va_Pc [.ref (ad (9, 0)), .int p0, .int p1] (pC dC dI rl ad cy (eC ad cy F M Y))) (va_Qi (fun r (_ : Nat → Nat → Int32) => r = (s_X11_mark F M p0 p1).1) (qC A dC dI rl ad cy (s_X11_mark F M p0 p1).2.1 (s_X11_mark F M p0 p1).2.2) A) 0 0 A := by
  refine Met.ofW (cc := cX10_mark) (maxL := 4) (ret := (some .int)) (by decide) rfl ?_
  intro p e s m args below meth c s₁ B hml hv
  obtain ⟨rfl, hP, hK, hN⟩ := hv
  have hx := B.exec
  have hb := B.bytes
  have hr := B.returns
  have hts := atoms_spec (ws := wsX10_mark) B.pre
  have hown : s.vm.findClass RX10 = some m.cls := findClass_of_methodNamed B.named
  have hlocks := B.notSynchronized
  have hin5 : ∀ w ∈ wsX50, w ∈ wsX10_mark := by decide +kernel
  have hS : va_S A s.heap s.heap [] := va_S.rf
  have hl := lv_entry ([.ref (ad (9, 0)), .int p0, .int p1]) (n := 4) (Nat.le_of_ble_eq_true rfl)
  rw [lg_entry_eq]
  generalize (lg_sl ([.ref (ad (9, 0)), .int p0, .int p1]) ++ List.replicate (4 - (lg_sl ([.ref (ad (9, 0)), .int p0, .int p1])).length) Slot.unset).toArray = ls at hl ⊢
  have hl : lv_has ls 4 [(0, .ref (ad (9, 0))), (1, .int p0), (2, .int p1)] := hl
  refine lv_aload_n hx hb dX10_mark_0 rfl (lv_at hl 0 rfl) ?_
  refine lv_iload_n hx hb dX10_mark_1 rfl (lv_at hl 1 rfl) ?_
  refine va_csq (W.runV (As := [.int p0]) (rest := []) ⟨hx, hb, hml, hown, hts⟩ (c_X10_paperAt l dC dI rl ad cy F M Y  p0 hrl hI hJ ) (cwV 1 hts gX10_mark_X10_paperAt rfl rfl rfl (by decide +kernel) ⟨Nat.le_of_ble_eq_true rfl, Nat.le_of_ble_eq_true rfl⟩) ⟨pc_blind, rg_recv hK hP ((hrl _).mpr (vd_9 (by decide))) (ci := 9) rfl en_9, fun U hU hW => ⟨rfl, by rw [hU]; exact hP, va_K.moved hW.alike hK, nst_w hW hN⟩⟩ rfl rfl hl.1 rfl (lv_room (Nat.le_of_ble_eq_true rfl)) dX10_mark_2 ⟨Nat.zero_le _, Nat.zero_le _⟩) (fun r hr9 => ?_)
  subst hr9
  by_cases c1 : 0 ≤ p0 ∧ p0 ≤ ((F 7) - 1)
  · rw [if_pos c1]
    refine W.eq (g2 := F0 m 5 ls (.ref (ad (5, p0.toNatClampNeg)) :: [])) rfl ?_
    refine lv_astore_n (lv' := [(3, .ref (ad (5, p0.toNatClampNeg))), (0, .ref (ad (9, 0))), (1, .int p0), (2, .int p1)]) hx hb dX10_mark_5 rfl hl (by decide) rfl (fun ls hl => ?_)
    refine lv_aload_n hx hb dX10_mark_6 rfl (lv_at hl 0 rfl) ?_
    refine lv_ifnull hx hb dX10_mark_7 ?_
    refine lv_iload_n hx hb dX10_mark_10 rfl (lv_at hl 3 rfl) ?_
    refine lv_iconst (v := 0) hx hb dX10_mark_11 (by decide) ?_
    refine lv_iconst (v := 2) hx hb dX10_mark_12 (by decide) ?_
    refine vp_callSi (W.runS (As := [.int p1, .int 0, .int 2]) (rest := []) ⟨hx, hb, hml, hown, hts⟩ (c_X10_isWithin l p1 0 2) (va_cwS 3 hts gX10_mark_X10_isWithin rfl rfl rfl (by decide +kernel) ⟨Nat.le_of_ble_eq_true rfl, Nat.le_of_ble_eq_true rfl⟩) ⟨fun _ _ _ _ q => q, fun U hU hW => ⟨rfl, trivial⟩⟩ rfl rfl hl.1 rfl (lv_room (Nat.le_of_ble_eq_true rfl)) dX10_mark_13 ⟨Nat.zero_le _, Nat.zero_le _⟩) (fun r hr9 => ?_)
    subst hr9
    refine lv_if_ne (tgt := 21) hx hb dX10_mark_16 (by decide) (fun c2 => ?_) (fun c2 => ?_)
    · replace c2 := bo_t c2
      refine lv_iload_n hx hb dX10_mark_21 rfl (lv_at hl 3 rfl) ?_
      refine lv_if_ne (tgt := 33) hx hb dX10_mark_22 (by decide) (fun c3 => ?_) (fun c3 => ?_)
      · refine lv_aload_n hx hb dX10_mark_33 rfl (lv_at hl 0 rfl) ?_
        refine rg_get (D := (dC, dI)) (r := (5, p0.toNatClampNeg)) (ci := 5) (v := .int (M 8 p0.toNatClampNeg)) (C := RX5) (T := TX5) (N := 9) hx hb hts hin5 hown hK hP ((hrl _).mpr (vd_5 (ix_cn c1 (iv_7 hI).1))) en_5 rfl 0 (by decide) (hts (.fieldLink RX10 124 "SocietyBook$Paper" "kind" "I") (by decide +kernel)) (fun _ h9 => h9) rfl dX10_mark_34 ?_
        refine lv_iload_n hx hb dX10_mark_37 rfl (lv_at hl 3 rfl) ?_
        refine lv_icmp_eq (tgt := 47) hx hb dX10_mark_38 (by decide) (fun c4 => ?_) (fun c4 => ?_)
        · refine lv_iload_n hx hb dX10_mark_47 rfl (lv_at hl 3 rfl) ?_
          refine lv_iconst (v := 1) hx hb dX10_mark_48 (by decide) ?_
          refine lv_icmp_ne (tgt := 59) hx hb dX10_mark_49 (by decide) (fun c5 => ?_) (fun c5 => ?_)
          · refine lv_aload_n hx hb dX10_mark_59 rfl (lv_at hl 0 rfl) ?_
            refine rg_get (D := (dC, dI)) (r := (5, p0.toNatClampNeg)) (ci := 5) (v := .int (M 12 p0.toNatClampNeg)) (C := RX5) (T := TX5) (N := 9) hx hb hts hin5 hown hK hP ((hrl _).mpr (vd_5 (ix_cn c1 (iv_7 hI).1))) en_5 rfl 4 (by decide) (hts (.fieldLink RX10 148 "SocietyBook$Paper" "sentOn" "I") (by decide +kernel)) (fun _ h9 => h9) rfl dX10_mark_60 ?_
            have E9 : s_X11_mark F M p0 p1 = (M 12 p0.toNatClampNeg, (F, M)) := by unfold s_X11_mark; rw [if_pos c1]; rw [if_pos c2]; rw [if_neg c3]; rw [if_pos c4]; rw [if_neg c5]
            exact W.iret (v := M 12 p0.toNatClampNeg) hx hb hr (fun t ht hW => ⟨⟨M 12 p0.toNatClampNeg, Y, rfl, by rw [E9], by rw [E9]; exact ⟨⟨by rw [ht]; exact hP, va_K.moved hW.alike hK, nst_w hW hN⟩, hD⟩⟩, hS.F ht⟩) hS.2.2 dX10_mark_63
          · refine lv_aload_n hx hb dX10_mark_52 rfl (lv_at hl 0 rfl) ?_
            refine rg_get (D := (dC, dI)) (r := (5, p0.toNatClampNeg)) (ci := 5) (v := .int (M 15 p0.toNatClampNeg)) (C := RX5) (T := TX5) (N := 9) hx hb hts hin5 hown hK hP ((hrl _).mpr (vd_5 (ix_cn c1 (iv_7 hI).1))) en_5 rfl 7 (by decide) (hts (.fieldLink RX10 131 "SocietyBook$Paper" "openedOn" "I") (by decide +kernel)) (fun _ h9 => h9) rfl dX10_mark_53 ?_
            refine lv_goto (tgt := 63) hx hb dX10_mark_56 (by decide) ?_
            have E9 : s_X11_mark F M p0 p1 = (M 15 p0.toNatClampNeg, (F, M)) := by unfold s_X11_mark; rw [if_pos c1]; rw [if_pos c2]; rw [if_neg c3]; rw [if_pos c4]; rw [if_pos c5]
            exact W.iret (v := M 15 p0.toNatClampNeg) hx hb hr (fun t ht hW => ⟨⟨M 15 p0.toNatClampNeg, Y, rfl, by rw [E9], by rw [E9]; exact ⟨⟨by rw [ht]; exact hP, va_K.moved hW.alike hK, nst_w hW hN⟩, hD⟩⟩, hS.F ht⟩) hS.2.2 dX10_mark_63
        · refine lv_aload_n hx hb dX10_mark_41 rfl (lv_at hl 1 rfl) ?_
          refine lv_iconst (v := 3) hx hb dX10_mark_42 (by decide) ?_
          refine va_calli (va_runV (As := [.int 3]) (rest := []) ⟨hx, hb, hml, hown, hts⟩ (c_X10_found l dC dI rl ad cy F M Y  3 hrl hI hJ A hD (ib_lit (by decide))) (cwV 1 hts gX10_mark_X10_found rfl rfl rfl (by decide +kernel) ⟨Nat.le_of_ble_eq_true rfl, Nat.le_of_ble_eq_true rfl⟩) ⟨pc_blind, rg_recv hK hP ((hrl _).mpr (vd_9 (by decide))) (ci := 9) rfl en_9, fun U hU hW => ⟨rfl, by rw [hU]; exact hP, va_K.moved hW.alike hK, nst_w hW hN⟩⟩ rfl rfl hl.1 rfl (lv_room (Nat.le_of_ble_eq_true rfl)) dX10_mark_43 ⟨Nat.zero_le _, Nat.zero_le _⟩) hS (fun q _ h => h) (fun q h => h) (fun r u t H1 locs ht hvm hw hB hz1 hk1 hS => ?_)
          subst hw
          obtain ⟨⟨hP, -, -⟩, hD⟩ := hB
          rw [ht] at hP
          clear hz1 hk1 ht hvm; generalize H1 = H at hP hS ⊢
          skip
          have E9 : s_X11_mark F M p0 p1 = ((s_X11_meets F M 3).1, ((s_X11_meets F M 3).2.1, (s_X11_meets F M 3).2.2)) := by unfold s_X11_mark; rw [if_pos c1]; rw [if_pos c2]; rw [if_neg c3]; rw [if_neg c4]
          exact W.iret (v := (s_X11_meets F M 3).1) hx hb hr (fun t ht hW => ⟨⟨(s_X11_meets F M 3).1, u, rfl, by rw [E9], by rw [E9]; exact ⟨⟨by rw [ht]; exact hP, va_K.moved hW.alike hK, nst_w hW hN⟩, hD⟩⟩, hS.F ht⟩) hS.2.2 dX10_mark_46
      · refine lv_aload_n hx hb dX10_mark_25 rfl (lv_at hl 0 rfl) ?_
        refine rg_get (D := (dC, dI)) (r := (5, p0.toNatClampNeg)) (ci := 5) (v := .int (M 10 p0.toNatClampNeg)) (C := RX5) (T := TX5) (N := 9) hx hb hts hin5 hown hK hP ((hrl _).mpr (vd_5 (ix_cn c1 (iv_7 hI).1))) en_5 rfl 2 (by decide) (hts (.fieldLink RX10 134 "SocietyBook$Paper" "claims" "I") (by decide +kernel)) (fun _ h9 => h9) rfl dX10_mark_26 ?_
        refine vp_callSi (W.runS (As := [.int (M 10 p0.toNatClampNeg)]) (rest := []) ⟨hx, hb, hml, hown, hts⟩ (c_J6_bitCount_0f7a4 l (M 10 p0.toNatClampNeg)) (va_cwS 1 hts gX10_mark_J6_bitCount_0f7a4 rfl rfl rfl (by decide +kernel) ⟨Nat.le_of_ble_eq_true rfl, Nat.le_of_ble_eq_true rfl⟩) ⟨fun _ _ _ _ q => q, fun U hU hW => ⟨rfl, trivial⟩⟩ rfl rfl hl.1 rfl (lv_room (Nat.le_of_ble_eq_true rfl)) dX10_mark_29 ⟨Nat.zero_le _, Nat.zero_le _⟩) (fun r hr9 => ?_)
        subst hr9
        rw [bc_eq (x := M 10 p0.toNatClampNeg) (jv_p hJ _ (ix_cn c1 (iv_7 hI).1)).2.2.1.1]
        have E9 : s_X11_mark F M p0 p1 = (s_X11_bitsOf (M 10 p0.toNatClampNeg), (F, M)) := by unfold s_X11_mark; rw [if_pos c1]; rw [if_pos c2]; rw [if_pos c3]
        exact W.iret (v := s_X11_bitsOf (M 10 p0.toNatClampNeg)) hx hb hr (fun t ht hW => ⟨⟨s_X11_bitsOf (M 10 p0.toNatClampNeg), Y, rfl, by rw [E9], by rw [E9]; exact ⟨⟨by rw [ht]; exact hP, va_K.moved hW.alike hK, nst_w hW hN⟩, hD⟩⟩, hS.F ht⟩) hS.2.2 dX10_mark_32
    · replace c2 := bo_f c2
      refine lv_iconst (v := (-1)) hx hb dX10_mark_19 (by decide) ?_
      have E9 : s_X11_mark F M p0 p1 = ((-1), (F, M)) := by unfold s_X11_mark; rw [if_pos c1]; rw [if_neg c2]
      exact W.iret (v := (-1)) hx hb hr (fun t ht hW => ⟨⟨(-1), Y, rfl, by rw [E9], by rw [E9]; exact ⟨⟨by rw [ht]; exact hP, va_K.moved hW.alike hK, nst_w hW hN⟩, hD⟩⟩, hS.F ht⟩) hS.2.2 dX10_mark_20
  · rw [if_neg c1]
    refine W.eq (g2 := F0 m 5 ls (.null :: [])) rfl ?_
    refine lv_astore_nN (lv' := [(3, .null), (0, .ref (ad (9, 0))), (1, .int p0), (2, .int p1)]) hx hb dX10_mark_5 rfl hl (by decide) rfl (fun ls hl => ?_)
    refine lv_aload_nN hx hb dX10_mark_6 rfl (lv_at hl 0 rfl) ?_
    refine lv_ifnullN (tgt := 19) hx hb dX10_mark_7 (by decide) ?_
    refine lv_iconst (v := (-1)) hx hb dX10_mark_19 (by decide) ?_
    have E9 : s_X11_mark F M p0 p1 = ((-1), (F, M)) := by unfold s_X11_mark; rw [if_neg c1]
    exact W.iret (v := (-1)) hx hb hr (fun t ht hW => ⟨⟨(-1), Y, rfl, by rw [E9], by rw [E9]; exact ⟨⟨by rw [ht]; exact hP, va_K.moved hW.alike hK, nst_w hW hN⟩, hD⟩⟩, hS.F ht⟩) hS.2.2 dX10_mark_20

set_option maxHeartbeats 4000000 in
set_option maxRecDepth 100000 in
theorem c_X10_withdraw (l : Launch) (dC : Nat → ClassId) (dI : Nat → Nat → Nat) (rl : List (Nat × Nat)) (ad : Nat × Nat → Nat) (cy : Nat → ClassId) (F : Nat → Int32) (M Y : Nat → Nat → Int32) (p0 : Int32) (hrl : ∀ r, r ∈ rl ↔ vd F r) (hI : iv F M) (hJ : jv F M) (A : Nat → Prop) (hD : va_D A (rx_W rl ad (eC ad cy F M Y))) : Met l yX10_withdraw wsX10_withdraw ({ frames := 2, cells := 0, slots := 0, locals := 43 } : Room) (va_Pc [.ref (ad (9, 0)), .int p0] (pC dC dI rl ad cy (eC ad cy F M Y))) (va_Qi (fun r (_ : Nat → Nat → Int32) => r = (s_X11_withdraw F M p0).1) (qC A dC dI rl ad cy (s_X11_withdraw F M p0).2.1 (s_X11_withdraw F M p0).2.2) A) 0 0 A := by
  refine Met.ofW (cc := cX10_withdraw) (maxL := 3) (ret := (some .int)) (by decide) rfl ?_
  intro p e s m args below meth c s₁ B hml hv
  obtain ⟨rfl, hP, hK, hN⟩ := hv
  have hx := B.exec
  have hb := B.bytes
  have hr := B.returns
  have hts := atoms_spec (ws := wsX10_withdraw) B.pre
  have hown : s.vm.findClass RX10 = some m.cls := findClass_of_methodNamed B.named
  have hlocks := B.notSynchronized
  have hin1 : ∀ w ∈ wsX10, w ∈ wsX10_withdraw := by decide +kernel
  have hS : va_S A s.heap s.heap [] := va_S.rf
  have hl := lv_entry ([.ref (ad (9, 0)), .int p0]) (n := 3) (Nat.le_of_ble_eq_true rfl)
  rw [lg_entry_eq]
  generalize (lg_sl ([.ref (ad (9, 0)), .int p0]) ++ List.replicate (3 - (lg_sl ([.ref (ad (9, 0)), .int p0])).length) Slot.unset).toArray = ls at hl ⊢
  have hl : lv_has ls 3 [(0, .ref (ad (9, 0))), (1, .int p0)] := hl
  refine lv_aload_n hx hb dX10_withdraw_0 rfl (lv_at hl 0 rfl) ?_
  refine lv_iload_n hx hb dX10_withdraw_1 rfl (lv_at hl 1 rfl) ?_
  refine va_csq (W.runV (As := [.int p0]) (rest := []) ⟨hx, hb, hml, hown, hts⟩ (c_X10_candidateAt l dC dI rl ad cy F M Y  p0 hrl hI hJ ) (cwV 1 hts gX10_withdraw_X10_candidateAt rfl rfl rfl (by decide +kernel) ⟨Nat.le_of_ble_eq_true rfl, Nat.le_of_ble_eq_true rfl⟩) ⟨pc_blind, rg_recv hK hP ((hrl _).mpr (vd_9 (by decide))) (ci := 9) rfl en_9, fun U hU hW => ⟨rfl, by rw [hU]; exact hP, va_K.moved hW.alike hK, nst_w hW hN⟩⟩ rfl rfl hl.1 rfl (lv_room (Nat.le_of_ble_eq_true rfl)) dX10_withdraw_2 ⟨Nat.zero_le _, Nat.zero_le _⟩) (fun r hr9 => ?_)
  subst hr9
  by_cases c1 : 0 ≤ p0 ∧ p0 ≤ ((F 32) - 1)
  · rw [if_pos c1]
    refine W.eq (g2 := F0 m 5 ls (.ref (ad (1, p0.toNatClampNeg)) :: [])) rfl ?_
    refine lv_astore_n (lv' := [(2, .ref (ad (1, p0.toNatClampNeg))), (0, .ref (ad (9, 0))), (1, .int p0)]) hx hb dX10_withdraw_5 rfl hl (by decide) rfl (fun ls hl => ?_)
    refine lv_aload_n hx hb dX10_withdraw_6 rfl (lv_at hl 0 rfl) ?_
    refine lv_ifnonnull (tgt := 12) hx hb dX10_withdraw_7 (by decide) ?_
    refine lv_aload_n hx hb dX10_withdraw_12 rfl (lv_at hl 0 rfl) ?_
    refine rg_get (D := (dC, dI)) (r := (1, p0.toNatClampNeg)) (ci := 1) (v := .int (M 35 p0.toNatClampNeg)) (C := RX1) (T := TX1) (N := 3) hx hb hts hin1 hown hK hP ((hrl _).mpr (vd_1 (ix_cn c1 (iv_32 hI).1))) en_1 rfl 2 (by decide) (hts (.fieldLink RX10 195 "SocietyBook$Candidate" "missing" "Z") (by decide +kernel)) (fun _ h9 => h9) rfl dX10_withdraw_13 ?_
    refine lv_if_eq (tgt := 25) hx hb dX10_withdraw_16 (by decide) (fun c2 => ?_) (fun c2 => ?_)
    · refine lv_aload_n hx hb dX10_withdraw_25 rfl (lv_at hl 0 rfl) ?_
      refine lv_iconst (v := 1) hx hb dX10_withdraw_26 (by decide) ?_
      refine rg_put (D := (dC, dI)) (r := (1, p0.toNatClampNeg)) (ci := 1) (v := .int 1) (ty := .boolean) (C := RX1) (T := TX1) (N := 3) hx hb hts hin1 tyX1 tyX1_ok nmX1 hown hK hP hD hS ((hrl _).mpr (vd_1 (ix_cn c1 (iv_32 hI).1))) en_1 rfl 2 (by decide) (hts (.fieldLink RX10 195 "SocietyBook$Candidate" "missing" "Z") (by decide +kernel)) (fun _ h9 => h9) rfl (by decide +kernel) rfl rfl (Nat.le_of_ble_eq_true rfl) dX10_withdraw_27 (fun H locs hP hD hS => ?_)
      replace hP : va_P (dC, dI) vwCl (rx_W rl ad (eC ad cy F (va_up M 35 (upd (M 35) p0.toNatClampNeg 1)) Y)) H := ec_mp (ec_1_2 ad cy F M Y p0.toNatClampNeg 1) hP
      replace hD : va_D A (rx_W rl ad (eC ad cy F (va_up M 35 (upd (M 35) p0.toNatClampNeg 1)) Y)) := rx_D hD
      refine lv_iconst (v := 1) hx hb dX10_withdraw_30 (by decide) ?_
      have E9 : s_X11_withdraw F M p0 = (1, (F, va_up M 35 (upd (M 35) p0.toNatClampNeg 1))) := by (have hn9 : s_X11_need F M 1 p0 = (0, (F, M)) := by unfold s_X11_need; rw [if_pos c1, if_neg (show ¬ (1 : Int32) = 0 by decide), if_pos c2]); unfold s_X11_withdraw; rw [hn9]; exact if_pos (show (0 : Int32) ≤ 0 by decide)
      exact W.iret (v := 1) hx hb hr (fun t ht hW => ⟨⟨1, Y, rfl, by rw [E9], by rw [E9]; exact ⟨⟨by rw [ht]; exact hP, va_K.moved hW.alike hK, nst_w hW hN⟩, hD⟩⟩, hS.F ht⟩) hS.2.2 dX10_withdraw_31
    · refine lv_aload_n hx hb dX10_withdraw_19 rfl (lv_at hl 1 rfl) ?_
      refine lv_iconst (v := 1) hx hb dX10_withdraw_20 (by decide) ?_
      refine va_calli (va_runV (As := [.int 1]) (rest := []) ⟨hx, hb, hml, hown, hts⟩ (c_X10_found l dC dI rl ad cy F M Y  1 hrl hI hJ A hD (ib_lit (by decide))) (cwV 1 hts gX10_withdraw_X10_found rfl rfl rfl (by decide +kernel) ⟨Nat.le_of_ble_eq_true rfl, Nat.le_of_ble_eq_true rfl⟩) ⟨pc_blind, rg_recv hK hP ((hrl _).mpr (vd_9 (by decide))) (ci := 9) rfl en_9, fun U hU hW => ⟨rfl, by rw [hU]; exact hP, va_K.moved hW.alike hK, nst_w hW hN⟩⟩ rfl rfl hl.1 rfl (lv_room (Nat.le_of_ble_eq_true rfl)) dX10_withdraw_21 ⟨Nat.zero_le _, Nat.zero_le _⟩) hS (fun q _ h => h) (fun q h => h) (fun r u t H1 locs ht hvm hw hB hz1 hk1 hS => ?_)
      subst hw
      obtain ⟨⟨hP, -, -⟩, hD⟩ := hB
      rw [ht] at hP
      clear hz1 hk1 ht hvm; generalize H1 = H at hP hS ⊢
      skip
      have E9 : s_X11_withdraw F M p0 = ((s_X11_meets F M 1).1, ((s_X11_meets F M 1).2.1, (s_X11_meets F M 1).2.2)) := by (have hn9 : s_X11_need F M 1 p0 = ((s_X11_meets F M 1).1, ((s_X11_meets F M 1).2.1, (s_X11_meets F M 1).2.2)) := by unfold s_X11_need; rw [if_pos c1, if_neg (show ¬ (1 : Int32) = 0 by decide), if_neg c2]); unfold s_X11_withdraw; rw [hn9]; exact if_neg (show ¬ (0 : Int32) ≤ -3 by decide)
      exact W.iret (v := (s_X11_meets F M 1).1) hx hb hr (fun t ht hW => ⟨⟨(s_X11_meets F M 1).1, u, rfl, by rw [E9], by rw [E9]; exact ⟨⟨by rw [ht]; exact hP, va_K.moved hW.alike hK, nst_w hW hN⟩, hD⟩⟩, hS.F ht⟩) hS.2.2 dX10_withdraw_24
  · rw [if_neg c1]
    refine W.eq (g2 := F0 m 5 ls (.null :: [])) rfl ?_
    refine lv_astore_nN (lv' := [(2, .null), (0, .ref (ad (9, 0))), (1, .int p0)]) hx hb dX10_withdraw_5 rfl hl (by decide) rfl (fun ls hl => ?_)
    refine lv_aload_nN hx hb dX10_withdraw_6 rfl (lv_at hl 0 rfl) ?_
    refine lv_ifnonnullN hx hb dX10_withdraw_7 ?_
    refine lv_iconst (v := (-1)) hx hb dX10_withdraw_10 (by decide) ?_
    have E9 : s_X11_withdraw F M p0 = ((-1), (F, M)) := by (have hn9 : s_X11_need F M 1 p0 = ((-1), (F, M)) := by unfold s_X11_need; rw [if_neg c1]); unfold s_X11_withdraw; rw [hn9]; exact if_neg (show ¬ (0 : Int32) ≤ -1 by decide)
    exact W.iret (v := (-1)) hx hb hr (fun t ht hW => ⟨⟨(-1), Y, rfl, by rw [E9], by rw [E9]; exact ⟨⟨by rw [ht]; exact hP, va_K.moved hW.alike hK, nst_w hW hN⟩, hD⟩⟩, hS.F ht⟩) hS.2.2 dX10_withdraw_11
