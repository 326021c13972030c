
theorem mm9 (w : Int32) : (if 0 < (if w < 9 then w else 9) then (if w < 9 then w else 9) else 0) = if 0 ≤ w then (if w ≤ 9 then w else 9) else 0 := by
  by_cases h1 : w < 9
  · rw [if_pos h1]
    by_cases h2 : 0 < w
    · rw [if_pos h2, if_pos (Int32.le_of_lt h2), if_pos (Int32.le_of_lt h1)]
    · rw [if_neg h2]
      by_cases h3 : 0 ≤ w
      · rw [if_pos h3, if_pos (Int32.le_of_lt h1)]
        exact Int32.le_antisymm h3 (Int32.not_lt.mp h2)
      · rw [if_neg h3]
  · rw [if_neg h1, if_pos (show (0 : Int32) < 9 by decide), if_pos (Int32.le_trans (show (0 : Int32) ≤ 9 by decide) (Int32.not_lt.mp h1))]
    by_cases h4 : w ≤ 9
    · rw [if_pos h4]; exact Int32.le_antisymm (Int32.not_lt.mp h1) h4
    · rw [if_neg h4]
theorem fl_eq {F : Nat → Int32} {M : Nat → Nat → Int32} {p0 p1 : Int32} (h0 : vp_in p0 6) (h1 : vp_in p1 4) : ∀ n, n ≤ 12 → L_fill F M p0 p1 n = L_take F M p1.toNatClampNeg p0 n := by
  intro n
  induction n with
  | zero => intro _; rfl
  | succ n ih =>
    intro hn
    rw [L_fill, L_take, ih (by omega), cl12n h0 (by omega) (by decide), cl12n h1 (by omega) (by decide), mm9]
    by_cases c1 : M 43 p1.toNatClampNeg ≤ nI n
    · rw [if_pos c1, if_pos c1]
    · rw [if_neg c1, if_neg c1]
      by_cases c2 : 0 ≤ M 44 (12 * p1.toNatClampNeg + n)
      · rw [if_pos c2, if_pos c2]
        by_cases c3 : M 44 (12 * p1.toNatClampNeg + n) ≤ 9
        · rw [if_pos c3, if_pos c3]
        · rw [if_neg c3, if_neg c3]
      · rw [if_neg c2, if_neg c2]
theorem td_eq {F : Nat → Int32} {M : Nat → Nat → Int32} {i k : Nat} (hI : iv F M) (hi : i < (F 7).toNatClampNeg) (hk : k < 7) : s_X11_told F M (nI i) (nI k) = s_X11_toldOf F M (nI i) (nI k) := by
  have h7 := iv_7 hI
  have hle : (F 7).toNatClampNeg ≤ 24 := lb_le h7 (by decide)
  have hc := lb_c h7.1
  unfold s_X11_told
  have c1 : 0 ≤ nI i ∧ nI i ≤ F 7 - 1 := by
    refine ⟨nI_pos' (by omega), ib_le.mpr ?_⟩
    rw [nI_toInt (by omega), ib_sub (by rw [ib_1]; omega) (by rw [ib_1]; omega), ib_1]
    omega
  have c2 : 0 ≤ nI k ∧ nI k ≤ 6 := by
    refine ⟨nI_pos' (by omega), ib_le.mpr ?_⟩
    have e6 : (6 : Int32).toInt = 6 := by decide
    rw [nI_toInt (by omega), e6]
    omega
  rw [if_pos c1, if_pos c2]
theorem cp_eq {F : Nat → Int32} {M : Nat → Nat → Int32} {i k : Nat} (hi : i < 6) (hk : k < 12) : s_X11_copies F M (nI i) (nI k) = M 42 (12 * i + k) := by
  unfold s_X11_copies
  have c1 : 0 ≤ nI i ∧ nI i ≤ 5 := by
    refine ⟨nI_pos' (by omega), ib_le.mpr ?_⟩
    have e6 : (5 : Int32).toInt = 5 := by decide
    rw [nI_toInt (by omega), e6]
    omega
  have c2 : 0 ≤ nI k ∧ nI k ≤ 11 := by
    refine ⟨nI_pos' (by omega), ib_le.mpr ?_⟩
    have e6 : (11 : Int32).toInt = 11 := by decide
    rw [nI_toInt (by omega), e6]
    omega
  rw [if_pos ⟨c1, c2⟩, cl12n (S := 6) (vp_in_nI hi (by decide)) hk (by decide), nI_clamp (by omega)]

set_option maxHeartbeats 4000000 in
set_option maxRecDepth 100000 in
theorem c_X10_fill (l : Launch) (dC : Nat → ClassId) (dI : Nat → Nat → Nat) (rl : List (Nat × Nat)) (ad : Nat × Nat → Nat) (cy : Nat → ClassId) (F : Nat → Int32) (M Y : Nat → Nat → Int32) (p0 : Int32) (p1 : Int32) (hrl : ∀ r, r ∈ rl ↔ vd F r) (hI : iv F M) (hJ : jv F M) (A : Nat → Prop) (hD : va_D A (rx_W rl ad (eC ad cy F M Y))) : Met l yX10_fill wsX10_fill ({ frames := 2, cells := 0, slots := 0, locals := 42 } : Room) (va_Pc [.ref (ad (9, 0)), .int p0, .int p1] (pC dC dI rl ad cy (eC ad cy F M Y))) (va_Qi (fun r (_ : Nat → Nat → Int32) => r = (s_X11_fill F M p0 p1).1) (qC A dC dI rl ad cy (s_X11_fill F M p0 p1).2.1 (s_X11_fill F M p0 p1).2.2) A) 0 0 A := by
  refine Met.ofW (cc := cX10_fill) (maxL := 3) (ret := (some .int)) (by decide) rfl ?_
  intro p e s m args below meth c s₁ B hml hv
  obtain ⟨rfl, hP, hK, hN⟩ := hv
  have hx := B.exec
  have hb := B.bytes
  have hr := B.returns
  have hts := atoms_spec (ws := wsX10_fill) B.pre
  have hown : s.vm.findClass RX10 = some m.cls := findClass_of_methodNamed B.named
  have hlocks := B.notSynchronized
  have hin10 : ∀ w ∈ wsX100, w ∈ wsX10_fill := by decide +kernel
  have hin8 : ∀ w ∈ wsX80, w ∈ wsX10_fill := by decide +kernel
  have hS : va_S A s.heap s.heap [] := va_S.rf
  have hl := lv_entry ([.ref (ad (9, 0)), .int p0, .int p1]) (n := 3) (Nat.le_of_ble_eq_true rfl)
  rw [lg_entry_eq]
  generalize (lg_sl ([.ref (ad (9, 0)), .int p0, .int p1]) ++ List.replicate (3 - (lg_sl ([.ref (ad (9, 0)), .int p0, .int p1])).length) Slot.unset).toArray = ls at hl ⊢
  have hl : lv_has ls 3 [(0, .ref (ad (9, 0))), (1, .int p0), (2, .int p1)] := hl
  refine lv_iload_n hx hb dX10_fill_0 rfl (lv_at hl 1 rfl) ?_
  refine lv_iconst (v := 0) hx hb dX10_fill_1 (by decide) ?_
  refine lv_iconst (v := 5) hx hb dX10_fill_2 (by decide) ?_
  refine vp_callSi (W.runS (As := [.int p0, .int 0, .int 5]) (rest := []) ⟨hx, hb, hml, hown, hts⟩ (c_X10_isWithin l p0 0 5) (va_cwS 3 hts gX10_fill_X10_isWithin rfl rfl rfl (by decide +kernel) ⟨Nat.le_of_ble_eq_true rfl, Nat.le_of_ble_eq_true rfl⟩) ⟨fun _ _ _ _ q => q, fun U hU hW => ⟨rfl, trivial⟩⟩ rfl rfl hl.1 rfl (lv_room (Nat.le_of_ble_eq_true rfl)) dX10_fill_3 ⟨Nat.zero_le _, Nat.zero_le _⟩) (fun r hr9 => ?_)
  subst hr9
  refine lv_if_eq (tgt := 16) hx hb dX10_fill_6 (by decide) (fun c1 => ?_) (fun c1 => ?_)
  · replace c1 := bo_f c1
    refine lv_iconst (v := (-1)) hx hb dX10_fill_16 (by decide) ?_
    have E9 : s_X11_fill F M p0 p1 = ((-1), (F, M)) := by unfold s_X11_fill; rw [if_neg c1]
    exact W.iret (v := (-1)) hx hb hr (fun t ht hW => ⟨⟨(-1), Y, rfl, by rw [E9], by rw [E9]; exact ⟨⟨by rw [ht]; exact hP, va_K.moved hW.alike hK, nst_w hW hN⟩, hD⟩⟩, hS.F ht⟩) hS.2.2 dX10_fill_17
  · replace c1 := bo_t c1
    refine lv_iload_n hx hb dX10_fill_9 rfl (lv_at hl 2 rfl) ?_
    refine vp_callSi (W.runS (As := [.int p1]) (rest := []) ⟨hx, hb, hml, hown, hts⟩ (c_X10_isSheet l p1) (va_cwS 1 hts gX10_fill_X10_isSheet rfl rfl rfl (by decide +kernel) ⟨Nat.le_of_ble_eq_true rfl, Nat.le_of_ble_eq_true rfl⟩) ⟨fun _ _ _ _ q => q, fun U hU hW => ⟨rfl, trivial⟩⟩ rfl rfl hl.1 rfl (lv_room (Nat.le_of_ble_eq_true rfl)) dX10_fill_10 ⟨Nat.zero_le _, Nat.zero_le _⟩) (fun r hr9 => ?_)
    subst hr9
    refine lv_if_ne (tgt := 18) hx hb dX10_fill_13 (by decide) (fun c2 => ?_) (fun c2 => ?_)
    · replace c2 := bo_t c2
      refine lv_aload_n hx hb dX10_fill_18 rfl (lv_at hl 0 rfl) ?_
      refine rg_get (D := (dC, dI)) (r := (9, 0)) (ci := 9) (v := .ref (ad (17, 0))) (C := RX10) (T := TX10) (N := 19) hx hb hts hin10 hown hK hP ((hrl _).mpr (vd_9 (by decide))) en_9 rfl 15 (by decide) (hts (.fieldLink RX10 54 "SocietyBook" "sheets" "[LSocietyBook$Sheet;") (by decide +kernel)) (fun _ h9 => h9) rfl dX10_fill_19 ?_
      refine lv_iload_n hx hb dX10_fill_22 rfl (lv_at hl 2 rfl) ?_
      refine rg_aldq (r := (17, 0)) (v := .ref (ad (7, p1.toNatClampNeg))) hx hb hK hP ((hrl _).mpr (vd_17 (by decide))) 9 en_17 rfl (ib_in c2 (by decide)) rfl dX10_fill_23 ?_
      refine rg_get (D := (dC, dI)) (r := (7, p1.toNatClampNeg)) (ci := 7) (v := .int (if M 43 p1.toNatClampNeg < 0 then (1 : Int32) else 0)) (C := RX8) (T := TX8) (N := 3) hx hb hts hin8 hown hK hP ((hrl _).mpr (vd_7 (ib_cl (ib_in c2 (by decide))).2)) en_7 rfl 0 (by decide) (hts (.fieldLink RX10 241 "SocietyBook$Sheet" "missing" "Z") (by decide +kernel)) (fun _ h9 => h9) rfl dX10_fill_24 ?_
      refine lv_if_eq (tgt := 36) hx hb dX10_fill_27 (by decide) (fun c3 => ?_) (fun c3 => ?_)
      · replace c3 := bo_f c3
        refine lv_aload_n hx hb dX10_fill_36 rfl (lv_at hl 0 rfl) ?_
        refine rg_get (D := (dC, dI)) (r := (9, 0)) (ci := 9) (v := .ref (ad (2, 0))) (C := RX10) (T := TX10) (N := 19) hx hb hts hin10 hown hK hP ((hrl _).mpr (vd_9 (by decide))) en_9 rfl 14 (by decide) (hts (.fieldLink RX10 48 "SocietyBook" "holdings" "LSocietyBook$Holdings;") (by decide +kernel)) (fun _ h9 => h9) rfl dX10_fill_37 ?_
        refine lv_iload_n hx hb dX10_fill_40 rfl (lv_at hl 1 rfl) ?_
        refine lv_aload_n hx hb dX10_fill_41 rfl (lv_at hl 0 rfl) ?_
        refine rg_get (D := (dC, dI)) (r := (9, 0)) (ci := 9) (v := .ref (ad (17, 0))) (C := RX10) (T := TX10) (N := 19) hx hb hts hin10 hown hK hP ((hrl _).mpr (vd_9 (by decide))) en_9 rfl 15 (by decide) (hts (.fieldLink RX10 54 "SocietyBook" "sheets" "[LSocietyBook$Sheet;") (by decide +kernel)) (fun _ h9 => h9) rfl dX10_fill_42 ?_
        refine lv_iload_n hx hb dX10_fill_45 rfl (lv_at hl 2 rfl) ?_
        refine rg_aldq (r := (17, 0)) (v := .ref (ad (7, p1.toNatClampNeg))) hx hb hK hP ((hrl _).mpr (vd_17 (by decide))) 9 en_17 rfl (ib_in c2 (by decide)) rfl dX10_fill_46 ?_
        refine va_calli (va_runV (As := [.int p0, .ref (ad (7, p1.toNatClampNeg))]) (rest := []) ⟨hx, hb, hml, hown, hts⟩ (c_X2_take l dC dI rl ad cy F M Y p1.toNatClampNeg p0 hrl hI hJ A hD (ib_in c1 (by decide)) (ib_cl (ib_in c2 (by decide))).2 c3) (cwV 2 hts gX10_fill_X2_take rfl rfl rfl (by decide +kernel) ⟨Nat.le_of_ble_eq_true rfl, Nat.le_of_ble_eq_true rfl⟩) ⟨pc_blind, rg_recv hK hP ((hrl _).mpr (vd_2 (by decide))) (ci := 2) rfl en_2, fun U hU hW => ⟨rfl, by rw [hU]; exact hP, va_K.moved hW.alike hK, nst_w hW hN⟩⟩ rfl rfl hl.1 rfl (lv_room (Nat.le_of_ble_eq_true rfl)) dX10_fill_47 ⟨Nat.zero_le _, Nat.zero_le _⟩) hS (fun q _ h => h) (fun q h => h) (fun r u t H1 locs ht hvm hw hB hz1 hk1 hS => ?_)
        subst hw
        obtain ⟨⟨hP, -, -⟩, hD⟩ := hB
        rw [ht] at hP
        clear hz1 hk1 ht hvm; generalize H1 = H at hP hS ⊢
        replace hP : va_P (dC, dI) vwCl (rx_W rl ad (eC ad cy F (va_up M 42 ((L_take F M p1.toNatClampNeg p0 12).2)) u)) H := hP
        replace hD : va_D A (rx_W rl ad (eC ad cy F (va_up M 42 ((L_take F M p1.toNatClampNeg p0 12).2)) u)) := hD
        have E9 : s_X11_fill F M p0 p1 = ((L_take F M p1.toNatClampNeg p0 12).1, (F, va_up M 42 ((L_take F M p1.toNatClampNeg p0 12).2))) := by unfold s_X11_fill; rw [if_pos c1]; rw [if_pos c2]; rw [if_pos (Int32.not_lt.mp c3)]; rw [fl_eq (ib_in c1 (by decide)) (ib_in c2 (by decide)) 12 (by decide)]
        exact W.iret (v := (L_take F M p1.toNatClampNeg p0 12).1) hx hb hr (fun t ht hW => ⟨⟨(L_take F M p1.toNatClampNeg p0 12).1, u, rfl, by rw [E9], by rw [E9]; exact ⟨⟨by rw [ht]; exact hP, va_K.moved hW.alike hK, nst_w hW hN⟩, hD⟩⟩, hS.F ht⟩) hS.2.2 dX10_fill_50
      · replace c3 := bo_t c3
        refine lv_aload_n hx hb dX10_fill_30 rfl (lv_at hl 0 rfl) ?_
        refine lv_iconst (v := 1) hx hb dX10_fill_31 (by decide) ?_
        refine va_calli (va_runV (As := [.int 1]) (rest := []) ⟨hx, hb, hml, hown, hts⟩ (c_X10_found l dC dI rl ad cy F M Y  1 hrl hI hJ A hD (ib_lit (by decide))) (cwV 1 hts gX10_fill_X10_found rfl rfl rfl (by decide +kernel) ⟨Nat.le_of_ble_eq_true rfl, Nat.le_of_ble_eq_true rfl⟩) ⟨pc_blind, rg_recv hK hP ((hrl _).mpr (vd_9 (by decide))) (ci := 9) rfl en_9, fun U hU hW => ⟨rfl, by rw [hU]; exact hP, va_K.moved hW.alike hK, nst_w hW hN⟩⟩ rfl rfl hl.1 rfl (lv_room (Nat.le_of_ble_eq_true rfl)) dX10_fill_32 ⟨Nat.zero_le _, Nat.zero_le _⟩) hS (fun q _ h => h) (fun q h => h) (fun r u t H1 locs ht hvm hw hB hz1 hk1 hS => ?_)
        subst hw
        obtain ⟨⟨hP, -, -⟩, hD⟩ := hB
        rw [ht] at hP
        clear hz1 hk1 ht hvm; generalize H1 = H at hP hS ⊢
        skip
        have E9 : s_X11_fill F M p0 p1 = ((s_X11_meets F M 1).1, ((s_X11_meets F M 1).2.1, (s_X11_meets F M 1).2.2)) := by unfold s_X11_fill; rw [if_pos c1]; rw [if_pos c2]; rw [if_neg (Int32.not_le.mpr c3)]
        exact W.iret (v := (s_X11_meets F M 1).1) hx hb hr (fun t ht hW => ⟨⟨(s_X11_meets F M 1).1, u, rfl, by rw [E9], by rw [E9]; exact ⟨⟨by rw [ht]; exact hP, va_K.moved hW.alike hK, nst_w hW hN⟩, hD⟩⟩, hS.F ht⟩) hS.2.2 dX10_fill_35
    · replace c2 := bo_f c2
      refine lv_iconst (v := (-1)) hx hb dX10_fill_16 (by decide) ?_
      have E9 : s_X11_fill F M p0 p1 = ((-1), (F, M)) := by unfold s_X11_fill; rw [if_pos c1]; rw [if_neg c2]
      exact W.iret (v := (-1)) hx hb hr (fun t ht hW => ⟨⟨(-1), Y, rfl, by rw [E9], by rw [E9]; exact ⟨⟨by rw [ht]; exact hP, va_K.moved hW.alike hK, nst_w hW hN⟩, hD⟩⟩, hS.F ht⟩) hS.2.2 dX10_fill_17

set_option maxHeartbeats 4000000 in
set_option maxRecDepth 100000 in
theorem c_X10_mixed (l : Launch) (p0 : Int64) (p1 : Int32) : Met l yX10_mixed wsX10_mixed ({ frames := 0, cells := 0, slots := 0, locals := 0 } : Room) (va_Pc [.long p0, .int p1] (fun _ => True)) (vp_Sl (fun r => r = ((31) * p0) + (p1.toInt64))) 0 0 (fun _ => False) := by
  refine Met.ofW (cc := cX10_mixed) (maxL := 3) (ret := (some .long)) (by decide) rfl ?_
  intro p e s m args below meth c s₁ B hml hv
  obtain ⟨rfl, -⟩ := hv
  have hx := B.exec
  have hb := B.bytes
  have hr := B.returns
  have hts := atoms_spec (ws := wsX10_mixed) B.pre
  have hown : s.vm.findClass RX10 = some m.cls := findClass_of_methodNamed B.named
  have hlocks := B.notSynchronized
  have hl := lv_entry ([.long p0, .int p1]) (n := 3) (Nat.le_of_ble_eq_true rfl)
  rw [lg_entry_eq]
  generalize (lg_sl ([.long p0, .int p1]) ++ List.replicate (3 - (lg_sl ([.long p0, .int p1])).length) Slot.unset).toArray = ls at hl ⊢
  have hl : lv_has ls 3 [(0, .long p0), (2, .int p1)] := hl
  refine lv_ldc2 (v := (31)) hx hb hown (hts (.constantLong RX10 310 (31)) (by decide +kernel)) dX10_mixed_0 ?_
  refine lv_lload_n hx hb dX10_mixed_3 rfl (lv_at hl 0 rfl) ?_
  refine lv_lmul hx hb dX10_mixed_4 ?_
  refine lv_iload_n hx hb dX10_mixed_5 rfl (lv_at hl 1 rfl) ?_
  refine lv_i2l hx hb dX10_mixed_6 (v := p1.toInt64) rfl ?_
  refine lv_ladd hx hb dX10_mixed_7 ?_
  exact W.lret (v := ((31) * p0) + p1.toInt64) hx hb hr (fun t ht hW => ⟨((31) * p0) + p1.toInt64, rfl, by rfl, ht⟩) (fun _ h => by cases h) dX10_mixed_8

set_option maxHeartbeats 4000000 in
set_option maxRecDepth 100000 in
theorem c_X10_withPapers (l : Launch) (dC : Nat → ClassId) (dI : Nat → Nat → Nat) (rl : List (Nat × Nat)) (ad : Nat × Nat → Nat) (cy : Nat → ClassId) (F : Nat → Int32) (M Y : Nat → Nat → Int32)  (hrl : ∀ r, r ∈ rl ↔ vd F r) (hI : iv F M) (hJ : jv F M) : Met l yX10_withPapers wsX10_withPapers ({ frames := 3, cells := 0, slots := 0, locals := 66 } : Room) (va_Pc [.ref (ad (9, 0)), .long (L_dig1 F M 8)] (pC dC dI rl ad cy (eC ad cy F M Y))) (vp_Sl (fun r => r = L_dig2 F M (F 7).toNatClampNeg)) 0 0 (fun _ => False) := by
  refine Met.ofW (cc := cX10_withPapers) (maxL := 7) (ret := (some .long)) (by decide) rfl ?_
  intro p e s m args below meth c s₁ B hml hv
  obtain ⟨rfl, hP, hK, hN⟩ := hv
  have hx := B.exec
  have hb := B.bytes
  have hr := B.returns
  have hts := atoms_spec (ws := wsX10_withPapers) B.pre
  have hown : s.vm.findClass RX10 = some m.cls := findClass_of_methodNamed B.named
  have hlocks := B.notSynchronized
  have hin10 : ∀ w ∈ wsX100, w ∈ wsX10_withPapers := by decide +kernel
  have hl := lv_entry ([.ref (ad (9, 0)), .long (L_dig1 F M 8)]) (n := 7) (Nat.le_of_ble_eq_true rfl)
  rw [lg_entry_eq]
  generalize (lg_sl ([.ref (ad (9, 0)), .long (L_dig1 F M 8)]) ++ List.replicate (7 - (lg_sl ([.ref (ad (9, 0)), .long (L_dig1 F M 8)])).length) Slot.unset).toArray = ls at hl ⊢
  have hl : lv_has ls 7 [(0, .ref (ad (9, 0))), (1, .long (L_dig1 F M 8))] := hl
  have hn7 : (F 7).toNatClampNeg ≤ 24 := lb_le (iv_7 hI) (by decide)
  refine lv_lload_n hx hb dX10_withPapers_0 rfl (lv_at hl 1 rfl) ?_
  refine lv_lstore_n (lv' := [(3, .long (L_dig1 F M 8)), (0, .ref (ad (9, 0))), (1, .long (L_dig1 F M 8))]) hx hb dX10_withPapers_1 rfl hl (by decide) rfl (fun ls hl => ?_)
  refine lv_iconst (v := 0) hx hb dX10_withPapers_2 (by decide) ?_
  refine lv_istore (lv' := [(5, .int 0), (3, .long (L_dig1 F M 8)), (0, .ref (ad (9, 0))), (1, .long (L_dig1 F M 8))]) hx hb dX10_withPapers_3 hl (by decide) rfl (fun ls hl => ?_)
  refine lp_for (N := (F 7).toNatClampNeg) (lv := fun i1 => [(5, .int (nI i1)), (3, .long (L_dig2 F M i1)), (0, .ref (ad (9, 0))), (1, .long (L_dig1 F M 8))]) (lv_sub hl [0, 1, 2, 3] rfl) (fun i1 hi1 ls hl kk1 => ?_) (fun ls hl => ?_)
  · replace hl : lv_has ls 7 [(5, .int (nI i1)), (3, .long (L_dig2 F M i1)), (0, .ref (ad (9, 0))), (1, .long (L_dig1 F M 8))] := hl
    refine lv_iload hx hb dX10_withPapers_5 (lv_at hl 0 rfl) ?_
    refine lv_aload_n hx hb dX10_withPapers_7 rfl (lv_at hl 2 rfl) ?_
    refine rg_get (D := (dC, dI)) (r := (9, 0)) (ci := 9) (v := .int (F 7)) (C := RX10) (T := TX10) (N := 19) hx hb hts hin10 hown hK hP ((hrl _).mpr (vd_9 (by decide))) en_9 rfl 4 (by decide) (hts (.fieldLink RX10 91 "SocietyBook" "paperCount" "I") (by decide +kernel)) (fun _ h9 => h9) rfl dX10_withPapers_8 ?_
    refine lv_icmp_ge (tgt := 49) hx hb dX10_withPapers_11 (by decide) (fun c => absurd c (lb_nc hi1)) (fun _ => ?_)
    refine lv_iconst (v := 0) hx hb dX10_withPapers_14 (by decide) ?_
    refine lv_istore (lv' := [(6, .int 0), (5, .int (nI i1)), (3, .long (L_dig2 F M i1)), (0, .ref (ad (9, 0))), (1, .long (L_dig1 F M 8))]) hx hb dX10_withPapers_15 hl (by decide) rfl (fun ls hl => ?_)
    refine lp_for (N := 7) (lv := fun i2 => [(6, .int (nI i2)), (5, .int (nI i1)), (3, .long (L_dig3 F M i1 (L_dig2 F M i1) i2)), (0, .ref (ad (9, 0))), (1, .long (L_dig1 F M 8))]) (lv_sub hl [0, 1, 2, 3, 4] rfl) (fun i2 hi2 ls hl kk2 => ?_) (fun ls hl => ?_)
    · replace hl : lv_has ls 7 [(6, .int (nI i2)), (5, .int (nI i1)), (3, .long (L_dig3 F M i1 (L_dig2 F M i1) i2)), (0, .ref (ad (9, 0))), (1, .long (L_dig1 F M 8))] := hl
      refine lv_iload hx hb dX10_withPapers_17 (lv_at hl 0 rfl) ?_
      refine lv_bipush (v := 7) hx hb dX10_withPapers_19 (by decide) ?_
      refine lv_icmp_ge (tgt := 43) hx hb dX10_withPapers_21 (by decide) (fun c => absurd c (lb_n (by decide) hi2)) (fun _ => ?_)
      refine lv_lload_n hx hb dX10_withPapers_24 rfl (lv_at hl 2 rfl) ?_
      refine lv_aload_n hx hb dX10_withPapers_25 rfl (lv_at hl 3 rfl) ?_
      refine lv_iload hx hb dX10_withPapers_26 (lv_at hl 1 rfl) ?_
      refine lv_iload hx hb dX10_withPapers_28 (lv_at hl 0 rfl) ?_
      refine vp_callSi (W.runV (As := [.int (nI i1), .int (nI i2)]) (rest := [.long (L_dig3 F M i1 (L_dig2 F M i1) i2)]) ⟨hx, hb, hml, hown, hts⟩ (c_X10_told l dC dI rl ad cy F M Y  (nI i1) (nI i2) hrl hI hJ ) (cwV 2 hts gX10_withPapers_X10_told rfl rfl rfl (by decide +kernel) ⟨Nat.le_of_ble_eq_true rfl, Nat.le_of_ble_eq_true rfl⟩) ⟨pc_blind, rg_recv hK hP ((hrl _).mpr (vd_9 (by decide))) (ci := 9) rfl en_9, fun U hU hW => ⟨rfl, by rw [hU]; exact hP, va_K.moved hW.alike hK, nst_w hW hN⟩⟩ rfl rfl hl.1 rfl (lv_room (Nat.le_of_ble_eq_true rfl)) dX10_withPapers_30 ⟨Nat.zero_le _, Nat.zero_le _⟩) (fun r hr9 => ?_)
      subst hr9
      rw [td_eq hI hi1 hi2]
      refine vp_callSl (W.runS (As := [.long (L_dig3 F M i1 (L_dig2 F M i1) i2), .int (s_X11_toldOf F M (nI i1) (nI i2))]) (rest := []) ⟨hx, hb, hml, hown, hts⟩ (c_X10_mixed l (L_dig3 F M i1 (L_dig2 F M i1) i2) (s_X11_toldOf F M (nI i1) (nI i2))) (va_cwS 2 hts gX10_withPapers_X10_mixed rfl rfl rfl (by decide +kernel) ⟨Nat.le_of_ble_eq_true rfl, Nat.le_of_ble_eq_true rfl⟩) ⟨fun _ _ _ _ q => q, fun U hU hW => ⟨rfl, trivial⟩⟩ rfl rfl hl.1 rfl (lv_room (Nat.le_of_ble_eq_true rfl)) dX10_withPapers_33 ⟨Nat.zero_le _, Nat.zero_le _⟩) (fun r hr9 => ?_)
      subst hr9
      refine lv_lstore_n (lv' := [(3, .long (((31) * (L_dig3 F M i1 (L_dig2 F M i1) i2)) + ((s_X11_toldOf F M (nI i1) (nI i2)).toInt64))), (6, .int (nI i2)), (5, .int (nI i1)), (0, .ref (ad (9, 0))), (1, .long (L_dig1 F M 8))]) hx hb dX10_withPapers_36 rfl hl (by decide) rfl (fun ls hl => ?_)
      refine lv_iinc (v := nI (i2 + 1)) (lv' := [(6, .int (nI (i2 + 1))), (3, .long (((31) * (L_dig3 F M i1 (L_dig2 F M i1) i2)) + ((s_X11_toldOf F M (nI i1) (nI i2)).toInt64))), (5, .int (nI i1)), (0, .ref (ad (9, 0))), (1, .long (L_dig1 F M 8))]) hx hb dX10_withPapers_37 hl (k := 1) rfl (nI_1 i2) (by decide) rfl (fun ls hl => ?_)
      refine lv_goto (tgt := 17) hx hb dX10_withPapers_40 (by decide) ?_
      have e9 : L_dig3 F M i1 (L_dig2 F M i1) (i2 + 1) = ((31) * (L_dig3 F M i1 (L_dig2 F M i1) i2)) + ((s_X11_toldOf F M (nI i1) (nI i2)).toInt64) := by rw [L_dig3]
      refine kk2 ls (show lv_has ls 7 [(6, .int (nI (i2 + 1))), (5, .int (nI i1)), (3, .long (L_dig3 F M i1 (L_dig2 F M i1) (i2 + 1))), (0, .ref (ad (9, 0))), (1, .long (L_dig1 F M 8))] from ?_)
      rw [e9]; exact lv_sub hl [0, 2, 1, 3, 4] rfl
    · replace hl : lv_has ls 7 [(6, .int (nI 7)), (5, .int (nI i1)), (3, .long (L_dig3 F M i1 (L_dig2 F M i1) 7)), (0, .ref (ad (9, 0))), (1, .long (L_dig1 F M 8))] := hl
      refine lv_iload hx hb dX10_withPapers_17 (lv_at hl 0 rfl) ?_
      refine lv_bipush (v := 7) hx hb dX10_withPapers_19 (by decide) ?_
      refine lv_icmp_ge (tgt := 43) hx hb dX10_withPapers_21 (by decide) (fun _ => ?_) (fun c => absurd (lb_y (by decide)) c)
      refine lv_iinc (v := nI (i1 + 1)) (lv' := [(5, .int (nI (i1 + 1))), (6, .int (nI 7)), (3, .long (L_dig3 F M i1 (L_dig2 F M i1) 7)), (0, .ref (ad (9, 0))), (1, .long (L_dig1 F M 8))]) hx hb dX10_withPapers_43 hl (k := 1) rfl (nI_1 i1) (by decide) rfl (fun ls hl => ?_)
      refine lv_goto (tgt := 5) hx hb dX10_withPapers_46 (by decide) ?_
      have e9 : L_dig2 F M (i1 + 1) = (L_dig3 F M i1 (L_dig2 F M i1) 7) := by rw [L_dig2]
      refine kk1 ls (show lv_has ls 7 [(5, .int (nI (i1 + 1))), (3, .long (L_dig2 F M (i1 + 1))), (0, .ref (ad (9, 0))), (1, .long (L_dig1 F M 8))] from ?_)
      rw [e9]; exact lv_sub hl [0, 2, 3, 4] rfl
  · replace hl : lv_has ls 7 [(5, .int (nI (F 7).toNatClampNeg)), (3, .long (L_dig2 F M (F 7).toNatClampNeg)), (0, .ref (ad (9, 0))), (1, .long (L_dig1 F M 8))] := hl
    refine lv_iload hx hb dX10_withPapers_5 (lv_at hl 0 rfl) ?_
    refine lv_aload_n hx hb dX10_withPapers_7 rfl (lv_at hl 2 rfl) ?_
    refine rg_get (D := (dC, dI)) (r := (9, 0)) (ci := 9) (v := .int (F 7)) (C := RX10) (T := TX10) (N := 19) hx hb hts hin10 hown hK hP ((hrl _).mpr (vd_9 (by decide))) en_9 rfl 4 (by decide) (hts (.fieldLink RX10 91 "SocietyBook" "paperCount" "I") (by decide +kernel)) (fun _ h9 => h9) rfl dX10_withPapers_8 ?_
    refine lv_icmp_ge (tgt := 49) hx hb dX10_withPapers_11 (by decide) (fun _ => ?_) (fun c => absurd lb_yc c)
    refine lv_lload_n hx hb dX10_withPapers_49 rfl (lv_at hl 1 rfl) ?_
    exact W.lret (v := (L_dig2 F M (F 7).toNatClampNeg)) hx hb hr (fun t ht hW => ⟨(L_dig2 F M (F 7).toNatClampNeg), rfl, by rfl, ht⟩) (fun _ h => by cases h) dX10_withPapers_50

def L_wh3 (F : Nat → Int32) (M : Nat → Nat → Int32) (p0 : Int64) (i1 : Nat) (z0 : Int64) : Nat → Int64
  | 0 => z0
  | i2 + 1 =>
    ((31) * (L_wh3 F M p0 i1 z0 i2)) + ((M 42 (12 * i1 + i2)).toInt64)
def L_wh2 (F : Nat → Int32) (M : Nat → Nat → Int32) (p0 : Int64) : Nat → Int64
  | 0 => p0
  | i1 + 1 =>
    (L_wh3 F M p0 i1 (L_wh2 F M p0 i1) 12)
set_option maxHeartbeats 4000000 in
set_option maxRecDepth 100000 in
theorem c_X10_withHoldings (l : Launch) (dC : Nat → ClassId) (dI : Nat → Nat → Nat) (rl : List (Nat × Nat)) (ad : Nat × Nat → Nat) (cy : Nat → ClassId) (F : Nat → Int32) (M Y : Nat → Nat → Int32) (p0 : Int64) (hrl : ∀ r, r ∈ rl ↔ vd F r) (hI : iv F M) (hJ : jv F M) : Met l yX10_withHoldings wsX10_withHoldings ({ frames := 3, cells := 0, slots := 0, locals := 65 } : Room) (va_Pc [.ref (ad (9, 0)), .long p0] (pC dC dI rl ad cy (eC ad cy F M Y))) (vp_Sl (fun r => r = L_wh2 F M p0 6)) 0 0 (fun _ => False) := by
  refine Met.ofW (cc := cX10_withHoldings) (maxL := 7) (ret := (some .long)) (by decide) rfl ?_
  intro p e s m args below meth c s₁ B hml hv
  obtain ⟨rfl, hP, hK, hN⟩ := hv
  have hx := B.exec
  have hb := B.bytes
  have hr := B.returns
  have hts := atoms_spec (ws := wsX10_withHoldings) B.pre
  have hown : s.vm.findClass RX10 = some m.cls := findClass_of_methodNamed B.named
  have hlocks := B.notSynchronized
  have hl := lv_entry ([.ref (ad (9, 0)), .long p0]) (n := 7) (Nat.le_of_ble_eq_true rfl)
  rw [lg_entry_eq]
  generalize (lg_sl ([.ref (ad (9, 0)), .long p0]) ++ List.replicate (7 - (lg_sl ([.ref (ad (9, 0)), .long p0])).length) Slot.unset).toArray = ls at hl ⊢
  have hl : lv_has ls 7 [(0, .ref (ad (9, 0))), (1, .long p0)] := hl
  refine lv_lload_n hx hb dX10_withHoldings_0 rfl (lv_at hl 1 rfl) ?_
  refine lv_lstore_n (lv' := [(3, .long p0), (0, .ref (ad (9, 0))), (1, .long p0)]) hx hb dX10_withHoldings_1 rfl hl (by decide) rfl (fun ls hl => ?_)
  refine lv_iconst (v := 0) hx hb dX10_withHoldings_2 (by decide) ?_
  refine lv_istore (lv' := [(5, .int 0), (3, .long p0), (0, .ref (ad (9, 0))), (1, .long p0)]) hx hb dX10_withHoldings_3 hl (by decide) rfl (fun ls hl => ?_)
  refine lp_for (N := 6) (lv := fun i1 => [(5, .int (nI i1)), (3, .long (L_wh2 F M p0 i1)), (0, .ref (ad (9, 0))), (1, .long p0)]) (lv_sub hl [0, 1, 2, 3] rfl) (fun i1 hi1 ls hl kk1 => ?_) (fun ls hl => ?_)
  · replace hl : lv_has ls 7 [(5, .int (nI i1)), (3, .long (L_wh2 F M p0 i1)), (0, .ref (ad (9, 0))), (1, .long p0)] := hl
    refine lv_iload hx hb dX10_withHoldings_5 (lv_at hl 0 rfl) ?_
    refine lv_bipush (v := 6) hx hb dX10_withHoldings_7 (by decide) ?_
    refine lv_icmp_ge (tgt := 47) hx hb dX10_withHoldings_9 (by decide) (fun c => absurd c (lb_n (by decide) hi1)) (fun _ => ?_)
    refine lv_iconst (v := 0) hx hb dX10_withHoldings_12 (by decide) ?_
    refine lv_istore (lv' := [(6, .int 0), (5, .int (nI i1)), (3, .long (L_wh2 F M p0 i1)), (0, .ref (ad (9, 0))), (1, .long p0)]) hx hb dX10_withHoldings_13 hl (by decide) rfl (fun ls hl => ?_)
    refine lp_for (N := 12) (lv := fun i2 => [(6, .int (nI i2)), (5, .int (nI i1)), (3, .long (L_wh3 F M p0 i1 (L_wh2 F M p0 i1) i2)), (0, .ref (ad (9, 0))), (1, .long p0)]) (lv_sub hl [0, 1, 2, 3, 4] rfl) (fun i2 hi2 ls hl kk2 => ?_) (fun ls hl => ?_)
    · replace hl : lv_has ls 7 [(6, .int (nI i2)), (5, .int (nI i1)), (3, .long (L_wh3 F M p0 i1 (L_wh2 F M p0 i1) i2)), (0, .ref (ad (9, 0))), (1, .long p0)] := hl
      refine lv_iload hx hb dX10_withHoldings_15 (lv_at hl 0 rfl) ?_
      refine lv_bipush (v := 12) hx hb dX10_withHoldings_17 (by decide) ?_
      refine lv_icmp_ge (tgt := 41) hx hb dX10_withHoldings_19 (by decide) (fun c => absurd c (lb_n (by decide) hi2)) (fun _ => ?_)
      refine lv_lload_n hx hb dX10_withHoldings_22 rfl (lv_at hl 2 rfl) ?_
      refine lv_aload_n hx hb dX10_withHoldings_23 rfl (lv_at hl 3 rfl) ?_
      refine lv_iload hx hb dX10_withHoldings_24 (lv_at hl 1 rfl) ?_
      refine lv_iload hx hb dX10_withHoldings_26 (lv_at hl 0 rfl) ?_
      refine vp_callSi (W.runV (As := [.int (nI i1), .int (nI i2)]) (rest := [.long (L_wh3 F M p0 i1 (L_wh2 F M p0 i1) i2)]) ⟨hx, hb, hml, hown, hts⟩ (c_X10_copies l dC dI rl ad cy F M Y  (nI i1) (nI i2) hrl hI hJ ) (cwV 2 hts gX10_withHoldings_X10_copies rfl rfl rfl (by decide +kernel) ⟨Nat.le_of_ble_eq_true rfl, Nat.le_of_ble_eq_true rfl⟩) ⟨pc_blind, rg_recv hK hP ((hrl _).mpr (vd_9 (by decide))) (ci := 9) rfl en_9, fun U hU hW => ⟨rfl, by rw [hU]; exact hP, va_K.moved hW.alike hK, nst_w hW hN⟩⟩ rfl rfl hl.1 rfl (lv_room (Nat.le_of_ble_eq_true rfl)) dX10_withHoldings_28 ⟨Nat.zero_le _, Nat.zero_le _⟩) (fun r hr9 => ?_)
      subst hr9
      rw [cp_eq hi1 hi2]
      refine vp_callSl (W.runS (As := [.long (L_wh3 F M p0 i1 (L_wh2 F M p0 i1) i2), .int (M 42 (12 * i1 + i2))]) (rest := []) ⟨hx, hb, hml, hown, hts⟩ (c_X10_mixed l (L_wh3 F M p0 i1 (L_wh2 F M p0 i1) i2) (M 42 (12 * i1 + i2))) (va_cwS 2 hts gX10_withHoldings_X10_mixed rfl rfl rfl (by decide +kernel) ⟨Nat.le_of_ble_eq_true rfl, Nat.le_of_ble_eq_true rfl⟩) ⟨fun _ _ _ _ q => q, fun U hU hW => ⟨rfl, trivial⟩⟩ rfl rfl hl.1 rfl (lv_room (Nat.le_of_ble_eq_true rfl)) dX10_withHoldings_31 ⟨Nat.zero_le _, Nat.zero_le _⟩) (fun r hr9 => ?_)
      subst hr9
      refine lv_lstore_n (lv' := [(3, .long (((31) * (L_wh3 F M p0 i1 (L_wh2 F M p0 i1) i2)) + ((M 42 (12 * i1 + i2)).toInt64))), (6, .int (nI i2)), (5, .int (nI i1)), (0, .ref (ad (9, 0))), (1, .long p0)]) hx hb dX10_withHoldings_34 rfl hl (by decide) rfl (fun ls hl => ?_)
      refine lv_iinc (v := nI (i2 + 1)) (lv' := [(6, .int (nI (i2 + 1))), (3, .long (((31) * (L_wh3 F M p0 i1 (L_wh2 F M p0 i1) i2)) + ((M 42 (12 * i1 + i2)).toInt64))), (5, .int (nI i1)), (0, .ref (ad (9, 0))), (1, .long p0)]) hx hb dX10_withHoldings_35 hl (k := 1) rfl (nI_1 i2) (by decide) rfl (fun ls hl => ?_)
      refine lv_goto (tgt := 15) hx hb dX10_withHoldings_38 (by decide) ?_
      have e9 : L_wh3 F M p0 i1 (L_wh2 F M p0 i1) (i2 + 1) = ((31) * (L_wh3 F M p0 i1 (L_wh2 F M p0 i1) i2)) + ((M 42 (12 * i1 + i2)).toInt64) := by rw [L_wh3]
      refine kk2 ls (show lv_has ls 7 [(6, .int (nI (i2 + 1))), (5, .int (nI i1)), (3, .long (L_wh3 F M p0 i1 (L_wh2 F M p0 i1) (i2 + 1))), (0, .ref (ad (9, 0))), (1, .long p0)] from ?_)
      rw [e9]; exact lv_sub hl [0, 2, 1, 3, 4] rfl
    · replace hl : lv_has ls 7 [(6, .int (nI 12)), (5, .int (nI i1)), (3, .long (L_wh3 F M p0 i1 (L_wh2 F M p0 i1) 12)), (0, .ref (ad (9, 0))), (1, .long p0)] := hl
      refine lv_iload hx hb dX10_withHoldings_15 (lv_at hl 0 rfl) ?_
      refine lv_bipush (v := 12) hx hb dX10_withHoldings_17 (by decide) ?_
      refine lv_icmp_ge (tgt := 41) hx hb dX10_withHoldings_19 (by decide) (fun _ => ?_) (fun c => absurd (lb_y (by decide)) c)
      refine lv_iinc (v := nI (i1 + 1)) (lv' := [(5, .int (nI (i1 + 1))), (6, .int (nI 12)), (3, .long (L_wh3 F M p0 i1 (L_wh2 F M p0 i1) 12)), (0, .ref (ad (9, 0))), (1, .long p0)]) hx hb dX10_withHoldings_41 hl (k := 1) rfl (nI_1 i1) (by decide) rfl (fun ls hl => ?_)
      refine lv_goto (tgt := 5) hx hb dX10_withHoldings_44 (by decide) ?_
      have e9 : L_wh2 F M p0 (i1 + 1) = (L_wh3 F M p0 i1 (L_wh2 F M p0 i1) 12) := by rw [L_wh2]
      refine kk1 ls (show lv_has ls 7 [(5, .int (nI (i1 + 1))), (3, .long (L_wh2 F M p0 (i1 + 1))), (0, .ref (ad (9, 0))), (1, .long p0)] from ?_)
      rw [e9]; exact lv_sub hl [0, 2, 3, 4] rfl
  · replace hl : lv_has ls 7 [(5, .int (nI 6)), (3, .long (L_wh2 F M p0 6)), (0, .ref (ad (9, 0))), (1, .long p0)] := hl
    refine lv_iload hx hb dX10_withHoldings_5 (lv_at hl 0 rfl) ?_
    refine lv_bipush (v := 6) hx hb dX10_withHoldings_7 (by decide) ?_
    refine lv_icmp_ge (tgt := 47) hx hb dX10_withHoldings_9 (by decide) (fun _ => ?_) (fun c => absurd (lb_y (by decide)) c)
    refine lv_lload_n hx hb dX10_withHoldings_47 rfl (lv_at hl 1 rfl) ?_
    exact W.lret (v := (L_wh2 F M p0 6)) hx hb hr (fun t ht hW => ⟨(L_wh2 F M p0 6), rfl, by rfl, ht⟩) (fun _ h => by cases h) dX10_withHoldings_48

def L_mi (F : Nat → Int32) (M : Nat → Nat → Int32) (j : Nat) (p0 : Int64) : Nat → Int64
  | 0 => ((31) * p0) + ((M 43 j).toInt64)
  | i1 + 1 =>
    ((31) * (L_mi F M j p0 i1)) + (((M 44) (12 * j + i1)).toInt64)
set_option maxHeartbeats 4000000 in
set_option maxRecDepth 100000 in
theorem c_X8_mixedInto (l : Launch) (dC : Nat → ClassId) (dI : Nat → Nat → Nat) (rl : List (Nat × Nat)) (ad : Nat × Nat → Nat) (cy : Nat → ClassId) (F : Nat → Int32) (M Y : Nat → Nat → Int32) (j : Nat) (p0 : Int64) (hrl : ∀ r, r ∈ rl ↔ vd F r) (hI : iv F M) (hJ : jv F M) (hj : j < 4) : Met l yX8_mixedInto wsX8_mixedInto ({ frames := 1, cells := 0, slots := 0, locals := 22 } : Room) (va_Pc [.ref (ad (7, j)), .long p0] (pC dC dI rl ad cy (eC ad cy F M Y))) (vp_Sl (fun r => r = if (M 43 j) < 0 then ((31) * p0) + ((-1 : Int32).toInt64) else L_mi F M j p0 (M 43 j).toNatClampNeg)) 0 0 (fun _ => False) := by
  refine Met.ofW (cc := cX8_mixedInto) (maxL := 6) (ret := (some .long)) (by decide) rfl ?_
  intro p e s m args below meth c s₁ B hml hv
  obtain ⟨rfl, hP, hK, hN⟩ := hv
  have hx := B.exec
  have hb := B.bytes
  have hr := B.returns
  have hts := atoms_spec (ws := wsX8_mixedInto) B.pre
  have hown : s.vm.findClass RX8 = some m.cls := findClass_of_methodNamed B.named
  have hlocks := B.notSynchronized
  have hin8 : ∀ w ∈ wsX80, w ∈ wsX8_mixedInto := by decide +kernel
  have hl := lv_entry ([.ref (ad (7, j)), .long p0]) (n := 6) (Nat.le_of_ble_eq_true rfl)
  rw [lg_entry_eq]
  generalize (lg_sl ([.ref (ad (7, j)), .long p0]) ++ List.replicate (6 - (lg_sl ([.ref (ad (7, j)), .long p0])).length) Slot.unset).toArray = ls at hl ⊢
  have hl : lv_has ls 6 [(0, .ref (ad (7, j))), (1, .long p0)] := hl
  have h12 := ib_s12 hI hj
  refine lv_aload_n hx hb dX8_mixedInto_0 rfl (lv_at hl 0 rfl) ?_
  refine rg_get (D := (dC, dI)) (r := (7, j)) (ci := 7) (v := .int (if M 43 j < 0 then (1 : Int32) else 0)) (C := RX8) (T := TX8) (N := 3) hx hb hts hin8 hown hK hP ((hrl _).mpr (vd_7 hj)) en_7 rfl 0 (by decide) (hts (.fieldLink RX8 9 "SocietyBook$Sheet" "missing" "Z") (by decide +kernel)) (fun _ h9 => h9) rfl dX8_mixedInto_1 ?_
  refine lv_if_eq (tgt := 13) hx hb dX8_mixedInto_4 (by decide) (fun c1 => ?_) (fun c1 => ?_)
  · replace c1 := bo_f c1
    refine lv_lload_n hx hb dX8_mixedInto_13 rfl (lv_at hl 1 rfl) ?_
    refine lv_aload_n hx hb dX8_mixedInto_14 rfl (lv_at hl 0 rfl) ?_
    refine rg_get (D := (dC, dI)) (r := (7, j)) (ci := 7) (v := .int (M 43 j)) (C := RX8) (T := TX8) (N := 3) hx hb hts hin8 hown hK hP ((hrl _).mpr (vd_7 hj)) en_7 rfl 1 (by decide) (hts (.fieldLink RX8 19 "SocietyBook$Sheet" "size" "I") (by decide +kernel)) (fun _ h9 => h9) (show some (Value.int (if M 43 j < 0 then Y 2 j else M 43 j)) = some (Value.int (M 43 j)) from by rw [if_neg c1]) dX8_mixedInto_15 ?_
    refine vp_callSl (run_of (va_runSN (As := [.long p0, .int (M 43 j)]) (rest := []) ⟨hx, hb, hml, hown, hts⟩ (c_X10_mixed l p0 (M 43 j)) ⟨va_cnB 2 hts gX8_mixedInto_X10_mixed_n27 rfl rfl rfl hN.2.2.2 (hts (.initialized RX10) (by decide +kernel)) (by decide +kernel) ⟨Nat.le_of_ble_eq_true rfl, Nat.le_of_ble_eq_true rfl⟩, hts (.static yX10_mixed) (by decide +kernel), trivial⟩ ⟨fun _ _ _ _ q => q, fun U hU hW => ⟨rfl, trivial⟩⟩ rfl rfl hl.1 rfl (lv_room (Nat.le_of_ble_eq_true rfl)) dX8_mixedInto_18 ⟨Nat.zero_le _, Nat.zero_le _⟩)) (fun r hr9 => ?_)
    subst hr9
    refine lv_lstore_n (lv' := [(3, .long (((31) * p0) + ((M 43 j).toInt64))), (0, .ref (ad (7, j))), (1, .long p0)]) hx hb dX8_mixedInto_21 rfl hl (by decide) rfl (fun ls hl => ?_)
    refine lv_iconst (v := 0) hx hb dX8_mixedInto_22 (by decide) ?_
    refine lv_istore (lv' := [(5, .int 0), (3, .long (((31) * p0) + ((M 43 j).toInt64))), (0, .ref (ad (7, j))), (1, .long p0)]) hx hb dX8_mixedInto_23 hl (by decide) rfl (fun ls hl => ?_)
    refine lp_for (N := (M 43 j).toNatClampNeg) (lv := fun i1 => [(5, .int (nI i1)), (3, .long (L_mi F M j p0 i1)), (0, .ref (ad (7, j))), (1, .long p0)]) (lv_sub hl [0, 1, 2, 3] rfl) (fun i1 hi1 ls hl kk1 => ?_) (fun ls hl => ?_)
    · replace hl : lv_has ls 6 [(5, .int (nI i1)), (3, .long (L_mi F M j p0 i1)), (0, .ref (ad (7, j))), (1, .long p0)] := hl
      refine lv_iload hx hb dX8_mixedInto_25 (lv_at hl 0 rfl) ?_
      refine lv_aload_n hx hb dX8_mixedInto_27 rfl (lv_at hl 2 rfl) ?_
      refine rg_get (D := (dC, dI)) (r := (7, j)) (ci := 7) (v := .int (M 43 j)) (C := RX8) (T := TX8) (N := 3) hx hb hts hin8 hown hK hP ((hrl _).mpr (vd_7 hj)) en_7 rfl 1 (by decide) (hts (.fieldLink RX8 19 "SocietyBook$Sheet" "size" "I") (by decide +kernel)) (fun _ h9 => h9) (show some (Value.int (if M 43 j < 0 then Y 2 j else M 43 j)) = some (Value.int (M 43 j)) from by rw [if_neg c1]) dX8_mixedInto_28 ?_
      refine lv_icmp_ge (tgt := 52) hx hb dX8_mixedInto_31 (by decide) (fun c => absurd c (lb_nc hi1)) (fun _ => ?_)
      refine lv_lload_n hx hb dX8_mixedInto_34 rfl (lv_at hl 1 rfl) ?_
      refine lv_aload_n hx hb dX8_mixedInto_35 rfl (lv_at hl 2 rfl) ?_
      refine rg_get (D := (dC, dI)) (r := (7, j)) (ci := 7) (v := .ref (ad (24, j))) (C := RX8) (T := TX8) (N := 3) hx hb hts hin8 hown hK hP ((hrl _).mpr (vd_7 hj)) en_7 rfl 2 (by decide) (hts (.fieldLink RX8 15 "SocietyBook$Sheet" "bytes" "[B") (by decide +kernel)) (fun _ h9 => h9) rfl dX8_mixedInto_36 ?_
      refine lv_iload hx hb dX8_mixedInto_39 (lv_at hl 0 rfl) ?_
      refine rg_bald (r := (24, j)) (v := (M 44) (12 * j + i1)) hx hb hK hP ((hrl _).mpr (vd_24 hj)) 1 en_24 rfl (vp_in_nI (Nat.lt_of_lt_of_le hi1 (ib_s12 hI hj)) (by decide)) (by rw [nI_clamp (show i1 < 2 ^ 31 by omega)]; exact if_pos (show i1 < 12 by omega)) dX8_mixedInto_41 ?_
      refine vp_callSl (run_of (va_runSN (As := [.long (L_mi F M j p0 i1), .int ((M 44) (12 * j + i1))]) (rest := []) ⟨hx, hb, hml, hown, hts⟩ (c_X10_mixed l (L_mi F M j p0 i1) ((M 44) (12 * j + i1))) ⟨va_cnB 2 hts gX8_mixedInto_X10_mixed_n27 rfl rfl rfl hN.2.2.2 (hts (.initialized RX10) (by decide +kernel)) (by decide +kernel) ⟨Nat.le_of_ble_eq_true rfl, Nat.le_of_ble_eq_true rfl⟩, hts (.static yX10_mixed) (by decide +kernel), trivial⟩ ⟨fun _ _ _ _ q => q, fun U hU hW => ⟨rfl, trivial⟩⟩ rfl rfl hl.1 rfl (lv_room (Nat.le_of_ble_eq_true rfl)) dX8_mixedInto_42 ⟨Nat.zero_le _, Nat.zero_le _⟩)) (fun r hr9 => ?_)
      subst hr9
      refine lv_lstore_n (lv' := [(3, .long (((31) * (L_mi F M j p0 i1)) + (((M 44) (12 * j + i1)).toInt64))), (5, .int (nI i1)), (0, .ref (ad (7, j))), (1, .long p0)]) hx hb dX8_mixedInto_45 rfl hl (by decide) rfl (fun ls hl => ?_)
      refine lv_iinc (v := nI (i1 + 1)) (lv' := [(5, .int (nI (i1 + 1))), (3, .long (((31) * (L_mi F M j p0 i1)) + (((M 44) (12 * j + i1)).toInt64))), (0, .ref (ad (7, j))), (1, .long p0)]) hx hb dX8_mixedInto_46 hl (k := 1) rfl (nI_1 i1) (by decide) rfl (fun ls hl => ?_)
      refine lv_goto (tgt := 25) hx hb dX8_mixedInto_49 (by decide) ?_
      have e9 : L_mi F M j p0 (i1 + 1) = ((31) * (L_mi F M j p0 i1)) + (((M 44) (12 * j + i1)).toInt64) := by rw [L_mi]
      refine kk1 ls (show lv_has ls 6 [(5, .int (nI (i1 + 1))), (3, .long (L_mi F M j p0 (i1 + 1))), (0, .ref (ad (7, j))), (1, .long p0)] from ?_)
      rw [e9]; exact lv_sub hl [0, 1, 2, 3] rfl
    · replace hl : lv_has ls 6 [(5, .int (nI (M 43 j).toNatClampNeg)), (3, .long (L_mi F M j p0 (M 43 j).toNatClampNeg)), (0, .ref (ad (7, j))), (1, .long p0)] := hl
      refine lv_iload hx hb dX8_mixedInto_25 (lv_at hl 0 rfl) ?_
      refine lv_aload_n hx hb dX8_mixedInto_27 rfl (lv_at hl 2 rfl) ?_
      refine rg_get (D := (dC, dI)) (r := (7, j)) (ci := 7) (v := .int (M 43 j)) (C := RX8) (T := TX8) (N := 3) hx hb hts hin8 hown hK hP ((hrl _).mpr (vd_7 hj)) en_7 rfl 1 (by decide) (hts (.fieldLink RX8 19 "SocietyBook$Sheet" "size" "I") (by decide +kernel)) (fun _ h9 => h9) (show some (Value.int (if M 43 j < 0 then Y 2 j else M 43 j)) = some (Value.int (M 43 j)) from by rw [if_neg c1]) dX8_mixedInto_28 ?_
      refine lv_icmp_ge (tgt := 52) hx hb dX8_mixedInto_31 (by decide) (fun _ => ?_) (fun c => absurd lb_yc c)
      refine lv_lload_n hx hb dX8_mixedInto_52 rfl (lv_at hl 1 rfl) ?_
      exact W.lret (v := (L_mi F M j p0 (M 43 j).toNatClampNeg)) hx hb hr (fun t ht hW => ⟨(L_mi F M j p0 (M 43 j).toNatClampNeg), rfl, by exact (if_neg c1).symm, ht⟩) (fun _ h => by cases h) dX8_mixedInto_53
  · replace c1 := bo_t c1
    refine lv_lload_n hx hb dX8_mixedInto_7 rfl (lv_at hl 1 rfl) ?_
    refine lv_iconst (v := (-1)) hx hb dX8_mixedInto_8 (by decide) ?_
    refine vp_callSl (run_of (va_runSN (As := [.long p0, .int (-1)]) (rest := []) ⟨hx, hb, hml, hown, hts⟩ (c_X10_mixed l p0 (-1)) ⟨va_cnB 2 hts gX8_mixedInto_X10_mixed_n27 rfl rfl rfl hN.2.2.2 (hts (.initialized RX10) (by decide +kernel)) (by decide +kernel) ⟨Nat.le_of_ble_eq_true rfl, Nat.le_of_ble_eq_true rfl⟩, hts (.static yX10_mixed) (by decide +kernel), trivial⟩ ⟨fun _ _ _ _ q => q, fun U hU hW => ⟨rfl, trivial⟩⟩ rfl rfl hl.1 rfl (lv_room (Nat.le_of_ble_eq_true rfl)) dX8_mixedInto_9 ⟨Nat.zero_le _, Nat.zero_le _⟩)) (fun r hr9 => ?_)
    subst hr9
    exact W.lret (v := ((31) * p0) + ((-1 : Int32).toInt64)) hx hb hr (fun t ht hW => ⟨((31) * p0) + ((-1 : Int32).toInt64), rfl, by exact (if_pos c1).symm, ht⟩) (fun _ h => by cases h) dX8_mixedInto_12
