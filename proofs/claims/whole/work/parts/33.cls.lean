
theorem nw_hi {a b x : Int32} (h : ¬ (a ≤ x ∧ x ≤ b)) (h2 : ¬ x < a) : b < x := Int32.not_le.mp (fun q => h ⟨Int32.not_lt.mp h2, q⟩)
theorem nI_bk {x : Int32} (h : 0 ≤ x) : nI x.toNatClampNeg = x := by
  have h1 := lb_c h
  have h2 := ib_rng x
  exact ib_eq.mpr (by rw [nI_toInt (by omega)]; omega)

set_option maxHeartbeats 4000000 in
set_option maxRecDepth 100000 in
theorem c_X10_later (l : Launch) (dC : Nat → ClassId) (dI : Nat → Nat → Nat) (rl : List (Nat × Nat)) (ad : Nat × Nat → Nat) (cy : Nat → ClassId) (F : Nat → Int32) (M Y : Nat → Nat → Int32) (p0 : Int32) (hrl : ∀ r, r ∈ rl ↔ vd F r) (hI : iv F M) (hJ : jv F M) (A : Nat → Prop) (hD : va_D A (rx_W rl ad (eC ad cy F M Y))) : Met l yX10_later wsX10_later ({ frames := 1, cells := 0, slots := 0, locals := 22 } : Room) (va_Pc [.ref (ad (9, 0)), .int p0] (pC dC dI rl ad cy (eC ad cy F M Y))) (va_Qi (fun r (_ : Nat → Nat → Int32) => r = (s_X11_later F M p0).1) (qC A dC dI rl ad cy (s_X11_later F M p0).2.1 (s_X11_later F M p0).2.2) A) 0 0 A := by
  refine Met.ofW (cc := cX10_later) (maxL := 2) (ret := (some .int)) (by decide) rfl ?_
  intro p e s m args below meth c s₁ B hml hv
  obtain ⟨rfl, hP, hK, hN⟩ := hv
  have hx := B.exec
  have hb := B.bytes
  have hr := B.returns
  have hts := atoms_spec (ws := wsX10_later) B.pre
  have hown : s.vm.findClass RX10 = some m.cls := findClass_of_methodNamed B.named
  have hlocks := B.notSynchronized
  have hin10 : ∀ w ∈ wsX100, w ∈ wsX10_later := by decide +kernel
  have hS : va_S A s.heap s.heap [] := va_S.rf
  have hl := lv_entry ([.ref (ad (9, 0)), .int p0]) (n := 2) (Nat.le_of_ble_eq_true rfl)
  rw [lg_entry_eq]
  generalize (lg_sl ([.ref (ad (9, 0)), .int p0]) ++ List.replicate (2 - (lg_sl ([.ref (ad (9, 0)), .int p0])).length) Slot.unset).toArray = ls at hl ⊢
  have hl : lv_has ls 2 [(0, .ref (ad (9, 0))), (1, .int p0)] := hl
  refine lv_iload_n hx hb dX10_later_0 rfl (lv_at hl 1 rfl) ?_
  refine lv_iconst (v := 0) hx hb dX10_later_1 (by decide) ?_
  refine lv_sipush (v := 30000) hx hb dX10_later_2 (by decide) ?_
  refine lv_aload_n hx hb dX10_later_5 rfl (lv_at hl 0 rfl) ?_
  refine rg_get (D := (dC, dI)) (r := (9, 0)) (ci := 9) (v := .int (F 3)) (C := RX10) (T := TX10) (N := 19) hx hb hts hin10 hown hK hP ((hrl _).mpr (vd_9 (by decide))) en_9 rfl 0 (by decide) (hts (.fieldLink RX10 65 "SocietyBook" "today" "I") (by decide +kernel)) (fun _ h9 => h9) rfl dX10_later_6 ?_
  refine lv_isub hx hb dX10_later_9 ?_
  refine vp_callSi (W.runS (As := [.int p0, .int 0, .int (30000 - (F 3))]) (rest := []) ⟨hx, hb, hml, hown, hts⟩ (c_X10_isWithin l p0 0 (30000 - (F 3))) (va_cwS 3 hts gX10_later_X10_isWithin rfl rfl rfl (by decide +kernel) ⟨Nat.le_of_ble_eq_true rfl, Nat.le_of_ble_eq_true rfl⟩) ⟨fun _ _ _ _ q => q, fun U hU hW => ⟨rfl, trivial⟩⟩ rfl rfl hl.1 rfl (lv_room (Nat.le_of_ble_eq_true rfl)) dX10_later_10 ⟨Nat.zero_le _, Nat.zero_le _⟩) (fun r hr9 => ?_)
  subst hr9
  refine lv_if_ne (tgt := 18) hx hb dX10_later_13 (by decide) (fun c1 => ?_) (fun c1 => ?_)
  · replace c1 := bo_t c1
    refine lv_aload_n hx hb dX10_later_18 rfl (lv_at hl 0 rfl) ?_
    refine lv_dup hx hb dX10_later_19 rfl ?_
    refine rg_get (D := (dC, dI)) (r := (9, 0)) (ci := 9) (v := .int (F 3)) (C := RX10) (T := TX10) (N := 19) hx hb hts hin10 hown hK hP ((hrl _).mpr (vd_9 (by decide))) en_9 rfl 0 (by decide) (hts (.fieldLink RX10 65 "SocietyBook" "today" "I") (by decide +kernel)) (fun _ h9 => h9) rfl dX10_later_20 ?_
    refine lv_iload_n hx hb dX10_later_23 rfl (lv_at hl 1 rfl) ?_
    refine lv_iadd hx hb dX10_later_24 ?_
    refine rg_put (D := (dC, dI)) (r := (9, 0)) (ci := 9) (v := .int ((F 3) + p0)) (ty := .int) (C := RX10) (T := TX10) (N := 19) hx hb hts hin10 tyX10 tyX10_ok nmX10 hown hK hP hD hS ((hrl _).mpr (vd_9 (by decide))) en_9 rfl 0 (by decide) (hts (.fieldLink RX10 65 "SocietyBook" "today" "I") (by decide +kernel)) (fun _ h9 => h9) rfl (by decide +kernel) rfl rfl (Nat.le_of_ble_eq_true rfl) dX10_later_25 (fun H locs hP hD hS => ?_)
    replace hP : va_P (dC, dI) vwCl (rx_W rl ad (eC ad cy (va_up F 3 ((F 3) + p0)) M Y)) H := ec_mp1 (vd_u9 hrl) (ec_9_0 ad cy F M Y ((F 3) + p0)) hP
    replace hD : va_D A (rx_W rl ad (eC ad cy (va_up F 3 ((F 3) + p0)) M Y)) := rx_D hD
    refine lv_aload_n hx hb dX10_later_28 rfl (lv_at hl 0 rfl) ?_
    refine rg_get (D := (dC, dI)) (r := (9, 0)) (ci := 9) (v := .int ((F 3) + p0)) (C := RX10) (T := TX10) (N := 19) hx hb hts hin10 hown hK hP ((hrl _).mpr (vd_9 (by decide))) en_9 rfl 0 (by decide) (hts (.fieldLink RX10 65 "SocietyBook" "today" "I") (by decide +kernel)) (fun _ h9 => h9) rfl dX10_later_29 ?_
    have E9 : s_X11_later F M p0 = ((F 3) + p0, (va_up F 3 ((F 3) + p0), M)) := by unfold s_X11_later; rw [if_neg (Int32.not_lt.mpr c1.1)]; rw [if_pos c1.2]
    exact W.iret (v := (F 3) + p0) hx hb hr (fun t ht hW => ⟨⟨(F 3) + p0, Y, rfl, by rw [E9], by rw [E9]; exact ⟨⟨by rw [ht]; exact hP, va_K.moved hW.alike hK, nst_w hW hN⟩, hD⟩⟩, hS.F ht⟩) hS.2.2 dX10_later_32
  · replace c1 := bo_f c1
    refine lv_iconst (v := (-1)) hx hb dX10_later_16 (by decide) ?_
    have E9 : s_X11_later F M p0 = ((-1), (F, M)) := by unfold s_X11_later; rcases Classical.em (p0 < 0) with z0 | z0; (· rw [if_pos z0]); (· rw [if_neg z0]; rw [if_neg (Int32.not_le.mpr (nw_hi c1 z0))])
    exact W.iret (v := (-1)) hx hb hr (fun t ht hW => ⟨⟨(-1), Y, rfl, by rw [E9], by rw [E9]; exact ⟨⟨by rw [ht]; exact hP, va_K.moved hW.alike hK, nst_w hW hN⟩, hD⟩⟩, hS.F ht⟩) hS.2.2 dX10_later_17

set_option maxHeartbeats 4000000 in
set_option maxRecDepth 100000 in
theorem c_X10_admitFellow (l : Launch) (dC : Nat → ClassId) (dI : Nat → Nat → Nat) (rl : List (Nat × Nat)) (ad : Nat × Nat → Nat) (cy : Nat → ClassId) (F : Nat → Int32) (M Y : Nat → Nat → Int32)  (hrl : ∀ r, r ∈ rl ↔ vd F r) (hI : iv F M) (hJ : jv F M) (A : Nat → Prop) (hD : va_D A (rx_W rl ad (eC ad cy F M Y))) : Met l yX10_admitFellow wsX10_admitFellow ({ frames := 0, cells := 0, slots := 0, locals := 0 } : Room) (va_Pc [.ref (ad (9, 0))] (pC dC dI rl ad cy (eC ad cy F M Y))) (va_Qi (fun r (_ : Nat → Nat → Int32) => r = ((F 4) + 1) - 1) (qC A dC dI rl ad cy (va_up F 4 ((F 4) + 1)) (M)) A) 0 0 A := by
  refine Met.ofW (cc := cX10_admitFellow) (maxL := 1) (ret := (some .int)) (by decide) rfl ?_
  intro p e s m args below meth c s₁ B hml hv
  obtain ⟨rfl, hP, hK, hN⟩ := hv
  have hx := B.exec
  have hb := B.bytes
  have hr := B.returns
  have hts := atoms_spec (ws := wsX10_admitFellow) B.pre
  have hown : s.vm.findClass RX10 = some m.cls := findClass_of_methodNamed B.named
  have hlocks := B.notSynchronized
  have hin10 : ∀ w ∈ wsX100, w ∈ wsX10_admitFellow := by decide +kernel
  have hS : va_S A s.heap s.heap [] := va_S.rf
  have hl := lv_entry ([.ref (ad (9, 0))]) (n := 1) (Nat.le_of_ble_eq_true rfl)
  rw [lg_entry_eq]
  generalize (lg_sl ([.ref (ad (9, 0))]) ++ List.replicate (1 - (lg_sl ([.ref (ad (9, 0))])).length) Slot.unset).toArray = ls at hl ⊢
  have hl : lv_has ls 1 [(0, .ref (ad (9, 0)))] := hl
  refine lv_aload_n hx hb dX10_admitFellow_0 rfl (lv_at hl 0 rfl) ?_
  refine lv_dup hx hb dX10_admitFellow_1 rfl ?_
  refine rg_get (D := (dC, dI)) (r := (9, 0)) (ci := 9) (v := .int (F 4)) (C := RX10) (T := TX10) (N := 19) hx hb hts hin10 hown hK hP ((hrl _).mpr (vd_9 (by decide))) en_9 rfl 1 (by decide) (hts (.fieldLink RX10 73 "SocietyBook" "fellows" "I") (by decide +kernel)) (fun _ h9 => h9) rfl dX10_admitFellow_2 ?_
  refine lv_iconst (v := 1) hx hb dX10_admitFellow_5 (by decide) ?_
  refine lv_iadd hx hb dX10_admitFellow_6 ?_
  refine rg_put (D := (dC, dI)) (r := (9, 0)) (ci := 9) (v := .int ((F 4) + 1)) (ty := .int) (C := RX10) (T := TX10) (N := 19) hx hb hts hin10 tyX10 tyX10_ok nmX10 hown hK hP hD hS ((hrl _).mpr (vd_9 (by decide))) en_9 rfl 1 (by decide) (hts (.fieldLink RX10 73 "SocietyBook" "fellows" "I") (by decide +kernel)) (fun _ h9 => h9) rfl (by decide +kernel) rfl rfl (Nat.le_of_ble_eq_true rfl) dX10_admitFellow_7 (fun H locs hP hD hS => ?_)
  replace hP : va_P (dC, dI) vwCl (rx_W rl ad (eC ad cy (va_up F 4 ((F 4) + 1)) M Y)) H := ec_mp1 (vd_u9 hrl) (ec_9_1 ad cy F M Y ((F 4) + 1)) hP
  replace hD : va_D A (rx_W rl ad (eC ad cy (va_up F 4 ((F 4) + 1)) M Y)) := rx_D hD
  refine lv_aload_n hx hb dX10_admitFellow_10 rfl (lv_at hl 0 rfl) ?_
  refine rg_get (D := (dC, dI)) (r := (9, 0)) (ci := 9) (v := .int ((F 4) + 1)) (C := RX10) (T := TX10) (N := 19) hx hb hts hin10 hown hK hP ((hrl _).mpr (vd_9 (by decide))) en_9 rfl 1 (by decide) (hts (.fieldLink RX10 73 "SocietyBook" "fellows" "I") (by decide +kernel)) (fun _ h9 => h9) rfl dX10_admitFellow_11 ?_
  refine lv_iconst (v := 1) hx hb dX10_admitFellow_14 (by decide) ?_
  refine lv_isub hx hb dX10_admitFellow_15 ?_
  exact W.iret (v := ((F 4) + 1) - 1) hx hb hr (fun t ht hW => ⟨⟨((F 4) + 1) - 1, Y, rfl, rfl, ⟨⟨by rw [ht]; exact hP, va_K.moved hW.alike hK, nst_w hW hN⟩, hD⟩⟩, hS.F ht⟩) hS.2.2 dX10_admitFellow_16

set_option maxHeartbeats 4000000 in
set_option maxRecDepth 100000 in
theorem c_X10_fellow (l : Launch) (dC : Nat → ClassId) (dI : Nat → Nat → Nat) (rl : List (Nat × Nat)) (ad : Nat × Nat → Nat) (cy : Nat → ClassId) (F : Nat → Int32) (M Y : Nat → Nat → Int32)  (hrl : ∀ r, r ∈ rl ↔ vd F r) (hI : iv F M) (hJ : jv F M) (A : Nat → Prop) (hD : va_D A (rx_W rl ad (eC ad cy F M Y))) : Met l yX10_fellow wsX10_fellow ({ frames := 1, cells := 0, slots := 0, locals := 20 } : Room) (va_Pc [.ref (ad (9, 0))] (pC dC dI rl ad cy (eC ad cy F M Y))) (va_Qi (fun r (_ : Nat → Nat → Int32) => r = (s_X11_fellow F M ).1) (qC A dC dI rl ad cy (s_X11_fellow F M ).2.1 (s_X11_fellow F M ).2.2) A) 0 0 A := by
  refine Met.ofW (cc := cX10_fellow) (maxL := 1) (ret := (some .int)) (by decide) rfl ?_
  intro p e s m args below meth c s₁ B hml hv
  obtain ⟨rfl, hP, hK, hN⟩ := hv
  have hx := B.exec
  have hb := B.bytes
  have hr := B.returns
  have hts := atoms_spec (ws := wsX10_fellow) B.pre
  have hown : s.vm.findClass RX10 = some m.cls := findClass_of_methodNamed B.named
  have hlocks := B.notSynchronized
  have hin10 : ∀ w ∈ wsX100, w ∈ wsX10_fellow := by decide +kernel
  have hS : va_S A s.heap s.heap [] := va_S.rf
  have hl := lv_entry ([.ref (ad (9, 0))]) (n := 1) (Nat.le_of_ble_eq_true rfl)
  rw [lg_entry_eq]
  generalize (lg_sl ([.ref (ad (9, 0))]) ++ List.replicate (1 - (lg_sl ([.ref (ad (9, 0))])).length) Slot.unset).toArray = ls at hl ⊢
  have hl : lv_has ls 1 [(0, .ref (ad (9, 0)))] := hl
  refine lv_aload_n hx hb dX10_fellow_0 rfl (lv_at hl 0 rfl) ?_
  refine rg_get (D := (dC, dI)) (r := (9, 0)) (ci := 9) (v := .int (F 4)) (C := RX10) (T := TX10) (N := 19) hx hb hts hin10 hown hK hP ((hrl _).mpr (vd_9 (by decide))) en_9 rfl 1 (by decide) (hts (.fieldLink RX10 73 "SocietyBook" "fellows" "I") (by decide +kernel)) (fun _ h9 => h9) rfl dX10_fellow_1 ?_
  refine lv_bipush (v := 16) hx hb dX10_fellow_4 (by decide) ?_
  refine lv_icmp_lt (tgt := 12) hx hb dX10_fellow_6 (by decide) (fun c1 => ?_) (fun c1 => ?_)
  · refine lv_aload_n hx hb dX10_fellow_12 rfl (lv_at hl 0 rfl) ?_
    refine va_calli (va_runV (As := []) (rest := []) ⟨hx, hb, hml, hown, hts⟩ (c_X10_admitFellow l dC dI rl ad cy F M Y   hrl hI hJ A hD ) (cwV 0 hts gX10_fellow_X10_admitFellow rfl rfl rfl (by decide +kernel) ⟨Nat.le_of_ble_eq_true rfl, Nat.le_of_ble_eq_true rfl⟩) ⟨pc_blind, rg_recv hK hP ((hrl _).mpr (vd_9 (by decide))) (ci := 9) rfl en_9, fun U hU hW => ⟨rfl, by rw [hU]; exact hP, va_K.moved hW.alike hK, nst_w hW hN⟩⟩ rfl rfl hl.1 rfl (lv_room (Nat.le_of_ble_eq_true rfl)) dX10_fellow_13 ⟨Nat.zero_le _, Nat.zero_le _⟩) hS (fun q _ h => h) (fun q h => h) (fun r u t H1 locs ht hvm hw hB hz1 hk1 hS => ?_)
    subst hw
    obtain ⟨⟨hP, -, -⟩, hD⟩ := hB
    rw [ht] at hP
    clear hz1 hk1 ht hvm; generalize H1 = H at hP hS ⊢
    replace hP : va_P (dC, dI) vwCl (rx_W rl ad (eC ad cy (va_up F 4 ((F 4) + 1)) M u)) H := hP
    replace hD : va_D A (rx_W rl ad (eC ad cy (va_up F 4 ((F 4) + 1)) M u)) := hD
    have E9 : s_X11_fellow F M  = (((F 4) + 1) - 1, (va_up F 4 ((F 4) + 1), M)) := by unfold s_X11_fellow; rw [if_neg (fu_f (Int32.not_le.mpr c1))]
    exact W.iret (v := ((F 4) + 1) - 1) hx hb hr (fun t ht hW => ⟨⟨((F 4) + 1) - 1, u, rfl, by rw [E9], by rw [E9]; exact ⟨⟨by rw [ht]; exact hP, va_K.moved hW.alike hK, nst_w hW hN⟩, hD⟩⟩, hS.F ht⟩) hS.2.2 dX10_fellow_16
  · refine lv_bipush (v := (-2)) hx hb dX10_fellow_9 (by decide) ?_
    have E9 : s_X11_fellow F M  = ((-2), (F, M)) := by unfold s_X11_fellow; rw [if_pos (fu_t (iv_4 hI) (Int32.not_lt.mp c1))]
    exact W.iret (v := (-2)) hx hb hr (fun t ht hW => ⟨⟨(-2), Y, rfl, by rw [E9], by rw [E9]; exact ⟨⟨by rw [ht]; exact hP, va_K.moved hW.alike hK, nst_w hW hN⟩, hD⟩⟩, hS.F ht⟩) hS.2.2 dX10_fellow_11

set_option maxHeartbeats 4000000 in
set_option maxRecDepth 100000 in
theorem c_X10_post (l : Launch) (dC : Nat → ClassId) (dI : Nat → Nat → Nat) (rl : List (Nat × Nat)) (ad : Nat × Nat → Nat) (cy : Nat → ClassId) (F : Nat → Int32) (M Y : Nat → Nat → Int32) (p0 : Int32) (p1 : Int32) (p2 : Int32) (hrl : ∀ r, r ∈ rl ↔ vd F r) (hI : iv F M) (hJ : jv F M) (A : Nat → Prop) (hD : va_D A (rx_W rl ad (eC ad cy F M Y))) : Met l yX10_post wsX10_post ({ frames := 1, cells := 0, slots := 0, locals := 22 } : Room) (va_Pc [.ref (ad (9, 0)), .int p0, .int p1, .int p2] (pC dC dI rl ad cy (eC ad cy F M Y))) (va_Qi (fun r (_ : Nat → Nat → Int32) => r = (s_X11_post F M p0 p1 p2).1) (qC A dC dI rl ad cy (s_X11_post F M p0 p1 p2).2.1 (s_X11_post F M p0 p1 p2).2.2) A) 0 0 A := by
  refine Met.ofW (cc := cX10_post) (maxL := 4) (ret := (some .int)) (by decide) rfl ?_
  intro p e s m args below meth c s₁ B hml hv
  obtain ⟨rfl, hP, hK, hN⟩ := hv
  have hx := B.exec
  have hb := B.bytes
  have hr := B.returns
  have hts := atoms_spec (ws := wsX10_post) B.pre
  have hown : s.vm.findClass RX10 = some m.cls := findClass_of_methodNamed B.named
  have hlocks := B.notSynchronized
  have hin10 : ∀ w ∈ wsX100, w ∈ wsX10_post := by decide +kernel
  have hin6 : ∀ w ∈ wsX60, w ∈ wsX10_post := by decide +kernel
  have hS : va_S A s.heap s.heap [] := va_S.rf
  have hl := lv_entry ([.ref (ad (9, 0)), .int p0, .int p1, .int p2]) (n := 4) (Nat.le_of_ble_eq_true rfl)
  rw [lg_entry_eq]
  generalize (lg_sl ([.ref (ad (9, 0)), .int p0, .int p1, .int p2]) ++ List.replicate (4 - (lg_sl ([.ref (ad (9, 0)), .int p0, .int p1, .int p2])).length) Slot.unset).toArray = ls at hl ⊢
  have hl : lv_has ls 4 [(0, .ref (ad (9, 0))), (1, .int p0), (2, .int p1), (3, .int p2)] := hl
  refine lv_iload_n hx hb dX10_post_0 rfl (lv_at hl 1 rfl) ?_
  refine lv_iconst (v := 0) hx hb dX10_post_1 (by decide) ?_
  refine lv_iconst (v := 5) hx hb dX10_post_2 (by decide) ?_
  refine vp_callSi (W.runS (As := [.int p0, .int 0, .int 5]) (rest := []) ⟨hx, hb, hml, hown, hts⟩ (c_X10_isWithin l p0 0 5) (va_cwS 3 hts gX10_post_X10_isWithin rfl rfl rfl (by decide +kernel) ⟨Nat.le_of_ble_eq_true rfl, Nat.le_of_ble_eq_true rfl⟩) ⟨fun _ _ _ _ q => q, fun U hU hW => ⟨rfl, trivial⟩⟩ rfl rfl hl.1 rfl (lv_room (Nat.le_of_ble_eq_true rfl)) dX10_post_3 ⟨Nat.zero_le _, Nat.zero_le _⟩) (fun r hr9 => ?_)
  subst hr9
  refine lv_if_eq (tgt := 29) hx hb dX10_post_6 (by decide) (fun c1 => ?_) (fun c1 => ?_)
  · replace c1 := bo_f c1
    refine lv_iconst (v := (-1)) hx hb dX10_post_29 (by decide) ?_
    have E9 : s_X11_post F M p0 p1 p2 = ((-1), (F, M)) := by unfold s_X11_post; rw [if_neg c1]
    exact W.iret (v := (-1)) hx hb hr (fun t ht hW => ⟨⟨(-1), Y, rfl, by rw [E9], by rw [E9]; exact ⟨⟨by rw [ht]; exact hP, va_K.moved hW.alike hK, nst_w hW hN⟩, hD⟩⟩, hS.F ht⟩) hS.2.2 dX10_post_30
  · replace c1 := bo_t c1
    refine lv_iload_n hx hb dX10_post_9 rfl (lv_at hl 3 rfl) ?_
    refine lv_iconst (v := 0) hx hb dX10_post_10 (by decide) ?_
    refine lv_sipush (v := 500) hx hb dX10_post_11 (by decide) ?_
    refine vp_callSi (W.runS (As := [.int p2, .int 0, .int 500]) (rest := []) ⟨hx, hb, hml, hown, hts⟩ (c_X10_isWithin l p2 0 500) (va_cwS 3 hts gX10_post_X10_isWithin rfl rfl rfl (by decide +kernel) ⟨Nat.le_of_ble_eq_true rfl, Nat.le_of_ble_eq_true rfl⟩) ⟨fun _ _ _ _ q => q, fun U hU hW => ⟨rfl, trivial⟩⟩ rfl rfl hl.1 rfl (lv_room (Nat.le_of_ble_eq_true rfl)) dX10_post_14 ⟨Nat.zero_le _, Nat.zero_le _⟩) (fun r hr9 => ?_)
    subst hr9
    refine lv_if_eq (tgt := 29) hx hb dX10_post_17 (by decide) (fun c2 => ?_) (fun c2 => ?_)
    · replace c2 := bo_f c2
      refine lv_iconst (v := (-1)) hx hb dX10_post_29 (by decide) ?_
      have E9 : s_X11_post F M p0 p1 p2 = ((-1), (F, M)) := by unfold s_X11_post; rw [if_pos c1]; rcases Classical.em (0 ≤ p1 ∧ p1 ≤ 500) with z0 | z0; (· rw [if_pos z0]; rw [if_neg (show ¬ (p1 ≤ p2 ∧ p2 ≤ 500) from fun q => c2 ⟨Int32.le_trans z0.1 q.1, q.2⟩)]); (· rw [if_neg z0])
      exact W.iret (v := (-1)) hx hb hr (fun t ht hW => ⟨⟨(-1), Y, rfl, by rw [E9], by rw [E9]; exact ⟨⟨by rw [ht]; exact hP, va_K.moved hW.alike hK, nst_w hW hN⟩, hD⟩⟩, hS.F ht⟩) hS.2.2 dX10_post_30
    · replace c2 := bo_t c2
      refine lv_iload_n hx hb dX10_post_20 rfl (lv_at hl 2 rfl) ?_
      refine lv_iconst (v := 0) hx hb dX10_post_21 (by decide) ?_
      refine lv_iload_n hx hb dX10_post_22 rfl (lv_at hl 3 rfl) ?_
      refine vp_callSi (W.runS (As := [.int p1, .int 0, .int p2]) (rest := []) ⟨hx, hb, hml, hown, hts⟩ (c_X10_isWithin l p1 0 p2) (va_cwS 3 hts gX10_post_X10_isWithin rfl rfl rfl (by decide +kernel) ⟨Nat.le_of_ble_eq_true rfl, Nat.le_of_ble_eq_true rfl⟩) ⟨fun _ _ _ _ q => q, fun U hU hW => ⟨rfl, trivial⟩⟩ rfl rfl hl.1 rfl (lv_room (Nat.le_of_ble_eq_true rfl)) dX10_post_23 ⟨Nat.zero_le _, Nat.zero_le _⟩) (fun r hr9 => ?_)
      subst hr9
      refine lv_if_ne (tgt := 31) hx hb dX10_post_26 (by decide) (fun c3 => ?_) (fun c3 => ?_)
      · replace c3 := bo_t c3
        refine lv_aload_n hx hb dX10_post_31 rfl (lv_at hl 0 rfl) ?_
        refine rg_get (D := (dC, dI)) (r := (9, 0)) (ci := 9) (v := .ref (ad (10, 0))) (C := RX10) (T := TX10) (N := 19) hx hb hts hin10 hown hK hP ((hrl _).mpr (vd_9 (by decide))) en_9 rfl 2 (by decide) (hts (.fieldLink RX10 11 "SocietyBook" "posts" "[LSocietyBook$Post;") (by decide +kernel)) (fun _ h9 => h9) rfl dX10_post_32 ?_
        refine lv_iload_n hx hb dX10_post_35 rfl (lv_at hl 1 rfl) ?_
        refine rg_aldq (r := (10, 0)) (v := .ref (ad (6, p0.toNatClampNeg))) hx hb hK hP ((hrl _).mpr (vd_10 (by decide))) 2 en_10 rfl (ib_in c1 (by decide)) rfl dX10_post_36 ?_
        refine lv_iload_n hx hb dX10_post_37 rfl (lv_at hl 2 rfl) ?_
        refine rg_put (D := (dC, dI)) (r := (6, p0.toNatClampNeg)) (ci := 6) (v := .int p1) (ty := .int) (C := RX6) (T := TX6) (N := 2) hx hb hts hin6 tyX6 tyX6_ok nmX6 hown hK hP hD hS ((hrl _).mpr (vd_6 (ib_cl (ib_in c1 (by decide))).2)) en_6 rfl 0 (by decide) (hts (.fieldLink RX10 80 "SocietyBook$Post" "least" "I") (by decide +kernel)) (fun _ h9 => h9) rfl (by decide +kernel) rfl rfl (Nat.le_of_ble_eq_true rfl) dX10_post_38 (fun H locs hP hD hS => ?_)
        replace hP : va_P (dC, dI) vwCl (rx_W rl ad (eC ad cy F (va_up M 5 (upd (M 5) p0.toNatClampNeg p1)) Y)) H := ec_mp (ec_6_0 ad cy F M Y p0.toNatClampNeg p1) hP
        replace hD : va_D A (rx_W rl ad (eC ad cy F (va_up M 5 (upd (M 5) p0.toNatClampNeg p1)) Y)) := rx_D hD
        refine lv_aload_n hx hb dX10_post_41 rfl (lv_at hl 0 rfl) ?_
        refine rg_get (D := (dC, dI)) (r := (9, 0)) (ci := 9) (v := .ref (ad (10, 0))) (C := RX10) (T := TX10) (N := 19) hx hb hts hin10 hown hK hP ((hrl _).mpr (vd_9 (by decide))) en_9 rfl 2 (by decide) (hts (.fieldLink RX10 11 "SocietyBook" "posts" "[LSocietyBook$Post;") (by decide +kernel)) (fun _ h9 => h9) rfl dX10_post_42 ?_
        refine lv_iload_n hx hb dX10_post_45 rfl (lv_at hl 1 rfl) ?_
        refine rg_aldq (r := (10, 0)) (v := .ref (ad (6, p0.toNatClampNeg))) hx hb hK hP ((hrl _).mpr (vd_10 (by decide))) 2 en_10 rfl (ib_in c1 (by decide)) rfl dX10_post_46 ?_
        refine lv_iload_n hx hb dX10_post_47 rfl (lv_at hl 3 rfl) ?_
        refine rg_put (D := (dC, dI)) (r := (6, p0.toNatClampNeg)) (ci := 6) (v := .int p2) (ty := .int) (C := RX6) (T := TX6) (N := 2) hx hb hts hin6 tyX6 tyX6_ok nmX6 hown hK hP hD hS ((hrl _).mpr (vd_6 (ib_cl (ib_in c1 (by decide))).2)) en_6 rfl 1 (by decide) (hts (.fieldLink RX10 83 "SocietyBook$Post" "most" "I") (by decide +kernel)) (fun _ h9 => h9) rfl (by decide +kernel) rfl rfl (Nat.le_of_ble_eq_true rfl) dX10_post_48 (fun H locs hP hD hS => ?_)
        replace hP : va_P (dC, dI) vwCl (rx_W rl ad (eC ad cy F (va_up (va_up M 5 (upd (M 5) p0.toNatClampNeg p1)) 6 (upd (M 6) p0.toNatClampNeg p2)) Y)) H := ec_mp (ec_6_1 ad cy F (va_up M 5 (upd (M 5) p0.toNatClampNeg p1)) Y p0.toNatClampNeg p2) hP
        replace hD : va_D A (rx_W rl ad (eC ad cy F (va_up (va_up M 5 (upd (M 5) p0.toNatClampNeg p1)) 6 (upd (M 6) p0.toNatClampNeg p2)) Y)) := rx_D hD
        refine lv_iconst (v := 1) hx hb dX10_post_51 (by decide) ?_
        have E9 : s_X11_post F M p0 p1 p2 = (1, (F, va_up (va_up M 5 (upd (M 5) p0.toNatClampNeg p1)) 6 (upd (M 6) p0.toNatClampNeg p2))) := by unfold s_X11_post; rw [if_pos c1]; rw [if_pos (⟨c3.1, Int32.le_trans c3.2 c2.2⟩ : 0 ≤ p1 ∧ p1 ≤ 500)]; rw [if_pos (⟨c3.2, c2.2⟩ : p1 ≤ p2 ∧ p2 ≤ 500)]
        exact W.iret (v := 1) hx hb hr (fun t ht hW => ⟨⟨1, Y, rfl, by rw [E9], by rw [E9]; exact ⟨⟨by rw [ht]; exact hP, va_K.moved hW.alike hK, nst_w hW hN⟩, hD⟩⟩, hS.F ht⟩) hS.2.2 dX10_post_52
      · replace c3 := bo_f c3
        refine lv_iconst (v := (-1)) hx hb dX10_post_29 (by decide) ?_
        have E9 : s_X11_post F M p0 p1 p2 = ((-1), (F, M)) := by unfold s_X11_post; rw [if_pos c1]; rcases Classical.em (0 ≤ p1 ∧ p1 ≤ 500) with z0 | z0; (· rw [if_pos z0]; rw [if_neg (show ¬ (p1 ≤ p2 ∧ p2 ≤ 500) from fun q => c3 ⟨z0.1, q.1⟩)]); (· rw [if_neg z0])
        exact W.iret (v := (-1)) hx hb hr (fun t ht hW => ⟨⟨(-1), Y, rfl, by rw [E9], by rw [E9]; exact ⟨⟨by rw [ht]; exact hP, va_K.moved hW.alike hK, nst_w hW hN⟩, hD⟩⟩, hS.F ht⟩) hS.2.2 dX10_post_30

set_option maxHeartbeats 4000000 in
set_option maxRecDepth 100000 in
theorem c_X10_open (l : Launch) (dC : Nat → ClassId) (dI : Nat → Nat → Nat) (rl : List (Nat × Nat)) (ad : Nat × Nat → Nat) (cy : Nat → ClassId) (F : Nat → Int32) (M Y : Nat → Nat → Int32) (p0 : Int32) (p1 : Int32) (p2 : Int32) (hrl : ∀ r, r ∈ rl ↔ vd F r) (hI : iv F M) (hJ : jv F M) (A : Nat → Prop) (hD : va_D A (rx_W rl ad (eC ad cy F M Y))) : Met l yX10_open wsX10_open ({ frames := 2, cells := 0, slots := 0, locals := 43 } : Room) (va_Pc [.ref (ad (9, 0)), .int p0, .int p1, .int p2] (pC dC dI rl ad cy (eC ad cy F M Y))) (va_Qi (fun r (_ : Nat → Nat → Int32) => r = (s_X11_open F M p0 p1 p2).1) (qC A dC dI rl ad cy (s_X11_open F M p0 p1 p2).2.1 (s_X11_open F M p0 p1 p2).2.2) A) 0 0 A := by
  refine Met.ofW (cc := cX10_open) (maxL := 5) (ret := (some .int)) (by decide) rfl ?_
  intro p e s m args below meth c s₁ B hml hv
  obtain ⟨rfl, hP, hK, hN⟩ := hv
  have hx := B.exec
  have hb := B.bytes
  have hr := B.returns
  have hts := atoms_spec (ws := wsX10_open) B.pre
  have hown : s.vm.findClass RX10 = some m.cls := findClass_of_methodNamed B.named
  have hlocks := B.notSynchronized
  have hin10 : ∀ w ∈ wsX100, w ∈ wsX10_open := by decide +kernel
  have hin5 : ∀ w ∈ wsX50, w ∈ wsX10_open := by decide +kernel
  have hS : va_S A s.heap s.heap [] := va_S.rf
  have hl := lv_entry ([.ref (ad (9, 0)), .int p0, .int p1, .int p2]) (n := 5) (Nat.le_of_ble_eq_true rfl)
  rw [lg_entry_eq]
  generalize (lg_sl ([.ref (ad (9, 0)), .int p0, .int p1, .int p2]) ++ List.replicate (5 - (lg_sl ([.ref (ad (9, 0)), .int p0, .int p1, .int p2])).length) Slot.unset).toArray = ls at hl ⊢
  have hl : lv_has ls 5 [(0, .ref (ad (9, 0))), (1, .int p0), (2, .int p1), (3, .int p2)] := hl
  refine lv_aload_n hx hb dX10_open_0 rfl (lv_at hl 0 rfl) ?_
  refine lv_iload_n hx hb dX10_open_1 rfl (lv_at hl 1 rfl) ?_
  refine va_csq (W.runV (As := [.int p0]) (rest := []) ⟨hx, hb, hml, hown, hts⟩ (c_X10_paperAt l dC dI rl ad cy F M Y  p0 hrl hI hJ ) (cwV 1 hts gX10_open_X10_paperAt rfl rfl rfl (by decide +kernel) ⟨Nat.le_of_ble_eq_true rfl, Nat.le_of_ble_eq_true rfl⟩) ⟨pc_blind, rg_recv hK hP ((hrl _).mpr (vd_9 (by decide))) (ci := 9) rfl en_9, fun U hU hW => ⟨rfl, by rw [hU]; exact hP, va_K.moved hW.alike hK, nst_w hW hN⟩⟩ rfl rfl hl.1 rfl (lv_room (Nat.le_of_ble_eq_true rfl)) dX10_open_2 ⟨Nat.zero_le _, Nat.zero_le _⟩) (fun r hr9 => ?_)
  subst hr9
  by_cases c1 : 0 ≤ p0 ∧ p0 ≤ ((F 7) - 1)
  · rw [if_pos c1]
    refine W.eq (g2 := F0 m 5 ls (.ref (ad (5, p0.toNatClampNeg)) :: [])) rfl ?_
    refine lv_astore (lv' := [(4, .ref (ad (5, p0.toNatClampNeg))), (0, .ref (ad (9, 0))), (1, .int p0), (2, .int p1), (3, .int p2)]) hx hb dX10_open_5 hl (by decide) rfl (fun ls hl => ?_)
    refine lv_aload hx hb dX10_open_7 (lv_at hl 0 rfl) ?_
    refine lv_ifnull hx hb dX10_open_9 ?_
    refine lv_aload_n hx hb dX10_open_12 rfl (lv_at hl 1 rfl) ?_
    refine lv_iload_n hx hb dX10_open_13 rfl (lv_at hl 3 rfl) ?_
    refine vp_callSi (W.runV (As := [.int p1]) (rest := []) ⟨hx, hb, hml, hown, hts⟩ (c_X10_isFellow l dC dI rl ad cy F M Y  p1 hrl hI hJ ) (cwV 1 hts gX10_open_X10_isFellow rfl rfl rfl (by decide +kernel) ⟨Nat.le_of_ble_eq_true rfl, Nat.le_of_ble_eq_true rfl⟩) ⟨pc_blind, rg_recv hK hP ((hrl _).mpr (vd_9 (by decide))) (ci := 9) rfl en_9, fun U hU hW => ⟨rfl, by rw [hU]; exact hP, va_K.moved hW.alike hK, nst_w hW hN⟩⟩ rfl rfl hl.1 rfl (lv_room (Nat.le_of_ble_eq_true rfl)) dX10_open_14 ⟨Nat.zero_le _, Nat.zero_le _⟩) (fun r hr9 => ?_)
    subst hr9
    refine lv_if_eq (tgt := 51) hx hb dX10_open_17 (by decide) (fun c2 => ?_) (fun c2 => ?_)
    · replace c2 := bo_f c2
      refine lv_iconst (v := (-1)) hx hb dX10_open_51 (by decide) ?_
      have E9 : s_X11_open F M p0 p1 p2 = ((-1), (F, M)) := by unfold s_X11_open; rw [if_pos c1]; rw [if_neg c2]
      exact W.iret (v := (-1)) hx hb hr (fun t ht hW => ⟨⟨(-1), Y, rfl, by rw [E9], by rw [E9]; exact ⟨⟨by rw [ht]; exact hP, va_K.moved hW.alike hK, nst_w hW hN⟩, hD⟩⟩, hS.F ht⟩) hS.2.2 dX10_open_52
    · replace c2 := bo_t c2
      refine lv_aload_n hx hb dX10_open_20 rfl (lv_at hl 1 rfl) ?_
      refine lv_iload_n hx hb dX10_open_21 rfl (lv_at hl 4 rfl) ?_
      refine vp_callSi (W.runV (As := [.int p2]) (rest := []) ⟨hx, hb, hml, hown, hts⟩ (c_X10_isFellow l dC dI rl ad cy F M Y  p2 hrl hI hJ ) (cwV 1 hts gX10_open_X10_isFellow rfl rfl rfl (by decide +kernel) ⟨Nat.le_of_ble_eq_true rfl, Nat.le_of_ble_eq_true rfl⟩) ⟨pc_blind, rg_recv hK hP ((hrl _).mpr (vd_9 (by decide))) (ci := 9) rfl en_9, fun U hU hW => ⟨rfl, by rw [hU]; exact hP, va_K.moved hW.alike hK, nst_w hW hN⟩⟩ rfl rfl hl.1 rfl (lv_room (Nat.le_of_ble_eq_true rfl)) dX10_open_22 ⟨Nat.zero_le _, Nat.zero_le _⟩) (fun r hr9 => ?_)
      subst hr9
      refine lv_if_eq (tgt := 51) hx hb dX10_open_25 (by decide) (fun c3 => ?_) (fun c3 => ?_)
      · replace c3 := bo_f c3
        refine lv_iconst (v := (-1)) hx hb dX10_open_51 (by decide) ?_
        have E9 : s_X11_open F M p0 p1 p2 = ((-1), (F, M)) := by unfold s_X11_open; rw [if_pos c1]; rw [if_pos c2]; rw [if_neg c3]
        exact W.iret (v := (-1)) hx hb hr (fun t ht hW => ⟨⟨(-1), Y, rfl, by rw [E9], by rw [E9]; exact ⟨⟨by rw [ht]; exact hP, va_K.moved hW.alike hK, nst_w hW hN⟩, hD⟩⟩, hS.F ht⟩) hS.2.2 dX10_open_52
      · replace c3 := bo_t c3
        refine lv_iload_n hx hb dX10_open_28 rfl (lv_at hl 3 rfl) ?_
        refine lv_iload_n hx hb dX10_open_29 rfl (lv_at hl 4 rfl) ?_
        refine lv_icmp_eq (tgt := 51) hx hb dX10_open_30 (by decide) (fun c4 => ?_) (fun c4 => ?_)
        · refine lv_iconst (v := (-1)) hx hb dX10_open_51 (by decide) ?_
          have E9 : s_X11_open F M p0 p1 p2 = ((-1), (F, M)) := by unfold s_X11_open; rw [if_pos c1]; rw [if_pos c2]; rw [if_pos c3]; rw [if_pos c4]
          exact W.iret (v := (-1)) hx hb hr (fun t ht hW => ⟨⟨(-1), Y, rfl, by rw [E9], by rw [E9]; exact ⟨⟨by rw [ht]; exact hP, va_K.moved hW.alike hK, nst_w hW hN⟩, hD⟩⟩, hS.F ht⟩) hS.2.2 dX10_open_52
        · refine lv_iload_n hx hb dX10_open_33 rfl (lv_at hl 3 rfl) ?_
          refine lv_aload hx hb dX10_open_34 (lv_at hl 0 rfl) ?_
          refine rg_get (D := (dC, dI)) (r := (5, p0.toNatClampNeg)) (ci := 5) (v := .int (M 9 p0.toNatClampNeg)) (C := RX5) (T := TX5) (N := 9) hx hb hts hin5 hown hK hP ((hrl _).mpr (vd_5 (ix_cn c1 (iv_7 hI).1))) en_5 rfl 1 (by decide) (hts (.fieldLink RX10 121 "SocietyBook$Paper" "author" "I") (by decide +kernel)) (fun _ h9 => h9) rfl dX10_open_36 ?_
          refine lv_icmp_eq (tgt := 51) hx hb dX10_open_39 (by decide) (fun c5 => ?_) (fun c5 => ?_)
          · refine lv_iconst (v := (-1)) hx hb dX10_open_51 (by decide) ?_
            have E9 : s_X11_open F M p0 p1 p2 = ((-1), (F, M)) := by unfold s_X11_open; rw [if_pos c1]; rw [if_pos c2]; rw [if_pos c3]; rw [if_neg c4]; rw [if_pos c5]
            exact W.iret (v := (-1)) hx hb hr (fun t ht hW => ⟨⟨(-1), Y, rfl, by rw [E9], by rw [E9]; exact ⟨⟨by rw [ht]; exact hP, va_K.moved hW.alike hK, nst_w hW hN⟩, hD⟩⟩, hS.F ht⟩) hS.2.2 dX10_open_52
          · refine lv_iload_n hx hb dX10_open_42 rfl (lv_at hl 4 rfl) ?_
            refine lv_aload hx hb dX10_open_43 (lv_at hl 0 rfl) ?_
            refine rg_get (D := (dC, dI)) (r := (5, p0.toNatClampNeg)) (ci := 5) (v := .int (M 9 p0.toNatClampNeg)) (C := RX5) (T := TX5) (N := 9) hx hb hts hin5 hown hK hP ((hrl _).mpr (vd_5 (ix_cn c1 (iv_7 hI).1))) en_5 rfl 1 (by decide) (hts (.fieldLink RX10 121 "SocietyBook$Paper" "author" "I") (by decide +kernel)) (fun _ h9 => h9) rfl dX10_open_45 ?_
            refine lv_icmp_ne (tgt := 53) hx hb dX10_open_48 (by decide) (fun c6 => ?_) (fun c6 => ?_)
            · refine lv_aload hx hb dX10_open_53 (lv_at hl 0 rfl) ?_
              refine rg_get (D := (dC, dI)) (r := (5, p0.toNatClampNeg)) (ci := 5) (v := .int (M 8 p0.toNatClampNeg)) (C := RX5) (T := TX5) (N := 9) hx hb hts hin5 hown hK hP ((hrl _).mpr (vd_5 (ix_cn c1 (iv_7 hI).1))) en_5 rfl 0 (by decide) (hts (.fieldLink RX10 124 "SocietyBook$Paper" "kind" "I") (by decide +kernel)) (fun _ h9 => h9) rfl dX10_open_55 ?_
              refine lv_iconst (v := 1) hx hb dX10_open_58 (by decide) ?_
              refine lv_icmp_eq (tgt := 68) hx hb dX10_open_59 (by decide) (fun c7 => ?_) (fun c7 => ?_)
              · refine lv_aload hx hb dX10_open_68 (lv_at hl 0 rfl) ?_
                refine rg_get (D := (dC, dI)) (r := (5, p0.toNatClampNeg)) (ci := 5) (v := .int (M 15 p0.toNatClampNeg)) (C := RX5) (T := TX5) (N := 9) hx hb hts hin5 hown hK hP ((hrl _).mpr (vd_5 (ix_cn c1 (iv_7 hI).1))) en_5 rfl 7 (by decide) (hts (.fieldLink RX10 131 "SocietyBook$Paper" "openedOn" "I") (by decide +kernel)) (fun _ h9 => h9) rfl dX10_open_70 ?_
                refine lv_bipush (v := (-9)) hx hb dX10_open_73 (by decide) ?_
                refine lv_icmp_eq (tgt := 81) hx hb dX10_open_75 (by decide) (fun c8 => ?_) (fun c8 => ?_)
                · refine lv_aload hx hb dX10_open_81 (lv_at hl 0 rfl) ?_
                  refine lv_aload_n hx hb dX10_open_83 rfl (lv_at hl 1 rfl) ?_
                  refine rg_get (D := (dC, dI)) (r := (9, 0)) (ci := 9) (v := .int (F 3)) (C := RX10) (T := TX10) (N := 19) hx hb hts hin10 hown hK hP ((hrl _).mpr (vd_9 (by decide))) en_9 rfl 0 (by decide) (hts (.fieldLink RX10 65 "SocietyBook" "today" "I") (by decide +kernel)) (fun _ h9 => h9) rfl dX10_open_84 ?_
                  refine rg_put (D := (dC, dI)) (r := (5, p0.toNatClampNeg)) (ci := 5) (v := .int (F 3)) (ty := .int) (C := RX5) (T := TX5) (N := 9) hx hb hts hin5 tyX5 tyX5_ok nmX5 hown hK hP hD hS ((hrl _).mpr (vd_5 (ix_cn c1 (iv_7 hI).1))) en_5 rfl 7 (by decide) (hts (.fieldLink RX10 131 "SocietyBook$Paper" "openedOn" "I") (by decide +kernel)) (fun _ h9 => h9) rfl (by decide +kernel) rfl rfl (Nat.le_of_ble_eq_true rfl) dX10_open_87 (fun H locs hP hD hS => ?_)
                  replace hP : va_P (dC, dI) vwCl (rx_W rl ad (eC ad cy F (va_up M 15 (upd (M 15) p0.toNatClampNeg (F 3))) Y)) H := ec_mp (ec_5_7 ad cy F M Y p0.toNatClampNeg (F 3)) hP
                  replace hD : va_D A (rx_W rl ad (eC ad cy F (va_up M 15 (upd (M 15) p0.toNatClampNeg (F 3))) Y)) := rx_D hD
                  refine lv_iconst (v := 1) hx hb dX10_open_90 (by decide) ?_
                  have E9 : s_X11_open F M p0 p1 p2 = (1, (F, va_up M 15 (upd (M 15) p0.toNatClampNeg (F 3)))) := by unfold s_X11_open; rw [if_pos c1]; rw [if_pos c2]; rw [if_pos c3]; rw [if_neg c4]; rw [if_neg c5]; rw [if_neg c6]; rw [if_pos c7]; rw [if_pos c8]
                  exact W.iret (v := 1) hx hb hr (fun t ht hW => ⟨⟨1, Y, rfl, by rw [E9], by rw [E9]; exact ⟨⟨by rw [ht]; exact hP, va_K.moved hW.alike hK, nst_w hW hN⟩, hD⟩⟩, hS.F ht⟩) hS.2.2 dX10_open_91
                · refine lv_bipush (v := (-4)) hx hb dX10_open_78 (by decide) ?_
                  have E9 : s_X11_open F M p0 p1 p2 = ((-4), (F, M)) := by unfold s_X11_open; rw [if_pos c1]; rw [if_pos c2]; rw [if_pos c3]; rw [if_neg c4]; rw [if_neg c5]; rw [if_neg c6]; rw [if_pos c7]; rw [if_neg c8]
                  exact W.iret (v := (-4)) hx hb hr (fun t ht hW => ⟨⟨(-4), Y, rfl, by rw [E9], by rw [E9]; exact ⟨⟨by rw [ht]; exact hP, va_K.moved hW.alike hK, nst_w hW hN⟩, hD⟩⟩, hS.F ht⟩) hS.2.2 dX10_open_80
              · refine lv_aload_n hx hb dX10_open_62 rfl (lv_at hl 1 rfl) ?_
                refine lv_iconst (v := 3) hx hb dX10_open_63 (by decide) ?_
                refine va_calli (va_runV (As := [.int 3]) (rest := []) ⟨hx, hb, hml, hown, hts⟩ (c_X10_found l dC dI rl ad cy F M Y  3 hrl hI hJ A hD (ib_lit (by decide))) (cwV 1 hts gX10_open_X10_found rfl rfl rfl (by decide +kernel) ⟨Nat.le_of_ble_eq_true rfl, Nat.le_of_ble_eq_true rfl⟩) ⟨pc_blind, rg_recv hK hP ((hrl _).mpr (vd_9 (by decide))) (ci := 9) rfl en_9, fun U hU hW => ⟨rfl, by rw [hU]; exact hP, va_K.moved hW.alike hK, nst_w hW hN⟩⟩ rfl rfl hl.1 rfl (lv_room (Nat.le_of_ble_eq_true rfl)) dX10_open_64 ⟨Nat.zero_le _, Nat.zero_le _⟩) hS (fun q _ h => h) (fun q h => h) (fun r u t H1 locs ht hvm hw hB hz1 hk1 hS => ?_)
                subst hw
                obtain ⟨⟨hP, -, -⟩, hD⟩ := hB
                rw [ht] at hP
                clear hz1 hk1 ht hvm; generalize H1 = H at hP hS ⊢
                skip
                have E9 : s_X11_open F M p0 p1 p2 = ((s_X11_meets F M 3).1, ((s_X11_meets F M 3).2.1, (s_X11_meets F M 3).2.2)) := by unfold s_X11_open; rw [if_pos c1]; rw [if_pos c2]; rw [if_pos c3]; rw [if_neg c4]; rw [if_neg c5]; rw [if_neg c6]; rw [if_neg c7]
                exact W.iret (v := (s_X11_meets F M 3).1) hx hb hr (fun t ht hW => ⟨⟨(s_X11_meets F M 3).1, u, rfl, by rw [E9], by rw [E9]; exact ⟨⟨by rw [ht]; exact hP, va_K.moved hW.alike hK, nst_w hW hN⟩, hD⟩⟩, hS.F ht⟩) hS.2.2 dX10_open_67
            · refine lv_iconst (v := (-1)) hx hb dX10_open_51 (by decide) ?_
              have E9 : s_X11_open F M p0 p1 p2 = ((-1), (F, M)) := by unfold s_X11_open; rw [if_pos c1]; rw [if_pos c2]; rw [if_pos c3]; rw [if_neg c4]; rw [if_neg c5]; rw [if_pos c6]
              exact W.iret (v := (-1)) hx hb hr (fun t ht hW => ⟨⟨(-1), Y, rfl, by rw [E9], by rw [E9]; exact ⟨⟨by rw [ht]; exact hP, va_K.moved hW.alike hK, nst_w hW hN⟩, hD⟩⟩, hS.F ht⟩) hS.2.2 dX10_open_52
  · rw [if_neg c1]
    refine W.eq (g2 := F0 m 5 ls (.null :: [])) rfl ?_
    refine lv_astoreN (lv' := [(4, .null), (0, .ref (ad (9, 0))), (1, .int p0), (2, .int p1), (3, .int p2)]) hx hb dX10_open_5 hl (by decide) rfl (fun ls hl => ?_)
    refine lv_aloadN hx hb dX10_open_7 (lv_at hl 0 rfl) ?_
    refine lv_ifnullN (tgt := 51) hx hb dX10_open_9 (by decide) ?_
    refine lv_iconst (v := (-1)) hx hb dX10_open_51 (by decide) ?_
    have E9 : s_X11_open F M p0 p1 p2 = ((-1), (F, M)) := by unfold s_X11_open; rw [if_neg c1]
    exact W.iret (v := (-1)) hx hb hr (fun t ht hW => ⟨⟨(-1), Y, rfl, by rw [E9], by rw [E9]; exact ⟨⟨by rw [ht]; exact hP, va_K.moved hW.alike hK, nst_w hW hN⟩, hD⟩⟩, hS.F ht⟩) hS.2.2 dX10_open_52

set_option maxHeartbeats 4000000 in
set_option maxRecDepth 100000 in
theorem c_X10_medal (l : Launch) (dC : Nat → ClassId) (dI : Nat → Nat → Nat) (rl : List (Nat × Nat)) (ad : Nat × Nat → Nat) (cy : Nat → ClassId) (F : Nat → Int32) (M Y : Nat → Nat → Int32) (p0 : Int32) (p1 : Int32) (p2 : Int32) (hrl : ∀ r, r ∈ rl ↔ vd F r) (hI : iv F M) (hJ : jv F M) (A : Nat → Prop) (hD : va_D A (rx_W rl ad (eC ad cy F M Y))) : Met l yX10_medal wsX10_medal ({ frames := 2, cells := 0, slots := 0, locals := 42 } : Room) (va_Pc [.ref (ad (9, 0)), .int p0, .int p1, .int p2] (pC dC dI rl ad cy (eC ad cy F M Y))) (va_Qi (fun r (_ : Nat → Nat → Int32) => r = (s_X11_medal F M p0 p1 p2).1) (qC A dC dI rl ad cy (s_X11_medal F M p0 p1 p2).2.1 (s_X11_medal F M p0 p1 p2).2.2) A) 0 0 A := by
  refine Met.ofW (cc := cX10_medal) (maxL := 4) (ret := (some .int)) (by decide) rfl ?_
  intro p e s m args below meth c s₁ B hml hv
  obtain ⟨rfl, hP, hK, hN⟩ := hv
  have hx := B.exec
  have hb := B.bytes
  have hr := B.returns
  have hts := atoms_spec (ws := wsX10_medal) B.pre
  have hown : s.vm.findClass RX10 = some m.cls := findClass_of_methodNamed B.named
  have hlocks := B.notSynchronized
  have hin10 : ∀ w ∈ wsX100, w ∈ wsX10_medal := by decide +kernel
  have hin3 : ∀ w ∈ wsX30, w ∈ wsX10_medal := by decide +kernel
  have hS : va_S A s.heap s.heap [] := va_S.rf
  have hl := lv_entry ([.ref (ad (9, 0)), .int p0, .int p1, .int p2]) (n := 4) (Nat.le_of_ble_eq_true rfl)
  rw [lg_entry_eq]
  generalize (lg_sl ([.ref (ad (9, 0)), .int p0, .int p1, .int p2]) ++ List.replicate (4 - (lg_sl ([.ref (ad (9, 0)), .int p0, .int p1, .int p2])).length) Slot.unset).toArray = ls at hl ⊢
  have hl : lv_has ls 4 [(0, .ref (ad (9, 0))), (1, .int p0), (2, .int p1), (3, .int p2)] := hl
  refine lv_iload_n hx hb dX10_medal_0 rfl (lv_at hl 1 rfl) ?_
  refine lv_iconst (v := 0) hx hb dX10_medal_1 (by decide) ?_
  refine lv_iconst (v := 3) hx hb dX10_medal_2 (by decide) ?_
  refine vp_callSi (W.runS (As := [.int p0, .int 0, .int 3]) (rest := []) ⟨hx, hb, hml, hown, hts⟩ (c_X10_isWithin l p0 0 3) (va_cwS 3 hts gX10_medal_X10_isWithin rfl rfl rfl (by decide +kernel) ⟨Nat.le_of_ble_eq_true rfl, Nat.le_of_ble_eq_true rfl⟩) ⟨fun _ _ _ _ q => q, fun U hU hW => ⟨rfl, trivial⟩⟩ rfl rfl hl.1 rfl (lv_room (Nat.le_of_ble_eq_true rfl)) dX10_medal_3 ⟨Nat.zero_le _, Nat.zero_le _⟩) (fun r hr9 => ?_)
  subst hr9
  refine lv_if_eq (tgt := 23) hx hb dX10_medal_6 (by decide) (fun c1 => ?_) (fun c1 => ?_)
  · replace c1 := bo_f c1
    refine lv_iconst (v := (-1)) hx hb dX10_medal_23 (by decide) ?_
    have E9 : s_X11_medal F M p0 p1 p2 = ((-1), (F, M)) := by unfold s_X11_medal; rw [if_neg c1]
    exact W.iret (v := (-1)) hx hb hr (fun t ht hW => ⟨⟨(-1), Y, rfl, by rw [E9], by rw [E9]; exact ⟨⟨by rw [ht]; exact hP, va_K.moved hW.alike hK, nst_w hW hN⟩, hD⟩⟩, hS.F ht⟩) hS.2.2 dX10_medal_24
  · replace c1 := bo_t c1
    refine lv_iload_n hx hb dX10_medal_9 rfl (lv_at hl 2 rfl) ?_
    refine vp_callSi (W.runS (As := [.int p1]) (rest := []) ⟨hx, hb, hml, hown, hts⟩ (c_X10_isDay l p1) (va_cwS 1 hts gX10_medal_X10_isDay rfl rfl rfl (by decide +kernel) ⟨Nat.le_of_ble_eq_true rfl, Nat.le_of_ble_eq_true rfl⟩) ⟨fun _ _ _ _ q => q, fun U hU hW => ⟨rfl, trivial⟩⟩ rfl rfl hl.1 rfl (lv_room (Nat.le_of_ble_eq_true rfl)) dX10_medal_10 ⟨Nat.zero_le _, Nat.zero_le _⟩) (fun r hr9 => ?_)
    subst hr9
    refine lv_if_eq (tgt := 23) hx hb dX10_medal_13 (by decide) (fun c2 => ?_) (fun c2 => ?_)
    · replace c2 := bo_f c2
      refine lv_iconst (v := (-1)) hx hb dX10_medal_23 (by decide) ?_
      have E9 : s_X11_medal F M p0 p1 p2 = ((-1), (F, M)) := by unfold s_X11_medal; rw [if_pos c1]; rw [if_neg c2]
      exact W.iret (v := (-1)) hx hb hr (fun t ht hW => ⟨⟨(-1), Y, rfl, by rw [E9], by rw [E9]; exact ⟨⟨by rw [ht]; exact hP, va_K.moved hW.alike hK, nst_w hW hN⟩, hD⟩⟩, hS.F ht⟩) hS.2.2 dX10_medal_24
    · replace c2 := bo_t c2
      refine lv_iload_n hx hb dX10_medal_16 rfl (lv_at hl 3 rfl) ?_
      refine vp_callSi (W.runS (As := [.int p2]) (rest := []) ⟨hx, hb, hml, hown, hts⟩ (c_X10_isDay l p2) (va_cwS 1 hts gX10_medal_X10_isDay rfl rfl rfl (by decide +kernel) ⟨Nat.le_of_ble_eq_true rfl, Nat.le_of_ble_eq_true rfl⟩) ⟨fun _ _ _ _ q => q, fun U hU hW => ⟨rfl, trivial⟩⟩ rfl rfl hl.1 rfl (lv_room (Nat.le_of_ble_eq_true rfl)) dX10_medal_17 ⟨Nat.zero_le _, Nat.zero_le _⟩) (fun r hr9 => ?_)
      subst hr9
      refine lv_if_ne (tgt := 25) hx hb dX10_medal_20 (by decide) (fun c3 => ?_) (fun c3 => ?_)
      · replace c3 := bo_t c3
        refine lv_aload_n hx hb dX10_medal_25 rfl (lv_at hl 0 rfl) ?_
        refine rg_get (D := (dC, dI)) (r := (9, 0)) (ci := 9) (v := .ref (ad (16, 0))) (C := RX10) (T := TX10) (N := 19) hx hb hts hin10 hown hK hP ((hrl _).mpr (vd_9 (by decide))) en_9 rfl 12 (by decide) (hts (.fieldLink RX10 41 "SocietyBook" "medalRow" "[LSocietyBook$Medal;") (by decide +kernel)) (fun _ h9 => h9) rfl dX10_medal_26 ?_
        refine lv_iload_n hx hb dX10_medal_29 rfl (lv_at hl 1 rfl) ?_
        refine rg_aldq (r := (16, 0)) (v := .ref (ad (3, p0.toNatClampNeg))) hx hb hK hP ((hrl _).mpr (vd_16 (by decide))) 8 en_16 rfl (ib_in c1 (by decide)) rfl dX10_medal_30 ?_
        refine lv_iload_n hx hb dX10_medal_31 rfl (lv_at hl 2 rfl) ?_
        refine rg_put (D := (dC, dI)) (r := (3, p0.toNatClampNeg)) (ci := 3) (v := .int p1) (ty := .int) (C := RX3) (T := TX3) (N := 4) hx hb hts hin3 tyX3 tyX3_ok nmX3 hown hK hP hD hS ((hrl _).mpr (vd_3 (ib_cl (ib_in c1 (by decide))).2)) en_3 rfl 0 (by decide) (hts (.fieldLink RX10 206 "SocietyBook$Medal" "gap" "I") (by decide +kernel)) (fun _ h9 => h9) rfl (by decide +kernel) rfl rfl (Nat.le_of_ble_eq_true rfl) dX10_medal_32 (fun H locs hP hD hS => ?_)
        replace hP : va_P (dC, dI) vwCl (rx_W rl ad (eC ad cy F (va_up M 36 (upd (M 36) p0.toNatClampNeg p1)) Y)) H := ec_mp (ec_3_0 ad cy F M Y p0.toNatClampNeg p1) hP
        replace hD : va_D A (rx_W rl ad (eC ad cy F (va_up M 36 (upd (M 36) p0.toNatClampNeg p1)) Y)) := rx_D hD
        refine lv_aload_n hx hb dX10_medal_35 rfl (lv_at hl 0 rfl) ?_
        refine rg_get (D := (dC, dI)) (r := (9, 0)) (ci := 9) (v := .ref (ad (16, 0))) (C := RX10) (T := TX10) (N := 19) hx hb hts hin10 hown hK hP ((hrl _).mpr (vd_9 (by decide))) en_9 rfl 12 (by decide) (hts (.fieldLink RX10 41 "SocietyBook" "medalRow" "[LSocietyBook$Medal;") (by decide +kernel)) (fun _ h9 => h9) rfl dX10_medal_36 ?_
        refine lv_iload_n hx hb dX10_medal_39 rfl (lv_at hl 1 rfl) ?_
        refine rg_aldq (r := (16, 0)) (v := .ref (ad (3, p0.toNatClampNeg))) hx hb hK hP ((hrl _).mpr (vd_16 (by decide))) 8 en_16 rfl (ib_in c1 (by decide)) rfl dX10_medal_40 ?_
        refine lv_iload_n hx hb dX10_medal_41 rfl (lv_at hl 3 rfl) ?_
        refine rg_put (D := (dC, dI)) (r := (3, p0.toNatClampNeg)) (ci := 3) (v := .int p2) (ty := .int) (C := RX3) (T := TX3) (N := 4) hx hb hts hin3 tyX3 tyX3_ok nmX3 hown hK hP hD hS ((hrl _).mpr (vd_3 (ib_cl (ib_in c1 (by decide))).2)) en_3 rfl 1 (by decide) (hts (.fieldLink RX10 209 "SocietyBook$Medal" "within" "I") (by decide +kernel)) (fun _ h9 => h9) rfl (by decide +kernel) rfl rfl (Nat.le_of_ble_eq_true rfl) dX10_medal_42 (fun H locs hP hD hS => ?_)
        replace hP : va_P (dC, dI) vwCl (rx_W rl ad (eC ad cy F (va_up (va_up M 36 (upd (M 36) p0.toNatClampNeg p1)) 37 (upd (M 37) p0.toNatClampNeg p2)) Y)) H := ec_mp (ec_3_1 ad cy F (va_up M 36 (upd (M 36) p0.toNatClampNeg p1)) Y p0.toNatClampNeg p2) hP
        replace hD : va_D A (rx_W rl ad (eC ad cy F (va_up (va_up M 36 (upd (M 36) p0.toNatClampNeg p1)) 37 (upd (M 37) p0.toNatClampNeg p2)) Y)) := rx_D hD
        refine lv_iconst (v := 1) hx hb dX10_medal_45 (by decide) ?_
        have E9 : s_X11_medal F M p0 p1 p2 = (1, (F, va_up (va_up M 36 (upd (M 36) p0.toNatClampNeg p1)) 37 (upd (M 37) p0.toNatClampNeg p2))) := by unfold s_X11_medal; rw [if_pos c1]; rw [if_pos c2]; rw [if_pos c3]
        exact W.iret (v := 1) hx hb hr (fun t ht hW => ⟨⟨1, Y, rfl, by rw [E9], by rw [E9]; exact ⟨⟨by rw [ht]; exact hP, va_K.moved hW.alike hK, nst_w hW hN⟩, hD⟩⟩, hS.F ht⟩) hS.2.2 dX10_medal_46
      · replace c3 := bo_f c3
        refine lv_iconst (v := (-1)) hx hb dX10_medal_23 (by decide) ?_
        have E9 : s_X11_medal F M p0 p1 p2 = ((-1), (F, M)) := by unfold s_X11_medal; rw [if_pos c1]; rw [if_pos c2]; rw [if_neg c3]
        exact W.iret (v := (-1)) hx hb hr (fun t ht hW => ⟨⟨(-1), Y, rfl, by rw [E9], by rw [E9]; exact ⟨⟨by rw [ht]; exact hP, va_K.moved hW.alike hK, nst_w hW hN⟩, hD⟩⟩, hS.F ht⟩) hS.2.2 dX10_medal_24
