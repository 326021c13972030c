theorem hcj {F : Nat → Int32} {M : Nat → Nat → Int32} (hJ : jv F M) : ∀ x, x < 12 → in9 (M 42 x) := by
  intro x hx
  have h := jv_h hJ x (by omega)
  have h1 := ib_le.mp h.1
  have h2 := ib_le.mp h.2
  rw [ib_0] at h1
  rw [show (9 : Int32).toInt = 9 from by decide] at h2
  exact ⟨h1, h2⟩
theorem c_goes (l : Launch) (dC : Nat → ClassId) (dI : Nat → Nat → Nat) (h : Nat) (a : Nat → Nat) (cI cB cZ : ClassId) (F : Nat → Int32) (M : Nat → Nat → Int32) (A : Nat → Prop) (hD : va_D A (wM h a cI cB cZ F M)) : Met l yX11_goes wsX11_goes ({ frames := 0, cells := 0, slots := 0, locals := 0 } : Room) (va_Pc [.ref h] (pM dC dI h a cI cB cZ F M)) (va_Qi (fun r u => (r, u) = s_goes F M) (qM A dC dI h a cI cB cZ) A) 0 0 A :=
  c_X11_goes l dC dI h a cI cB cZ F M A hD (gN1 F M) (gN2 F M) (gN_ok F M).1 (gN_ok F M).2.1 (gN_ok F M).2.2.1 (fun i hi j hj => (goN_B1 (gN_ok F M) i hi j hj).1) (fun i hi j hj => (goN_B1 (gN_ok F M) i hi j hj).2) (goN_q (gN_ok F M))
theorem n32_ex : ∃ n : Nat, n = 32 := ⟨32, rfl⟩
noncomputable def n32 : Nat := Classical.choose n32_ex
theorem n32_eq : n32 = 32 := Classical.choose_spec n32_ex
theorem lb_n62 {i : Nat} (h : i < n32) : ¬ (62 : Int32) < nI (2 * i) := by
  rw [n32_eq] at h
  intro q
  have q2 := ib_lt.mp q
  rw [nI_toInt (by omega), show (62 : Int32).toInt = 62 from by decide] at q2
  omega
theorem lb_y62 : (62 : Int32) < nI (2 * n32) := by rw [n32_eq]; decide

set_option maxHeartbeats 4000000 in
set_option maxRecDepth 100000 in
theorem c_X11_mostSwaps (l : Launch) (dC : Nat → ClassId) (dI : Nat → Nat → Nat) (h : Nat) (a : Nat → Nat) (cI cB cZ : ClassId) (F : Nat → Int32) (M : Nat → Nat → Int32) (p0 : Int32) (A : Nat → Prop) (hD : va_D A (wM h a cI cB cZ F M)) (hc : ∀ x, x < 12 → in9 (M 42 x)) : Met l yX11_mostSwaps wsX11_mostSwaps ({ frames := 2, cells := 0, slots := 0, locals := 45 } : Room) (va_Pc [.ref h, .int p0] (pM dC dI h a cI cB cZ F M)) (va_Qi (fun r u => (r, u) = s_X11_mostSwaps F M p0) (qM A dC dI h a cI cB cZ) A) 0 0 A := by
  refine Met.ofW (cc := cX11_mostSwaps) (maxL := 3) (ret := (some .int)) (by decide) rfl ?_
  intro p e s m args below meth c s₁ B hml hv
  obtain ⟨rfl, hP, hK⟩ := hv
  have hx := B.exec
  have hb := B.bytes
  have hr := B.returns
  have hts := atoms_spec (ws := wsX11_mostSwaps) B.pre
  have hown : s.vm.findClass RX11 = some m.cls := findClass_of_methodNamed B.named
  have hlocks := B.notSynchronized
  have hS : va_S A s.heap s.heap [] := va_S.rf
  have hl := lv_entry ([.ref h, .int p0]) (n := 3) (Nat.le_of_ble_eq_true rfl)
  rw [lg_entry_eq]
  generalize (lg_sl ([.ref h, .int p0]) ++ List.replicate (3 - (lg_sl ([.ref h, .int p0])).length) Slot.unset).toArray = ls at hl ⊢
  have hl : lv_has ls 3 [(0, .ref h), (1, .int p0)] := hl
  refine lv_aload_n hx hb dX11_mostSwaps_0 rfl (lv_at hl 0 rfl) ?_
  refine lv_iload_n hx hb dX11_mostSwaps_1 rfl (lv_at hl 1 rfl) ?_
  refine va_callv (va_runV (As := [.int p0]) (rest := []) ⟨hx, hb, hml, hown, hts⟩ (c_X11_layRoom l dC dI h a cI cB cZ F M p0 A hD) (cwV 1 hts gX11_mostSwaps_X11_layRoom rfl rfl rfl (by decide +kernel) ⟨Nat.le_of_ble_eq_true rfl, Nat.le_of_ble_eq_true rfl⟩) ⟨pm_blind, va_recv hK hP (ci := 10) (q0 := 0) rfl rfl, fun U hU hW => ⟨rfl, by rw [hU]; exact hP, va_K.moved hW.alike hK⟩⟩ rfl rfl hl.1 rfl (lv_room (Nat.le_of_ble_eq_true rfl)) dX11_mostSwaps_2 ⟨Nat.zero_le _, Nat.zero_le _⟩) hS (fun q _ h => h) (fun q h => h) (fun u t H1 locs ht hvm hw hB hz1 hk1 hS => ?_)
  subst hw
  obtain ⟨⟨hP, -⟩, hD⟩ := hB
  rw [ht] at hP
  clear hz1 hk1 ht hvm; generalize H1 = H at hP hS ⊢
  replace hP : va_P (dC, dI) vwCl (wM h a cI cB cZ F (va_up M 46 (L_lay2 F M p0 12))) H := hP
  replace hD : va_D A (wM h a cI cB cZ F (va_up M 46 (L_lay2 F M p0 12))) := hD
  refine lv_iconst (v := 0) hx hb dX11_mostSwaps_5 (by decide) ?_
  refine lv_istore_n (lv' := [(2, .int 0), (0, .ref h), (1, .int p0)]) hx hb dX11_mostSwaps_6 rfl hl (by decide) rfl (fun ls hl => ?_)
  refine lp_forH (N := gN F M p0) (lv := fun i1 => [(2, .int (nI i1)), (0, .ref h), (1, .int p0)]) (wd := fun i1 => wM h a cI cB cZ F (gG F M p0 i1)) hP hD hS (lv_sub hl [0, 1, 2] rfl) (fun i1 hi1 ls H locs hl hP hD hS kk1 => ?_) (fun ls H locs hl hP hD hS => ?_)
  · replace hl : lv_has ls 3 [(2, .int (nI i1)), (0, .ref h), (1, .int p0)] := hl
    replace hP : va_P (dC, dI) vwCl (wM h a cI cB cZ F (gG F M p0 i1)) H := hP
    replace hD : va_D A (wM h a cI cB cZ F (gG F M p0 i1)) := hD
    refine lv_aload_n hx hb dX11_mostSwaps_7 rfl (lv_at hl 1 rfl) ?_
    refine va_calli (va_runV (As := []) (rest := []) ⟨hx, hb, hml, hown, hts⟩ (c_goes l dC dI h a cI cB cZ F (gG F M p0 i1)  A hD) (cwV 0 hts gX11_mostSwaps_X11_goes rfl rfl rfl (by decide +kernel) ⟨Nat.le_of_ble_eq_true rfl, Nat.le_of_ble_eq_true rfl⟩) ⟨pm_blind, va_recv hK hP (ci := 10) (q0 := 0) rfl rfl, fun U hU hW => ⟨rfl, by rw [hU]; exact hP, va_K.moved hW.alike hK⟩⟩ rfl rfl hl.1 rfl (lv_room (Nat.le_of_ble_eq_true rfl)) dX11_mostSwaps_8 ⟨Nat.zero_le _, Nat.zero_le _⟩) hS (fun q _ h => h) (fun q h => h) (fun r u t H1 locs ht hvm hw hB hz1 hk1 hS => ?_)
    obtain ⟨hr9, hu9⟩ : r = (s_goes F (gG F M p0 i1)).1 ∧ u = (s_goes F (gG F M p0 i1)).2 := ⟨congrArg Prod.fst hw, congrArg Prod.snd hw⟩
    subst hr9; subst hu9
    obtain ⟨⟨hP, -⟩, hD⟩ := hB
    rw [ht] at hP
    clear hw hz1 hk1 ht hvm; generalize H1 = H at hP hS ⊢
    refine lv_if_eq (tgt := 20) hx hb dX11_mostSwaps_11 (by decide) (fun c => absurd c (((gN_s (F := F) hc p0).2).1 _ hi1)) (fun _ => ?_)
    refine lv_iinc (v := nI (i1 + 1)) (lv' := [(2, .int (nI (i1 + 1))), (0, .ref h), (1, .int p0)]) hx hb dX11_mostSwaps_14 hl (k := 0) rfl (nI_1 i1) (by decide) rfl (fun ls hl => ?_)
    refine lv_goto (tgt := 7) hx hb dX11_mostSwaps_17 (by decide) ?_
    refine kk1 ls H locs (lv_sub hl [0, 1, 2] rfl) (show va_P (dC, dI) vwCl (wM h a cI cB cZ F (gG F M p0 (i1 + 1))) H from ?_) (show va_D A (wM h a cI cB cZ F (gG F M p0 (i1 + 1))) from ?_) hS
    · rw [gG]; rw [gG_F hc p0 hi1] at hP; exact hP
    · rw [gG]; rw [gG_F hc p0 hi1] at hD; exact hD
  · replace hl : lv_has ls 3 [(2, .int (nI (gN F M p0))), (0, .ref h), (1, .int p0)] := hl
    replace hP : va_P (dC, dI) vwCl (wM h a cI cB cZ F (gG F M p0 (gN F M p0))) H := hP
    replace hD : va_D A (wM h a cI cB cZ F (gG F M p0 (gN F M p0))) := hD
    refine lv_aload_n hx hb dX11_mostSwaps_7 rfl (lv_at hl 1 rfl) ?_
    refine va_calli (va_runV (As := []) (rest := []) ⟨hx, hb, hml, hown, hts⟩ (c_goes l dC dI h a cI cB cZ F (gG F M p0 (gN F M p0))  A hD) (cwV 0 hts gX11_mostSwaps_X11_goes rfl rfl rfl (by decide +kernel) ⟨Nat.le_of_ble_eq_true rfl, Nat.le_of_ble_eq_true rfl⟩) ⟨pm_blind, va_recv hK hP (ci := 10) (q0 := 0) rfl rfl, fun U hU hW => ⟨rfl, by rw [hU]; exact hP, va_K.moved hW.alike hK⟩⟩ rfl rfl hl.1 rfl (lv_room (Nat.le_of_ble_eq_true rfl)) dX11_mostSwaps_8 ⟨Nat.zero_le _, Nat.zero_le _⟩) hS (fun q _ h => h) (fun q h => h) (fun r u t H1 locs ht hvm hw hB hz1 hk1 hS => ?_)
    obtain ⟨hr9, hu9⟩ : r = (s_goes F (gG F M p0 (gN F M p0))).1 ∧ u = (s_goes F (gG F M p0 (gN F M p0))).2 := ⟨congrArg Prod.fst hw, congrArg Prod.snd hw⟩
    subst hr9; subst hu9
    obtain ⟨⟨hP, -⟩, hD⟩ := hB
    rw [ht] at hP
    clear hw hz1 hk1 ht hvm; generalize H1 = H at hP hS ⊢
    refine lv_if_eq (tgt := 20) hx hb dX11_mostSwaps_11 (by decide) (fun _ => ?_) (fun c => absurd ((gN_s (F := F) hc p0).2).2 c)
    refine lv_iload_n hx hb dX11_mostSwaps_20 rfl (lv_at hl 0 rfl) ?_
    exact W.iret (v := nI (gN F M p0)) hx hb hr (fun t ht hW => ⟨⟨nI (gN F M p0), ((s_goes F (gG F M p0 (gN F M p0))).2.1, (s_goes F (gG F M p0 (gN F M p0))).2.2), rfl, by exact Prod.ext rfl (gZ_ok hc p0), ⟨by rw [ht]; exact hP, va_K.moved hW.alike hK⟩, hD⟩, hS.F ht⟩) hS.2.2 dX11_mostSwaps_21

noncomputable def s_X11_swaps (F : Nat → Int32) (M : Nat → Nat → Int32) (p0 : Int32) : Int32 × ((Nat → Int32) × (Nat → Nat → Int32)) :=
  if p0 < 0 then ((-1), (F, M)) else
  if 62 < p0 then ((-1), (F, M)) else
  if (p0 - p0 / 2 * 2) = 0 then ((s_X11_mostSwaps F M p0).1, (F, va_up (va_up (va_up M 46 (gZ F M p0 46)) 47 (gZ F M p0 47)) 48 (gZ F M p0 48))) else
  ((-1), (F, M))
set_option maxHeartbeats 4000000 in
set_option maxRecDepth 100000 in
theorem c_X11_swaps (l : Launch) (dC : Nat → ClassId) (dI : Nat → Nat → Nat) (h : Nat) (a : Nat → Nat) (cI cB cZ : ClassId) (F : Nat → Int32) (M : Nat → Nat → Int32) (p0 : Int32) (A : Nat → Prop) (hD : va_D A (wM h a cI cB cZ F M)) (hJ : jv F M) : Met l yX11_swaps wsX11_swaps ({ frames := 3, cells := 0, slots := 0, locals := 67 } : Room) (va_Pc [.ref h, .int p0] (pM dC dI h a cI cB cZ F M)) (va_Qi (fun r u => (r, u) = s_X11_swaps F M p0) (qM A dC dI h a cI cB cZ) A) 0 0 A := by
  refine Met.ofW (cc := cX11_swaps) (maxL := 2) (ret := (some .int)) (by decide) rfl ?_
  intro p e s m args below meth c s₁ B hml hv
  obtain ⟨rfl, hP, hK⟩ := hv
  have hx := B.exec
  have hb := B.bytes
  have hr := B.returns
  have hts := atoms_spec (ws := wsX11_swaps) B.pre
  have hown : s.vm.findClass RX11 = some m.cls := findClass_of_methodNamed B.named
  have hlocks := B.notSynchronized
  have hS : va_S A s.heap s.heap [] := va_S.rf
  have hl := lv_entry ([.ref h, .int p0]) (n := 2) (Nat.le_of_ble_eq_true rfl)
  rw [lg_entry_eq]
  generalize (lg_sl ([.ref h, .int p0]) ++ List.replicate (2 - (lg_sl ([.ref h, .int p0])).length) Slot.unset).toArray = ls at hl ⊢
  have hl : lv_has ls 2 [(0, .ref h), (1, .int p0)] := hl
  refine lv_iload_n hx hb dX11_swaps_0 rfl (lv_at hl 1 rfl) ?_
  refine lv_if_lt (tgt := 24) hx hb dX11_swaps_1 (by decide) (fun c1 => ?_) (fun c1 => ?_)
  · refine lv_iconst (v := (-1)) hx hb dX11_swaps_24 (by decide) ?_
    exact W.iret (v := (-1)) hx hb hr (fun t ht hW => ⟨⟨(-1), (F, M), rfl, by unfold s_X11_swaps; rw [if_pos c1], ⟨by rw [ht]; exact hP, va_K.moved hW.alike hK⟩, hD⟩, hS.F ht⟩) hS.2.2 dX11_swaps_25
  · refine lv_iload_n hx hb dX11_swaps_4 rfl (lv_at hl 1 rfl) ?_
    refine lv_bipush (v := 62) hx hb dX11_swaps_5 (by decide) ?_
    refine lv_icmp_gt (tgt := 24) hx hb dX11_swaps_7 (by decide) (fun c2 => ?_) (fun c2 => ?_)
    · refine lv_iconst (v := (-1)) hx hb dX11_swaps_24 (by decide) ?_
      exact W.iret (v := (-1)) hx hb hr (fun t ht hW => ⟨⟨(-1), (F, M), rfl, by unfold s_X11_swaps; rw [if_neg c1, if_pos c2], ⟨by rw [ht]; exact hP, va_K.moved hW.alike hK⟩, hD⟩, hS.F ht⟩) hS.2.2 dX11_swaps_25
    · refine lv_iload_n hx hb dX11_swaps_10 rfl (lv_at hl 1 rfl) ?_
      refine lv_iconst (v := 2) hx hb dX11_swaps_11 (by decide) ?_
      refine lv_irem hx hb dX11_swaps_12 (by decide) ?_
      refine lv_if_ne (tgt := 24) hx hb dX11_swaps_13 (by decide) (fun c3 => ?_) (fun c3 => ?_)
      · refine lv_iconst (v := (-1)) hx hb dX11_swaps_24 (by decide) ?_
        exact W.iret (v := (-1)) hx hb hr (fun t ht hW => ⟨⟨(-1), (F, M), rfl, by unfold s_X11_swaps; rw [if_neg c1, if_neg c2, if_neg c3], ⟨by rw [ht]; exact hP, va_K.moved hW.alike hK⟩, hD⟩, hS.F ht⟩) hS.2.2 dX11_swaps_25
      · refine lv_aload_n hx hb dX11_swaps_16 rfl (lv_at hl 0 rfl) ?_
        refine lv_iload_n hx hb dX11_swaps_17 rfl (lv_at hl 1 rfl) ?_
        refine va_calli (va_runV (As := [.int p0]) (rest := []) ⟨hx, hb, hml, hown, hts⟩ (c_X11_mostSwaps l dC dI h a cI cB cZ F M p0 A hD (fun x hx => (hcj hJ x hx : in9 (M 42 x)))) (cwV 1 hts gX11_swaps_X11_mostSwaps rfl rfl rfl (by decide +kernel) ⟨Nat.le_of_ble_eq_true rfl, Nat.le_of_ble_eq_true rfl⟩) ⟨pm_blind, va_recv hK hP (ci := 10) (q0 := 0) rfl rfl, fun U hU hW => ⟨rfl, by rw [hU]; exact hP, va_K.moved hW.alike hK⟩⟩ rfl rfl hl.1 rfl (lv_room (Nat.le_of_ble_eq_true rfl)) dX11_swaps_18 ⟨Nat.zero_le _, Nat.zero_le _⟩) hS (fun q _ h => h) (fun q h => h) (fun r u t H1 locs ht hvm hw hB hz1 hk1 hS => ?_)
        obtain ⟨hr9, hu9⟩ : r = (s_X11_mostSwaps F M p0).1 ∧ u = (s_X11_mostSwaps F M p0).2 := ⟨congrArg Prod.fst hw, congrArg Prod.snd hw⟩
        subst hr9; subst hu9
        obtain ⟨⟨hP, -⟩, hD⟩ := hB
        rw [ht] at hP
        clear hw hz1 hk1 ht hvm; generalize H1 = H at hP hS ⊢
        replace hP : va_P (dC, dI) vwCl (wM h a cI cB cZ F (va_up (va_up (va_up M 46 (gZ F M p0 46)) 47 (gZ F M p0 47)) 48 (gZ F M p0 48))) H := hP
        replace hD : va_D A (wM h a cI cB cZ F (va_up (va_up (va_up M 46 (gZ F M p0 46)) 47 (gZ F M p0 47)) 48 (gZ F M p0 48))) := hD
        refine lv_goto (tgt := 25) hx hb dX11_swaps_21 (by decide) ?_
        exact W.iret (v := (s_X11_mostSwaps F M p0).1) hx hb hr (fun t ht hW => ⟨⟨(s_X11_mostSwaps F M p0).1, (F, va_up (va_up (va_up M 46 (gZ F M p0 46)) 47 (gZ F M p0 47)) 48 (gZ F M p0 48)), rfl, by unfold s_X11_swaps; rw [if_neg c1, if_neg c2, if_pos c3], ⟨by rw [ht]; exact hP, va_K.moved hW.alike hK⟩, hD⟩, hS.F ht⟩) hS.2.2 dX11_swaps_25

noncomputable def L_whole (F : Nat → Int32) (M : Nat → Nat → Int32)  : Nat → Int32 × (Nat → Int32) × (Nat → Int32) × (Nat → Int32)
  | 0 => ((-9), M 46, M 47, M 48)
  | i1 + 1 =>
    if ((L_whole F M i1).1) = (-9) then (if ((s_X11_mostSwaps F (va_up (va_up (va_up M 46 ((L_whole F M i1).2.1)) 47 ((L_whole F M i1).2.2.1)) 48 ((L_whole F M i1).2.2.2)) (nI (2 * i1))).1) = (s_X11_bitsOf (s_X11_lacking F M)) then (nI (2 * i1), gZ F (va_up (va_up (va_up M 46 ((L_whole F M i1).2.1)) 47 ((L_whole F M i1).2.2.1)) 48 ((L_whole F M i1).2.2.2)) (nI (2 * i1)) 46, gZ F (va_up (va_up (va_up M 46 ((L_whole F M i1).2.1)) 47 ((L_whole F M i1).2.2.1)) 48 ((L_whole F M i1).2.2.2)) (nI (2 * i1)) 47, gZ F (va_up (va_up (va_up M 46 ((L_whole F M i1).2.1)) 47 ((L_whole F M i1).2.2.1)) 48 ((L_whole F M i1).2.2.2)) (nI (2 * i1)) 48) else
      ((L_whole F M i1).1, gZ F (va_up (va_up (va_up M 46 ((L_whole F M i1).2.1)) 47 ((L_whole F M i1).2.2.1)) 48 ((L_whole F M i1).2.2.2)) (nI (2 * i1)) 46, gZ F (va_up (va_up (va_up M 46 ((L_whole F M i1).2.1)) 47 ((L_whole F M i1).2.2.1)) 48 ((L_whole F M i1).2.2.2)) (nI (2 * i1)) 47, gZ F (va_up (va_up (va_up M 46 ((L_whole F M i1).2.1)) 47 ((L_whole F M i1).2.2.1)) 48 ((L_whole F M i1).2.2.2)) (nI (2 * i1)) 48)) else
    if (s_X11_bitsOf ((L_whole F M i1).1)) ≤ (s_X11_bitsOf (nI (2 * i1))) then ((L_whole F M i1).1, (L_whole F M i1).2.1, (L_whole F M i1).2.2.1, (L_whole F M i1).2.2.2) else
    if ((s_X11_mostSwaps F (va_up (va_up (va_up M 46 ((L_whole F M i1).2.1)) 47 ((L_whole F M i1).2.2.1)) 48 ((L_whole F M i1).2.2.2)) (nI (2 * i1))).1) = (s_X11_bitsOf (s_X11_lacking F M)) then (nI (2 * i1), gZ F (va_up (va_up (va_up M 46 ((L_whole F M i1).2.1)) 47 ((L_whole F M i1).2.2.1)) 48 ((L_whole F M i1).2.2.2)) (nI (2 * i1)) 46, gZ F (va_up (va_up (va_up M 46 ((L_whole F M i1).2.1)) 47 ((L_whole F M i1).2.2.1)) 48 ((L_whole F M i1).2.2.2)) (nI (2 * i1)) 47, gZ F (va_up (va_up (va_up M 46 ((L_whole F M i1).2.1)) 47 ((L_whole F M i1).2.2.1)) 48 ((L_whole F M i1).2.2.2)) (nI (2 * i1)) 48) else
    ((L_whole F M i1).1, gZ F (va_up (va_up (va_up M 46 ((L_whole F M i1).2.1)) 47 ((L_whole F M i1).2.2.1)) 48 ((L_whole F M i1).2.2.2)) (nI (2 * i1)) 46, gZ F (va_up (va_up (va_up M 46 ((L_whole F M i1).2.1)) 47 ((L_whole F M i1).2.2.1)) 48 ((L_whole F M i1).2.2.2)) (nI (2 * i1)) 47, gZ F (va_up (va_up (va_up M 46 ((L_whole F M i1).2.1)) 47 ((L_whole F M i1).2.2.1)) 48 ((L_whole F M i1).2.2.2)) (nI (2 * i1)) 48)
noncomputable def s_X11_whole (F : Nat → Int32) (M : Nat → Nat → Int32)  : Int32 × ((Nat → Int32) × (Nat → Nat → Int32)) :=
  if ((L_whole F M n32).1) = (-9) then ((-9), (F, va_up (va_up (va_up M 46 ((L_whole F M n32).2.1)) 47 ((L_whole F M n32).2.2.1)) 48 ((L_whole F M n32).2.2.2))) else
  (s_X11_bitsOf ((L_whole F M n32).1), (va_up F 2 ((L_whole F M n32).1), va_up (va_up (va_up M 46 ((L_whole F M n32).2.1)) 47 ((L_whole F M n32).2.2.1)) 48 ((L_whole F M n32).2.2.2)))
set_option maxHeartbeats 4000000 in
set_option maxRecDepth 100000 in
theorem c_X11_whole (l : Launch) (dC : Nat → ClassId) (dI : Nat → Nat → Nat) (h : Nat) (a : Nat → Nat) (cI cB cZ : ClassId) (F : Nat → Int32) (M : Nat → Nat → Int32)  (A : Nat → Prop) (hD : va_D A (wM h a cI cB cZ F M)) (hJ : jv F M) : Met l yX11_whole wsX11_whole ({ frames := 3, cells := 0, slots := 0, locals := 67 } : Room) (va_Pc [.ref h] (pM dC dI h a cI cB cZ F M)) (va_Qi (fun r u => (r, u) = s_X11_whole F M) (qM A dC dI h a cI cB cZ) A) 0 0 A := by
  refine Met.ofW (cc := cX11_whole) (maxL := 4) (ret := (some .int)) (by decide) rfl ?_
  intro p e s m args below meth c s₁ B hml hv
  obtain ⟨rfl, hP, hK⟩ := hv
  have hx := B.exec
  have hb := B.bytes
  have hr := B.returns
  have hts := atoms_spec (ws := wsX11_whole) B.pre
  have hown : s.vm.findClass RX11 = some m.cls := findClass_of_methodNamed B.named
  have hlocks := B.notSynchronized
  have hin : ∀ w ∈ wsX110, w ∈ wsX11_whole := by decide +kernel
  have hS : va_S A s.heap s.heap [] := va_S.rf
  have hl := lv_entry ([.ref h]) (n := 4) (Nat.le_of_ble_eq_true rfl)
  rw [lg_entry_eq]
  generalize (lg_sl ([.ref h]) ++ List.replicate (4 - (lg_sl ([.ref h])).length) Slot.unset).toArray = ls at hl ⊢
  have hl : lv_has ls 4 [(0, .ref h)] := hl
  refine lv_aload_n hx hb dX11_whole_0 rfl (lv_at hl 0 rfl) ?_
  refine vp_callSi (W.runV (As := []) (rest := []) ⟨hx, hb, hml, hown, hts⟩ (c_X11_lacking l dC dI h a cI cB cZ F M ) (cwV 0 hts gX11_whole_X11_lacking rfl rfl rfl (by decide +kernel) ⟨Nat.le_of_ble_eq_true rfl, Nat.le_of_ble_eq_true rfl⟩) ⟨pm_blind, va_recv hK hP (ci := 10) (q0 := 0) rfl rfl, fun U hU hW => ⟨rfl, by rw [hU]; exact hP, va_K.moved hW.alike hK⟩⟩ rfl rfl hl.1 rfl (lv_room (Nat.le_of_ble_eq_true rfl)) dX11_whole_1 ⟨Nat.zero_le _, Nat.zero_le _⟩) (fun r hr9 => ?_)
  subst hr9
  refine vp_callSi (W.runS (As := [.int (s_X11_lacking F M)]) (rest := []) ⟨hx, hb, hml, hown, hts⟩ (c_X11_bitsOf l (s_X11_lacking F M)) (va_cwS 1 hts gX11_whole_X11_bitsOf rfl rfl rfl (by decide +kernel) ⟨Nat.le_of_ble_eq_true rfl, Nat.le_of_ble_eq_true rfl⟩) ⟨fun _ _ _ _ q => q, fun U hU hW => ⟨rfl, trivial⟩⟩ rfl rfl hl.1 rfl (lv_room (Nat.le_of_ble_eq_true rfl)) dX11_whole_4 ⟨Nat.zero_le _, Nat.zero_le _⟩) (fun r hr9 => ?_)
  subst hr9
  refine lv_istore_n (lv' := [(1, .int (s_X11_bitsOf (s_X11_lacking F M))), (0, .ref h)]) hx hb dX11_whole_7 rfl hl (by decide) rfl (fun ls hl => ?_)
  refine lv_bipush (v := (-9)) hx hb dX11_whole_8 (by decide) ?_
  refine lv_istore_n (lv' := [(2, .int (-9)), (1, .int (s_X11_bitsOf (s_X11_lacking F M))), (0, .ref h)]) hx hb dX11_whole_10 rfl hl (by decide) rfl (fun ls hl => ?_)
  refine lv_iconst (v := 0) hx hb dX11_whole_11 (by decide) ?_
  refine lv_istore_n (lv' := [(3, .int 0), (2, .int (-9)), (1, .int (s_X11_bitsOf (s_X11_lacking F M))), (0, .ref h)]) hx hb dX11_whole_12 rfl hl (by decide) rfl (fun ls hl => ?_)
  refine lp_forH (N := n32) (lv := fun i1 => [(3, .int (nI (2 * i1))), (2, .int ((L_whole F M i1).1)), (1, .int (s_X11_bitsOf (s_X11_lacking F M))), (0, .ref h)]) (wd := fun i1 => wM h a cI cB cZ F (va_up (va_up (va_up M 46 ((L_whole F M i1).2.1)) 47 ((L_whole F M i1).2.2.1)) 48 ((L_whole F M i1).2.2.2))) hP hD hS (lv_sub hl [0, 1, 2, 3] rfl) (fun i1 hi1 ls H locs hl hP hD hS kk1 => ?_) (fun ls H locs hl hP hD hS => ?_)
  · replace hl : lv_has ls 4 [(3, .int (nI (2 * i1))), (2, .int ((L_whole F M i1).1)), (1, .int (s_X11_bitsOf (s_X11_lacking F M))), (0, .ref h)] := hl
    replace hP : va_P (dC, dI) vwCl (wM h a cI cB cZ F (va_up (va_up (va_up M 46 ((L_whole F M i1).2.1)) 47 ((L_whole F M i1).2.2.1)) 48 ((L_whole F M i1).2.2.2))) H := hP
    replace hD : va_D A (wM h a cI cB cZ F (va_up (va_up (va_up M 46 ((L_whole F M i1).2.1)) 47 ((L_whole F M i1).2.2.1)) 48 ((L_whole F M i1).2.2.2))) := hD
    refine lv_iload_n hx hb dX11_whole_13 rfl (lv_at hl 0 rfl) ?_
    refine lv_bipush (v := 62) hx hb dX11_whole_14 (by decide) ?_
    refine lv_icmp_gt (tgt := 53) hx hb dX11_whole_16 (by decide) (fun c => absurd c (lb_n62 hi1)) (fun _ => ?_)
    refine lv_iload_n hx hb dX11_whole_19 rfl (lv_at hl 1 rfl) ?_
    refine lv_bipush (v := (-9)) hx hb dX11_whole_20 (by decide) ?_
    refine lv_icmp_eq (tgt := 36) hx hb dX11_whole_22 (by decide) (fun c1 => ?_) (fun c1 => ?_)
    · refine lv_aload_n hx hb dX11_whole_36 rfl (lv_at hl 3 rfl) ?_
      refine lv_iload_n hx hb dX11_whole_37 rfl (lv_at hl 0 rfl) ?_
      refine va_calli (va_runV (As := [.int (nI (2 * i1))]) (rest := []) ⟨hx, hb, hml, hown, hts⟩ (c_X11_mostSwaps l dC dI h a cI cB cZ F (va_up (va_up (va_up M 46 ((L_whole F M i1).2.1)) 47 ((L_whole F M i1).2.2.1)) 48 ((L_whole F M i1).2.2.2)) (nI (2 * i1)) A hD (fun x hx => (hcj hJ x hx : in9 (M 42 x)))) (cwV 1 hts gX11_whole_X11_mostSwaps rfl rfl rfl (by decide +kernel) ⟨Nat.le_of_ble_eq_true rfl, Nat.le_of_ble_eq_true rfl⟩) ⟨pm_blind, va_recv hK hP (ci := 10) (q0 := 0) rfl rfl, fun U hU hW => ⟨rfl, by rw [hU]; exact hP, va_K.moved hW.alike hK⟩⟩ rfl rfl hl.1 rfl (lv_room (Nat.le_of_ble_eq_true rfl)) dX11_whole_38 ⟨Nat.zero_le _, Nat.zero_le _⟩) hS (fun q _ h => h) (fun q h => h) (fun r u t H1 locs ht hvm hw hB hz1 hk1 hS => ?_)
      obtain ⟨hr9, hu9⟩ : r = (s_X11_mostSwaps F (va_up (va_up (va_up M 46 ((L_whole F M i1).2.1)) 47 ((L_whole F M i1).2.2.1)) 48 ((L_whole F M i1).2.2.2)) (nI (2 * i1))).1 ∧ u = (s_X11_mostSwaps F (va_up (va_up (va_up M 46 ((L_whole F M i1).2.1)) 47 ((L_whole F M i1).2.2.1)) 48 ((L_whole F M i1).2.2.2)) (nI (2 * i1))).2 := ⟨congrArg Prod.fst hw, congrArg Prod.snd hw⟩
      subst hr9; subst hu9
      obtain ⟨⟨hP, -⟩, hD⟩ := hB
      rw [ht] at hP
      clear hw hz1 hk1 ht hvm; generalize H1 = H at hP hS ⊢
      replace hP : va_P (dC, dI) vwCl (wM h a cI cB cZ F (va_up (va_up (va_up M 46 (gZ F (va_up (va_up (va_up M 46 ((L_whole F M i1).2.1)) 47 ((L_whole F M i1).2.2.1)) 48 ((L_whole F M i1).2.2.2)) (nI (2 * i1)) 46)) 47 (gZ F (va_up (va_up (va_up M 46 ((L_whole F M i1).2.1)) 47 ((L_whole F M i1).2.2.1)) 48 ((L_whole F M i1).2.2.2)) (nI (2 * i1)) 47)) 48 (gZ F (va_up (va_up (va_up M 46 ((L_whole F M i1).2.1)) 47 ((L_whole F M i1).2.2.1)) 48 ((L_whole F M i1).2.2.2)) (nI (2 * i1)) 48))) H := hP
      replace hD : va_D A (wM h a cI cB cZ F (va_up (va_up (va_up M 46 (gZ F (va_up (va_up (va_up M 46 ((L_whole F M i1).2.1)) 47 ((L_whole F M i1).2.2.1)) 48 ((L_whole F M i1).2.2.2)) (nI (2 * i1)) 46)) 47 (gZ F (va_up (va_up (va_up M 46 ((L_whole F M i1).2.1)) 47 ((L_whole F M i1).2.2.1)) 48 ((L_whole F M i1).2.2.2)) (nI (2 * i1)) 47)) 48 (gZ F (va_up (va_up (va_up M 46 ((L_whole F M i1).2.1)) 47 ((L_whole F M i1).2.2.1)) 48 ((L_whole F M i1).2.2.2)) (nI (2 * i1)) 48))) := hD
      refine lv_iload_n hx hb dX11_whole_41 rfl (lv_at hl 2 rfl) ?_
      refine lv_icmp_ne (tgt := 47) hx hb dX11_whole_42 (by decide) (fun c2 => ?_) (fun c2 => ?_)
      · refine lv_iinc (v := nI (2 * (i1 + 1))) (lv' := [(3, .int (nI (2 * (i1 + 1)))), (2, .int ((L_whole F M i1).1)), (1, .int (s_X11_bitsOf (s_X11_lacking F M))), (0, .ref h)]) hx hb dX11_whole_47 hl (k := 0) rfl (nI_add (2 * i1) 2) (by decide) rfl (fun ls hl => ?_)
        refine lv_goto (tgt := 13) hx hb dX11_whole_50 (by decide) ?_
        have e9 : L_whole F M (i1 + 1) = ((L_whole F M i1).1, gZ F (va_up (va_up (va_up M 46 ((L_whole F M i1).2.1)) 47 ((L_whole F M i1).2.2.1)) 48 ((L_whole F M i1).2.2.2)) (nI (2 * i1)) 46, gZ F (va_up (va_up (va_up M 46 ((L_whole F M i1).2.1)) 47 ((L_whole F M i1).2.2.1)) 48 ((L_whole F M i1).2.2.2)) (nI (2 * i1)) 47, gZ F (va_up (va_up (va_up M 46 ((L_whole F M i1).2.1)) 47 ((L_whole F M i1).2.2.1)) 48 ((L_whole F M i1).2.2.2)) (nI (2 * i1)) 48) := by rw [L_whole]; rw [if_pos c1, if_neg c2]
        refine kk1 ls H locs (show lv_has ls 4 [(3, .int (nI (2 * (i1 + 1)))), (2, .int ((L_whole F M (i1 + 1)).1)), (1, .int (s_X11_bitsOf (s_X11_lacking F M))), (0, .ref h)] from ?_) (show va_P (dC, dI) vwCl (wM h a cI cB cZ F (va_up (va_up (va_up M 46 ((L_whole F M (i1 + 1)).2.1)) 47 ((L_whole F M (i1 + 1)).2.2.1)) 48 ((L_whole F M (i1 + 1)).2.2.2))) H from ?_) (show va_D A (wM h a cI cB cZ F (va_up (va_up (va_up M 46 ((L_whole F M (i1 + 1)).2.1)) 47 ((L_whole F M (i1 + 1)).2.2.1)) 48 ((L_whole F M (i1 + 1)).2.2.2))) from ?_) hS
        · rw [e9]; exact lv_sub hl [0, 1, 2, 3] rfl
        · rw [e9]; exact hP
        · rw [e9]; exact hD
      · refine lv_iload_n hx hb dX11_whole_45 rfl (lv_at hl 0 rfl) ?_
        refine lv_istore_n (lv' := [(2, .int (nI (2 * i1))), (3, .int (nI (2 * i1))), (1, .int (s_X11_bitsOf (s_X11_lacking F M))), (0, .ref h)]) hx hb dX11_whole_46 rfl hl (by decide) rfl (fun ls hl => ?_)
        refine lv_iinc (v := nI (2 * (i1 + 1))) (lv' := [(3, .int (nI (2 * (i1 + 1)))), (2, .int (nI (2 * i1))), (1, .int (s_X11_bitsOf (s_X11_lacking F M))), (0, .ref h)]) hx hb dX11_whole_47 hl (k := 1) rfl (nI_add (2 * i1) 2) (by decide) rfl (fun ls hl => ?_)
        refine lv_goto (tgt := 13) hx hb dX11_whole_50 (by decide) ?_
        have e9 : L_whole F M (i1 + 1) = (nI (2 * i1), gZ F (va_up (va_up (va_up M 46 ((L_whole F M i1).2.1)) 47 ((L_whole F M i1).2.2.1)) 48 ((L_whole F M i1).2.2.2)) (nI (2 * i1)) 46, gZ F (va_up (va_up (va_up M 46 ((L_whole F M i1).2.1)) 47 ((L_whole F M i1).2.2.1)) 48 ((L_whole F M i1).2.2.2)) (nI (2 * i1)) 47, gZ F (va_up (va_up (va_up M 46 ((L_whole F M i1).2.1)) 47 ((L_whole F M i1).2.2.1)) 48 ((L_whole F M i1).2.2.2)) (nI (2 * i1)) 48) := by rw [L_whole]; rw [if_pos c1, if_pos c2]
        refine kk1 ls H locs (show lv_has ls 4 [(3, .int (nI (2 * (i1 + 1)))), (2, .int ((L_whole F M (i1 + 1)).1)), (1, .int (s_X11_bitsOf (s_X11_lacking F M))), (0, .ref h)] from ?_) (show va_P (dC, dI) vwCl (wM h a cI cB cZ F (va_up (va_up (va_up M 46 ((L_whole F M (i1 + 1)).2.1)) 47 ((L_whole F M (i1 + 1)).2.2.1)) 48 ((L_whole F M (i1 + 1)).2.2.2))) H from ?_) (show va_D A (wM h a cI cB cZ F (va_up (va_up (va_up M 46 ((L_whole F M (i1 + 1)).2.1)) 47 ((L_whole F M (i1 + 1)).2.2.1)) 48 ((L_whole F M (i1 + 1)).2.2.2))) from ?_) hS
        · rw [e9]; exact lv_sub hl [0, 1, 2, 3] rfl
        · rw [e9]; exact hP
        · rw [e9]; exact hD
    · refine lv_iload_n hx hb dX11_whole_25 rfl (lv_at hl 0 rfl) ?_
      refine vp_callSi (W.runS (As := [.int (nI (2 * i1))]) (rest := []) ⟨hx, hb, hml, hown, hts⟩ (c_X11_bitsOf l (nI (2 * i1))) (va_cwS 1 hts gX11_whole_X11_bitsOf rfl rfl rfl (by decide +kernel) ⟨Nat.le_of_ble_eq_true rfl, Nat.le_of_ble_eq_true rfl⟩) ⟨fun _ _ _ _ q => q, fun U hU hW => ⟨rfl, trivial⟩⟩ rfl rfl hl.1 rfl (lv_room (Nat.le_of_ble_eq_true rfl)) dX11_whole_26 ⟨Nat.zero_le _, Nat.zero_le _⟩) (fun r hr9 => ?_)
      subst hr9
      refine lv_iload_n hx hb dX11_whole_29 rfl (lv_at hl 1 rfl) ?_
      refine vp_callSi (W.runS (As := [.int ((L_whole F M i1).1)]) (rest := [.int (s_X11_bitsOf (nI (2 * i1)))]) ⟨hx, hb, hml, hown, hts⟩ (c_X11_bitsOf l ((L_whole F M i1).1)) (va_cwS 1 hts gX11_whole_X11_bitsOf rfl rfl rfl (by decide +kernel) ⟨Nat.le_of_ble_eq_true rfl, Nat.le_of_ble_eq_true rfl⟩) ⟨fun _ _ _ _ q => q, fun U hU hW => ⟨rfl, trivial⟩⟩ rfl rfl hl.1 rfl (lv_room (Nat.le_of_ble_eq_true rfl)) dX11_whole_30 ⟨Nat.zero_le _, Nat.zero_le _⟩) (fun r hr9 => ?_)
      subst hr9
      refine lv_icmp_ge (tgt := 47) hx hb dX11_whole_33 (by decide) (fun c3 => ?_) (fun c3 => ?_)
      · refine lv_iinc (v := nI (2 * (i1 + 1))) (lv' := [(3, .int (nI (2 * (i1 + 1)))), (2, .int ((L_whole F M i1).1)), (1, .int (s_X11_bitsOf (s_X11_lacking F M))), (0, .ref h)]) hx hb dX11_whole_47 hl (k := 0) rfl (nI_add (2 * i1) 2) (by decide) rfl (fun ls hl => ?_)
        refine lv_goto (tgt := 13) hx hb dX11_whole_50 (by decide) ?_
        have e9 : L_whole F M (i1 + 1) = ((L_whole F M i1).1, (L_whole F M i1).2.1, (L_whole F M i1).2.2.1, (L_whole F M i1).2.2.2) := by rw [L_whole]; rw [if_neg c1, if_pos c3]
        refine kk1 ls H locs (show lv_has ls 4 [(3, .int (nI (2 * (i1 + 1)))), (2, .int ((L_whole F M (i1 + 1)).1)), (1, .int (s_X11_bitsOf (s_X11_lacking F M))), (0, .ref h)] from ?_) (show va_P (dC, dI) vwCl (wM h a cI cB cZ F (va_up (va_up (va_up M 46 ((L_whole F M (i1 + 1)).2.1)) 47 ((L_whole F M (i1 + 1)).2.2.1)) 48 ((L_whole F M (i1 + 1)).2.2.2))) H from ?_) (show va_D A (wM h a cI cB cZ F (va_up (va_up (va_up M 46 ((L_whole F M (i1 + 1)).2.1)) 47 ((L_whole F M (i1 + 1)).2.2.1)) 48 ((L_whole F M (i1 + 1)).2.2.2))) from ?_) hS
        · rw [e9]; exact lv_sub hl [0, 1, 2, 3] rfl
        · rw [e9]; exact hP
        · rw [e9]; exact hD
      · refine lv_aload_n hx hb dX11_whole_36 rfl (lv_at hl 3 rfl) ?_
        refine lv_iload_n hx hb dX11_whole_37 rfl (lv_at hl 0 rfl) ?_
        refine va_calli (va_runV (As := [.int (nI (2 * i1))]) (rest := []) ⟨hx, hb, hml, hown, hts⟩ (c_X11_mostSwaps l dC dI h a cI cB cZ F (va_up (va_up (va_up M 46 ((L_whole F M i1).2.1)) 47 ((L_whole F M i1).2.2.1)) 48 ((L_whole F M i1).2.2.2)) (nI (2 * i1)) A hD (fun x hx => (hcj hJ x hx : in9 (M 42 x)))) (cwV 1 hts gX11_whole_X11_mostSwaps rfl rfl rfl (by decide +kernel) ⟨Nat.le_of_ble_eq_true rfl, Nat.le_of_ble_eq_true rfl⟩) ⟨pm_blind, va_recv hK hP (ci := 10) (q0 := 0) rfl rfl, fun U hU hW => ⟨rfl, by rw [hU]; exact hP, va_K.moved hW.alike hK⟩⟩ rfl rfl hl.1 rfl (lv_room (Nat.le_of_ble_eq_true rfl)) dX11_whole_38 ⟨Nat.zero_le _, Nat.zero_le _⟩) hS (fun q _ h => h) (fun q h => h) (fun r u t H1 locs ht hvm hw hB hz1 hk1 hS => ?_)
        obtain ⟨hr9, hu9⟩ : r = (s_X11_mostSwaps F (va_up (va_up (va_up M 46 ((L_whole F M i1).2.1)) 47 ((L_whole F M i1).2.2.1)) 48 ((L_whole F M i1).2.2.2)) (nI (2 * i1))).1 ∧ u = (s_X11_mostSwaps F (va_up (va_up (va_up M 46 ((L_whole F M i1).2.1)) 47 ((L_whole F M i1).2.2.1)) 48 ((L_whole F M i1).2.2.2)) (nI (2 * i1))).2 := ⟨congrArg Prod.fst hw, congrArg Prod.snd hw⟩
        subst hr9; subst hu9
        obtain ⟨⟨hP, -⟩, hD⟩ := hB
        rw [ht] at hP
        clear hw hz1 hk1 ht hvm; generalize H1 = H at hP hS ⊢
        replace hP : va_P (dC, dI) vwCl (wM h a cI cB cZ F (va_up (va_up (va_up M 46 (gZ F (va_up (va_up (va_up M 46 ((L_whole F M i1).2.1)) 47 ((L_whole F M i1).2.2.1)) 48 ((L_whole F M i1).2.2.2)) (nI (2 * i1)) 46)) 47 (gZ F (va_up (va_up (va_up M 46 ((L_whole F M i1).2.1)) 47 ((L_whole F M i1).2.2.1)) 48 ((L_whole F M i1).2.2.2)) (nI (2 * i1)) 47)) 48 (gZ F (va_up (va_up (va_up M 46 ((L_whole F M i1).2.1)) 47 ((L_whole F M i1).2.2.1)) 48 ((L_whole F M i1).2.2.2)) (nI (2 * i1)) 48))) H := hP
        replace hD : va_D A (wM h a cI cB cZ F (va_up (va_up (va_up M 46 (gZ F (va_up (va_up (va_up M 46 ((L_whole F M i1).2.1)) 47 ((L_whole F M i1).2.2.1)) 48 ((L_whole F M i1).2.2.2)) (nI (2 * i1)) 46)) 47 (gZ F (va_up (va_up (va_up M 46 ((L_whole F M i1).2.1)) 47 ((L_whole F M i1).2.2.1)) 48 ((L_whole F M i1).2.2.2)) (nI (2 * i1)) 47)) 48 (gZ F (va_up (va_up (va_up M 46 ((L_whole F M i1).2.1)) 47 ((L_whole F M i1).2.2.1)) 48 ((L_whole F M i1).2.2.2)) (nI (2 * i1)) 48))) := hD
        refine lv_iload_n hx hb dX11_whole_41 rfl (lv_at hl 2 rfl) ?_
        refine lv_icmp_ne (tgt := 47) hx hb dX11_whole_42 (by decide) (fun c4 => ?_) (fun c4 => ?_)
        · refine lv_iinc (v := nI (2 * (i1 + 1))) (lv' := [(3, .int (nI (2 * (i1 + 1)))), (2, .int ((L_whole F M i1).1)), (1, .int (s_X11_bitsOf (s_X11_lacking F M))), (0, .ref h)]) hx hb dX11_whole_47 hl (k := 0) rfl (nI_add (2 * i1) 2) (by decide) rfl (fun ls hl => ?_)
          refine lv_goto (tgt := 13) hx hb dX11_whole_50 (by decide) ?_
          have e9 : L_whole F M (i1 + 1) = ((L_whole F M i1).1, gZ F (va_up (va_up (va_up M 46 ((L_whole F M i1).2.1)) 47 ((L_whole F M i1).2.2.1)) 48 ((L_whole F M i1).2.2.2)) (nI (2 * i1)) 46, gZ F (va_up (va_up (va_up M 46 ((L_whole F M i1).2.1)) 47 ((L_whole F M i1).2.2.1)) 48 ((L_whole F M i1).2.2.2)) (nI (2 * i1)) 47, gZ F (va_up (va_up (va_up M 46 ((L_whole F M i1).2.1)) 47 ((L_whole F M i1).2.2.1)) 48 ((L_whole F M i1).2.2.2)) (nI (2 * i1)) 48) := by rw [L_whole]; rw [if_neg c1, if_neg c3, if_neg c4]
          refine kk1 ls H locs (show lv_has ls 4 [(3, .int (nI (2 * (i1 + 1)))), (2, .int ((L_whole F M (i1 + 1)).1)), (1, .int (s_X11_bitsOf (s_X11_lacking F M))), (0, .ref h)] from ?_) (show va_P (dC, dI) vwCl (wM h a cI cB cZ F (va_up (va_up (va_up M 46 ((L_whole F M (i1 + 1)).2.1)) 47 ((L_whole F M (i1 + 1)).2.2.1)) 48 ((L_whole F M (i1 + 1)).2.2.2))) H from ?_) (show va_D A (wM h a cI cB cZ F (va_up (va_up (va_up M 46 ((L_whole F M (i1 + 1)).2.1)) 47 ((L_whole F M (i1 + 1)).2.2.1)) 48 ((L_whole F M (i1 + 1)).2.2.2))) from ?_) hS
          · rw [e9]; exact lv_sub hl [0, 1, 2, 3] rfl
          · rw [e9]; exact hP
          · rw [e9]; exact hD
        · refine lv_iload_n hx hb dX11_whole_45 rfl (lv_at hl 0 rfl) ?_
          refine lv_istore_n (lv' := [(2, .int (nI (2 * i1))), (3, .int (nI (2 * i1))), (1, .int (s_X11_bitsOf (s_X11_lacking F M))), (0, .ref h)]) hx hb dX11_whole_46 rfl hl (by decide) rfl (fun ls hl => ?_)
          refine lv_iinc (v := nI (2 * (i1 + 1))) (lv' := [(3, .int (nI (2 * (i1 + 1)))), (2, .int (nI (2 * i1))), (1, .int (s_X11_bitsOf (s_X11_lacking F M))), (0, .ref h)]) hx hb dX11_whole_47 hl (k := 1) rfl (nI_add (2 * i1) 2) (by decide) rfl (fun ls hl => ?_)
          refine lv_goto (tgt := 13) hx hb dX11_whole_50 (by decide) ?_
          have e9 : L_whole F M (i1 + 1) = (nI (2 * i1), gZ F (va_up (va_up (va_up M 46 ((L_whole F M i1).2.1)) 47 ((L_whole F M i1).2.2.1)) 48 ((L_whole F M i1).2.2.2)) (nI (2 * i1)) 46, gZ F (va_up (va_up (va_up M 46 ((L_whole F M i1).2.1)) 47 ((L_whole F M i1).2.2.1)) 48 ((L_whole F M i1).2.2.2)) (nI (2 * i1)) 47, gZ F (va_up (va_up (va_up M 46 ((L_whole F M i1).2.1)) 47 ((L_whole F M i1).2.2.1)) 48 ((L_whole F M i1).2.2.2)) (nI (2 * i1)) 48) := by rw [L_whole]; rw [if_neg c1, if_neg c3, if_pos c4]
          refine kk1 ls H locs (show lv_has ls 4 [(3, .int (nI (2 * (i1 + 1)))), (2, .int ((L_whole F M (i1 + 1)).1)), (1, .int (s_X11_bitsOf (s_X11_lacking F M))), (0, .ref h)] from ?_) (show va_P (dC, dI) vwCl (wM h a cI cB cZ F (va_up (va_up (va_up M 46 ((L_whole F M (i1 + 1)).2.1)) 47 ((L_whole F M (i1 + 1)).2.2.1)) 48 ((L_whole F M (i1 + 1)).2.2.2))) H from ?_) (show va_D A (wM h a cI cB cZ F (va_up (va_up (va_up M 46 ((L_whole F M (i1 + 1)).2.1)) 47 ((L_whole F M (i1 + 1)).2.2.1)) 48 ((L_whole F M (i1 + 1)).2.2.2))) from ?_) hS
          · rw [e9]; exact lv_sub hl [0, 1, 2, 3] rfl
          · rw [e9]; exact hP
          · rw [e9]; exact hD
  · replace hl : lv_has ls 4 [(3, .int (nI (2 * n32))), (2, .int ((L_whole F M n32).1)), (1, .int (s_X11_bitsOf (s_X11_lacking F M))), (0, .ref h)] := hl
    replace hP : va_P (dC, dI) vwCl (wM h a cI cB cZ F (va_up (va_up (va_up M 46 ((L_whole F M n32).2.1)) 47 ((L_whole F M n32).2.2.1)) 48 ((L_whole F M n32).2.2.2))) H := hP
    replace hD : va_D A (wM h a cI cB cZ F (va_up (va_up (va_up M 46 ((L_whole F M n32).2.1)) 47 ((L_whole F M n32).2.2.1)) 48 ((L_whole F M n32).2.2.2))) := hD
    refine lv_iload_n hx hb dX11_whole_13 rfl (lv_at hl 0 rfl) ?_
    refine lv_bipush (v := 62) hx hb dX11_whole_14 (by decide) ?_
    refine lv_icmp_gt (tgt := 53) hx hb dX11_whole_16 (by decide) (fun _ => ?_) (fun c => absurd lb_y62 c)
    refine lv_iload_n hx hb dX11_whole_53 rfl (lv_at hl 1 rfl) ?_
    refine lv_bipush (v := (-9)) hx hb dX11_whole_54 (by decide) ?_
    refine lv_icmp_ne (tgt := 62) hx hb dX11_whole_56 (by decide) (fun c5 => ?_) (fun c5 => ?_)
    · refine lv_aload_n hx hb dX11_whole_62 rfl (lv_at hl 3 rfl) ?_
      refine lv_iload_n hx hb dX11_whole_63 rfl (lv_at hl 1 rfl) ?_
      refine va_put (D := (dC, dI)) (ci := 10) (v := .int ((L_whole F M n32).1)) (ty := .int) (C := RX11) (T := TX11) (N := 49) hx hb hts hin tyX11 tyX11_ok nmX11 hown hK hP hD hS 0 rfl rfl 2 (by decide) (hts (.fieldLink RX11 137 "SocietyBookModel" "asked" "I") (by decide +kernel)) (fun _ h9 => h9) rfl (by decide +kernel) rfl rfl (Nat.le_of_ble_eq_true rfl) dX11_whole_64 (fun H locs hP hD hS => ?_)
      replace hP : va_P (dC, dI) vwCl (wM h a cI cB cZ (va_up F 2 ((L_whole F M n32).1)) (va_up (va_up (va_up M 46 ((L_whole F M n32).2.1)) 47 ((L_whole F M n32).2.2.1)) 48 ((L_whole F M n32).2.2.2))) H := hP
      replace hD : va_D A (wM h a cI cB cZ (va_up F 2 ((L_whole F M n32).1)) (va_up (va_up (va_up M 46 ((L_whole F M n32).2.1)) 47 ((L_whole F M n32).2.2.1)) 48 ((L_whole F M n32).2.2.2))) := hD
      refine lv_iload_n hx hb dX11_whole_67 rfl (lv_at hl 1 rfl) ?_
      refine vp_callSi (W.runS (As := [.int ((L_whole F M n32).1)]) (rest := []) ⟨hx, hb, hml, hown, hts⟩ (c_X11_bitsOf l ((L_whole F M n32).1)) (va_cwS 1 hts gX11_whole_X11_bitsOf rfl rfl rfl (by decide +kernel) ⟨Nat.le_of_ble_eq_true rfl, Nat.le_of_ble_eq_true rfl⟩) ⟨fun _ _ _ _ q => q, fun U hU hW => ⟨rfl, trivial⟩⟩ rfl rfl hl.1 rfl (lv_room (Nat.le_of_ble_eq_true rfl)) dX11_whole_68 ⟨Nat.zero_le _, Nat.zero_le _⟩) (fun r hr9 => ?_)
      subst hr9
      exact W.iret (v := s_X11_bitsOf ((L_whole F M n32).1)) hx hb hr (fun t ht hW => ⟨⟨s_X11_bitsOf ((L_whole F M n32).1), (va_up F 2 ((L_whole F M n32).1), va_up (va_up (va_up M 46 ((L_whole F M n32).2.1)) 47 ((L_whole F M n32).2.2.1)) 48 ((L_whole F M n32).2.2.2)), rfl, by unfold s_X11_whole; rw [if_neg c5], ⟨by rw [ht]; exact hP, va_K.moved hW.alike hK⟩, hD⟩, hS.F ht⟩) hS.2.2 dX11_whole_71
    · refine lv_bipush (v := (-9)) hx hb dX11_whole_59 (by decide) ?_
      exact W.iret (v := (-9)) hx hb hr (fun t ht hW => ⟨⟨(-9), (F, va_up (va_up (va_up M 46 ((L_whole F M n32).2.1)) 47 ((L_whole F M n32).2.2.1)) 48 ((L_whole F M n32).2.2.2)), rfl, by unfold s_X11_whole; rw [if_pos c5], ⟨by rw [ht]; exact hP, va_K.moved hW.alike hK⟩, hD⟩, hS.F ht⟩) hS.2.2 dX11_whole_61
