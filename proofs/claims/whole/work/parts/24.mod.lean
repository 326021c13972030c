def s_X11_byelaw (F : Nat → Int32) (M : Nat → Nat → Int32) (p0 : Int32) (p1 : Int32) (p2 : Int32) (p3 : Int32) (p4 : Int32) (p5 : Int32) : Int32 × ((Nat → Int32) × (Nat → Nat → Int32)) :=
  if 0 ≤ p0 ∧ p0 ≤ 30000 then (if 0 ≤ p1 ∧ p1 ≤ 500 then (if 0 ≤ p2 ∧ p2 ≤ 16 then (if 0 ≤ p3 ∧ p3 ≤ 100 then (if 1 ≤ p5 ∧ p5 ≤ 100 then (if 0 ≤ p4 ∧ p4 ≤ p5 then (if (F 25) = 12 then ((-2), (F, M)) else
              (((F 25) + 1) - 1, (va_up F 25 ((F 25) + 1), va_up (va_up (va_up (va_up (va_up (va_up M 26 (upd (M 26) ((F 25).toNatClampNeg) p0)) 27 (upd (M 27) ((F 25).toNatClampNeg) p1)) 28 (upd (M 28) ((F 25).toNatClampNeg) p2)) 29 (upd (M 29) ((F 25).toNatClampNeg) p3)) 30 (upd (M 30) ((F 25).toNatClampNeg) p4)) 31 (upd (M 31) ((F 25).toNatClampNeg) p5)))) else
            ((-1), (F, M))) else
          ((-1), (F, M))) else
        ((-1), (F, M))) else
      ((-1), (F, M))) else
    ((-1), (F, M))) else
  ((-1), (F, M))
set_option maxHeartbeats 4000000 in
set_option maxRecDepth 100000 in
theorem c_X11_byelaw (l : Launch) (dC : Nat → ClassId) (dI : Nat → Nat → Nat) (h : Nat) (a : Nat → Nat) (cI cB cZ : ClassId) (F : Nat → Int32) (M : Nat → Nat → Int32) (p0 : Int32) (p1 : Int32) (p2 : Int32) (p3 : Int32) (p4 : Int32) (p5 : Int32) (A : Nat → Prop) (hD : va_D A (wM h a cI cB cZ F M)) (hI : iv F M) : Met l yX11_byelaw wsX11_byelaw ({ frames := 2, cells := 0, slots := 0, locals := 42 } : Room) (va_Pc [.ref h, .int p0, .int p1, .int p2, .int p3, .int p4, .int p5] (pM dC dI h a cI cB cZ F M)) (va_Qi (fun r u => (r, u) = s_X11_byelaw F M p0 p1 p2 p3 p4 p5) (qM A dC dI h a cI cB cZ) A) 0 0 A := by
  refine Met.ofW (cc := cX11_byelaw) (maxL := 7) (ret := (some .int)) (by decide) rfl ?_
  intro p e s m args below meth c s₁ B hml hv
  obtain ⟨rfl, hP, hK⟩ := hv
  have hx := B.exec
  have hb := B.bytes
  have hr := B.returns
  have hts := atoms_spec (ws := wsX11_byelaw) B.pre
  have hown : s.vm.findClass RX11 = some m.cls := findClass_of_methodNamed B.named
  have hlocks := B.notSynchronized
  have hin : ∀ w ∈ wsX110, w ∈ wsX11_byelaw := by decide +kernel
  have hS : va_S A s.heap s.heap [] := va_S.rf
  have hl := lv_entry ([.ref h, .int p0, .int p1, .int p2, .int p3, .int p4, .int p5]) (n := 7) (Nat.le_of_ble_eq_true rfl)
  rw [lg_entry_eq]
  generalize (lg_sl ([.ref h, .int p0, .int p1, .int p2, .int p3, .int p4, .int p5]) ++ List.replicate (7 - (lg_sl ([.ref h, .int p0, .int p1, .int p2, .int p3, .int p4, .int p5])).length) Slot.unset).toArray = ls at hl ⊢
  have hl : lv_has ls 7 [(0, .ref h), (1, .int p0), (2, .int p1), (3, .int p2), (4, .int p3), (5, .int p4), (6, .int p5)] := hl
  refine lv_iload_n hx hb dX11_byelaw_0 rfl (lv_at hl 1 rfl) ?_
  refine vp_callSi (W.runS (As := [.int p0]) (rest := []) ⟨hx, hb, hml, hown, hts⟩ (c_X11_isDay l p0) (va_cwS 1 hts gX11_byelaw_X11_isDay rfl rfl rfl (by decide +kernel) ⟨Nat.le_of_ble_eq_true rfl, Nat.le_of_ble_eq_true rfl⟩) ⟨fun _ _ _ _ q => q, fun U hU hW => ⟨rfl, trivial⟩⟩ rfl rfl hl.1 rfl (lv_room (Nat.le_of_ble_eq_true rfl)) dX11_byelaw_1 ⟨Nat.zero_le _, Nat.zero_le _⟩) (fun r hr9 => ?_)
  subst hr9
  refine lv_if_eq (tgt := 61) hx hb dX11_byelaw_4 (by decide) (fun c1 => ?_) (fun c1 => ?_)
  · replace c1 := bo_f c1
    refine lv_iconst (v := (-1)) hx hb dX11_byelaw_61 (by decide) ?_
    exact W.iret (v := (-1)) hx hb hr (fun t ht hW => ⟨⟨(-1), (F, M), rfl, by unfold s_X11_byelaw; rw [if_neg c1], ⟨by rw [ht]; exact hP, va_K.moved hW.alike hK⟩, hD⟩, hS.F ht⟩) hS.2.2 dX11_byelaw_62
  · replace c1 := bo_t c1
    refine lv_iload_n hx hb dX11_byelaw_7 rfl (lv_at hl 2 rfl) ?_
    refine lv_iconst (v := 0) hx hb dX11_byelaw_8 (by decide) ?_
    refine lv_sipush (v := 500) hx hb dX11_byelaw_9 (by decide) ?_
    refine vp_callSi (W.runS (As := [.int p1, .int 0, .int 500]) (rest := []) ⟨hx, hb, hml, hown, hts⟩ (c_X11_in l p1 0 500) (va_cwS 3 hts gX11_byelaw_X11_in rfl rfl rfl (by decide +kernel) ⟨Nat.le_of_ble_eq_true rfl, Nat.le_of_ble_eq_true rfl⟩) ⟨fun _ _ _ _ q => q, fun U hU hW => ⟨rfl, trivial⟩⟩ rfl rfl hl.1 rfl (lv_room (Nat.le_of_ble_eq_true rfl)) dX11_byelaw_12 ⟨Nat.zero_le _, Nat.zero_le _⟩) (fun r hr9 => ?_)
    subst hr9
    refine lv_if_eq (tgt := 61) hx hb dX11_byelaw_15 (by decide) (fun c2 => ?_) (fun c2 => ?_)
    · replace c2 := bo_f c2
      refine lv_iconst (v := (-1)) hx hb dX11_byelaw_61 (by decide) ?_
      exact W.iret (v := (-1)) hx hb hr (fun t ht hW => ⟨⟨(-1), (F, M), rfl, by unfold s_X11_byelaw; rw [if_pos c1, if_neg c2], ⟨by rw [ht]; exact hP, va_K.moved hW.alike hK⟩, hD⟩, hS.F ht⟩) hS.2.2 dX11_byelaw_62
    · replace c2 := bo_t c2
      refine lv_iload_n hx hb dX11_byelaw_18 rfl (lv_at hl 3 rfl) ?_
      refine lv_iconst (v := 0) hx hb dX11_byelaw_19 (by decide) ?_
      refine lv_bipush (v := 16) hx hb dX11_byelaw_20 (by decide) ?_
      refine vp_callSi (W.runS (As := [.int p2, .int 0, .int 16]) (rest := []) ⟨hx, hb, hml, hown, hts⟩ (c_X11_in l p2 0 16) (va_cwS 3 hts gX11_byelaw_X11_in rfl rfl rfl (by decide +kernel) ⟨Nat.le_of_ble_eq_true rfl, Nat.le_of_ble_eq_true rfl⟩) ⟨fun _ _ _ _ q => q, fun U hU hW => ⟨rfl, trivial⟩⟩ rfl rfl hl.1 rfl (lv_room (Nat.le_of_ble_eq_true rfl)) dX11_byelaw_22 ⟨Nat.zero_le _, Nat.zero_le _⟩) (fun r hr9 => ?_)
      subst hr9
      refine lv_if_eq (tgt := 61) hx hb dX11_byelaw_25 (by decide) (fun c3 => ?_) (fun c3 => ?_)
      · replace c3 := bo_f c3
        refine lv_iconst (v := (-1)) hx hb dX11_byelaw_61 (by decide) ?_
        exact W.iret (v := (-1)) hx hb hr (fun t ht hW => ⟨⟨(-1), (F, M), rfl, by unfold s_X11_byelaw; rw [if_pos c1, if_pos c2, if_neg c3], ⟨by rw [ht]; exact hP, va_K.moved hW.alike hK⟩, hD⟩, hS.F ht⟩) hS.2.2 dX11_byelaw_62
      · replace c3 := bo_t c3
        refine lv_iload hx hb dX11_byelaw_28 (lv_at hl 4 rfl) ?_
        refine lv_iconst (v := 0) hx hb dX11_byelaw_30 (by decide) ?_
        refine lv_bipush (v := 100) hx hb dX11_byelaw_31 (by decide) ?_
        refine vp_callSi (W.runS (As := [.int p3, .int 0, .int 100]) (rest := []) ⟨hx, hb, hml, hown, hts⟩ (c_X11_in l p3 0 100) (va_cwS 3 hts gX11_byelaw_X11_in rfl rfl rfl (by decide +kernel) ⟨Nat.le_of_ble_eq_true rfl, Nat.le_of_ble_eq_true rfl⟩) ⟨fun _ _ _ _ q => q, fun U hU hW => ⟨rfl, trivial⟩⟩ rfl rfl hl.1 rfl (lv_room (Nat.le_of_ble_eq_true rfl)) dX11_byelaw_33 ⟨Nat.zero_le _, Nat.zero_le _⟩) (fun r hr9 => ?_)
        subst hr9
        refine lv_if_eq (tgt := 61) hx hb dX11_byelaw_36 (by decide) (fun c4 => ?_) (fun c4 => ?_)
        · replace c4 := bo_f c4
          refine lv_iconst (v := (-1)) hx hb dX11_byelaw_61 (by decide) ?_
          exact W.iret (v := (-1)) hx hb hr (fun t ht hW => ⟨⟨(-1), (F, M), rfl, by unfold s_X11_byelaw; rw [if_pos c1, if_pos c2, if_pos c3, if_neg c4], ⟨by rw [ht]; exact hP, va_K.moved hW.alike hK⟩, hD⟩, hS.F ht⟩) hS.2.2 dX11_byelaw_62
        · replace c4 := bo_t c4
          refine lv_iload hx hb dX11_byelaw_39 (lv_at hl 6 rfl) ?_
          refine lv_iconst (v := 1) hx hb dX11_byelaw_41 (by decide) ?_
          refine lv_bipush (v := 100) hx hb dX11_byelaw_42 (by decide) ?_
          refine vp_callSi (W.runS (As := [.int p5, .int 1, .int 100]) (rest := []) ⟨hx, hb, hml, hown, hts⟩ (c_X11_in l p5 1 100) (va_cwS 3 hts gX11_byelaw_X11_in rfl rfl rfl (by decide +kernel) ⟨Nat.le_of_ble_eq_true rfl, Nat.le_of_ble_eq_true rfl⟩) ⟨fun _ _ _ _ q => q, fun U hU hW => ⟨rfl, trivial⟩⟩ rfl rfl hl.1 rfl (lv_room (Nat.le_of_ble_eq_true rfl)) dX11_byelaw_44 ⟨Nat.zero_le _, Nat.zero_le _⟩) (fun r hr9 => ?_)
          subst hr9
          refine lv_if_eq (tgt := 61) hx hb dX11_byelaw_47 (by decide) (fun c5 => ?_) (fun c5 => ?_)
          · replace c5 := bo_f c5
            refine lv_iconst (v := (-1)) hx hb dX11_byelaw_61 (by decide) ?_
            exact W.iret (v := (-1)) hx hb hr (fun t ht hW => ⟨⟨(-1), (F, M), rfl, by unfold s_X11_byelaw; rw [if_pos c1, if_pos c2, if_pos c3, if_pos c4, if_neg c5], ⟨by rw [ht]; exact hP, va_K.moved hW.alike hK⟩, hD⟩, hS.F ht⟩) hS.2.2 dX11_byelaw_62
          · replace c5 := bo_t c5
            refine lv_iload hx hb dX11_byelaw_50 (lv_at hl 5 rfl) ?_
            refine lv_iconst (v := 0) hx hb dX11_byelaw_52 (by decide) ?_
            refine lv_iload hx hb dX11_byelaw_53 (lv_at hl 6 rfl) ?_
            refine vp_callSi (W.runS (As := [.int p4, .int 0, .int p5]) (rest := []) ⟨hx, hb, hml, hown, hts⟩ (c_X11_in l p4 0 p5) (va_cwS 3 hts gX11_byelaw_X11_in rfl rfl rfl (by decide +kernel) ⟨Nat.le_of_ble_eq_true rfl, Nat.le_of_ble_eq_true rfl⟩) ⟨fun _ _ _ _ q => q, fun U hU hW => ⟨rfl, trivial⟩⟩ rfl rfl hl.1 rfl (lv_room (Nat.le_of_ble_eq_true rfl)) dX11_byelaw_55 ⟨Nat.zero_le _, Nat.zero_le _⟩) (fun r hr9 => ?_)
            subst hr9
            refine lv_if_ne (tgt := 63) hx hb dX11_byelaw_58 (by decide) (fun c6 => ?_) (fun c6 => ?_)
            · replace c6 := bo_t c6
              refine lv_aload_n hx hb dX11_byelaw_63 rfl (lv_at hl 0 rfl) ?_
              refine va_get (D := (dC, dI)) (ci := 10) (v := .int (F 25)) (C := RX11) (T := TX11) (N := 49) hx hb hts hin hown hK hP 0 rfl rfl 25 (by decide) (hts (.fieldLink RX11 196 "SocietyBookModel" "byelaws" "I") (by decide +kernel)) (fun _ h9 => h9) rfl dX11_byelaw_64 ?_
              refine lv_bipush (v := 12) hx hb dX11_byelaw_67 (by decide) ?_
              refine lv_icmp_ne (tgt := 75) hx hb dX11_byelaw_69 (by decide) (fun c7 => ?_) (fun c7 => ?_)
              · refine lv_aload_n hx hb dX11_byelaw_75 rfl (lv_at hl 0 rfl) ?_
                refine va_get (D := (dC, dI)) (ci := 10) (v := .ref (a 26)) (C := RX11) (T := TX11) (N := 49) hx hb hts hin hown hK hP 0 rfl rfl 26 (by decide) (hts (.fieldLink RX11 65 "SocietyBookModel" "byelawDay" "[I") (by decide +kernel)) (fun _ h9 => h9) rfl dX11_byelaw_76 ?_
                refine lv_aload_n hx hb dX11_byelaw_79 rfl (lv_at hl 0 rfl) ?_
                refine va_get (D := (dC, dI)) (ci := 10) (v := .int (F 25)) (C := RX11) (T := TX11) (N := 49) hx hb hts hin hown hK hP 0 rfl rfl 25 (by decide) (hts (.fieldLink RX11 196 "SocietyBookModel" "byelaws" "I") (by decide +kernel)) (fun _ h9 => h9) rfl dX11_byelaw_80 ?_
                refine lv_iload_n hx hb dX11_byelaw_83 rfl (lv_at hl 1 rfl) ?_
                refine va_iast (f := M 26) hx hb hK hP hD hS 19 0 rfl rfl (ib_ct (iv_25 hI) c7 (by decide)) dX11_byelaw_84 (fun H locs hP hD hS => ?_)
                replace hP : va_P (dC, dI) vwCl (wM h a cI cB cZ F (va_up M 26 (upd (M 26) ((F 25).toNatClampNeg) p0))) H := hP
                replace hD : va_D A (wM h a cI cB cZ F (va_up M 26 (upd (M 26) ((F 25).toNatClampNeg) p0))) := hD
                refine lv_aload_n hx hb dX11_byelaw_85 rfl (lv_at hl 0 rfl) ?_
                refine va_get (D := (dC, dI)) (ci := 10) (v := .ref (a 27)) (C := RX11) (T := TX11) (N := 49) hx hb hts hin hown hK hP 0 rfl rfl 27 (by decide) (hts (.fieldLink RX11 68 "SocietyBookModel" "byelawHangs" "[I") (by decide +kernel)) (fun _ h9 => h9) rfl dX11_byelaw_86 ?_
                refine lv_aload_n hx hb dX11_byelaw_89 rfl (lv_at hl 0 rfl) ?_
                refine va_get (D := (dC, dI)) (ci := 10) (v := .int (F 25)) (C := RX11) (T := TX11) (N := 49) hx hb hts hin hown hK hP 0 rfl rfl 25 (by decide) (hts (.fieldLink RX11 196 "SocietyBookModel" "byelaws" "I") (by decide +kernel)) (fun _ h9 => h9) rfl dX11_byelaw_90 ?_
                refine lv_iload_n hx hb dX11_byelaw_93 rfl (lv_at hl 2 rfl) ?_
                refine va_iast (f := M 27) hx hb hK hP hD hS 20 0 rfl rfl (ib_ct (iv_25 hI) c7 (by decide)) dX11_byelaw_94 (fun H locs hP hD hS => ?_)
                replace hP : va_P (dC, dI) vwCl (wM h a cI cB cZ F (va_up (va_up M 26 (upd (M 26) ((F 25).toNatClampNeg) p0)) 27 (upd (M 27) ((F 25).toNatClampNeg) p1))) H := hP
                replace hD : va_D A (wM h a cI cB cZ F (va_up (va_up M 26 (upd (M 26) ((F 25).toNatClampNeg) p0)) 27 (upd (M 27) ((F 25).toNatClampNeg) p1))) := hD
                refine lv_aload_n hx hb dX11_byelaw_95 rfl (lv_at hl 0 rfl) ?_
                refine va_get (D := (dC, dI)) (ci := 10) (v := .ref (a 28)) (C := RX11) (T := TX11) (N := 49) hx hb hts hin hown hK hP 0 rfl rfl 28 (by decide) (hts (.fieldLink RX11 71 "SocietyBookModel" "byelawProposers" "[I") (by decide +kernel)) (fun _ h9 => h9) rfl dX11_byelaw_96 ?_
                refine lv_aload_n hx hb dX11_byelaw_99 rfl (lv_at hl 0 rfl) ?_
                refine va_get (D := (dC, dI)) (ci := 10) (v := .int (F 25)) (C := RX11) (T := TX11) (N := 49) hx hb hts hin hown hK hP 0 rfl rfl 25 (by decide) (hts (.fieldLink RX11 196 "SocietyBookModel" "byelaws" "I") (by decide +kernel)) (fun _ h9 => h9) rfl dX11_byelaw_100 ?_
                refine lv_iload_n hx hb dX11_byelaw_103 rfl (lv_at hl 3 rfl) ?_
                refine va_iast (f := M 28) hx hb hK hP hD hS 21 0 rfl rfl (ib_ct (iv_25 hI) c7 (by decide)) dX11_byelaw_104 (fun H locs hP hD hS => ?_)
                replace hP : va_P (dC, dI) vwCl (wM h a cI cB cZ F (va_up (va_up (va_up M 26 (upd (M 26) ((F 25).toNatClampNeg) p0)) 27 (upd (M 27) ((F 25).toNatClampNeg) p1)) 28 (upd (M 28) ((F 25).toNatClampNeg) p2))) H := hP
                replace hD : va_D A (wM h a cI cB cZ F (va_up (va_up (va_up M 26 (upd (M 26) ((F 25).toNatClampNeg) p0)) 27 (upd (M 27) ((F 25).toNatClampNeg) p1)) 28 (upd (M 28) ((F 25).toNatClampNeg) p2))) := hD
                refine lv_aload_n hx hb dX11_byelaw_105 rfl (lv_at hl 0 rfl) ?_
                refine va_get (D := (dC, dI)) (ci := 10) (v := .ref (a 29)) (C := RX11) (T := TX11) (N := 49) hx hb hts hin hown hK hP 0 rfl rfl 29 (by decide) (hts (.fieldLink RX11 74 "SocietyBookModel" "byelawBlack" "[I") (by decide +kernel)) (fun _ h9 => h9) rfl dX11_byelaw_106 ?_
                refine lv_aload_n hx hb dX11_byelaw_109 rfl (lv_at hl 0 rfl) ?_
                refine va_get (D := (dC, dI)) (ci := 10) (v := .int (F 25)) (C := RX11) (T := TX11) (N := 49) hx hb hts hin hown hK hP 0 rfl rfl 25 (by decide) (hts (.fieldLink RX11 196 "SocietyBookModel" "byelaws" "I") (by decide +kernel)) (fun _ h9 => h9) rfl dX11_byelaw_110 ?_
                refine lv_iload hx hb dX11_byelaw_113 (lv_at hl 4 rfl) ?_
                refine va_iast (f := M 29) hx hb hK hP hD hS 22 0 rfl rfl (ib_ct (iv_25 hI) c7 (by decide)) dX11_byelaw_115 (fun H locs hP hD hS => ?_)
                replace hP : va_P (dC, dI) vwCl (wM h a cI cB cZ F (va_up (va_up (va_up (va_up M 26 (upd (M 26) ((F 25).toNatClampNeg) p0)) 27 (upd (M 27) ((F 25).toNatClampNeg) p1)) 28 (upd (M 28) ((F 25).toNatClampNeg) p2)) 29 (upd (M 29) ((F 25).toNatClampNeg) p3))) H := hP
                replace hD : va_D A (wM h a cI cB cZ F (va_up (va_up (va_up (va_up M 26 (upd (M 26) ((F 25).toNatClampNeg) p0)) 27 (upd (M 27) ((F 25).toNatClampNeg) p1)) 28 (upd (M 28) ((F 25).toNatClampNeg) p2)) 29 (upd (M 29) ((F 25).toNatClampNeg) p3))) := hD
                refine lv_aload_n hx hb dX11_byelaw_116 rfl (lv_at hl 0 rfl) ?_
                refine va_get (D := (dC, dI)) (ci := 10) (v := .ref (a 30)) (C := RX11) (T := TX11) (N := 49) hx hb hts hin hown hK hP 0 rfl rfl 30 (by decide) (hts (.fieldLink RX11 77 "SocietyBookModel" "byelawUp" "[I") (by decide +kernel)) (fun _ h9 => h9) rfl dX11_byelaw_117 ?_
                refine lv_aload_n hx hb dX11_byelaw_120 rfl (lv_at hl 0 rfl) ?_
                refine va_get (D := (dC, dI)) (ci := 10) (v := .int (F 25)) (C := RX11) (T := TX11) (N := 49) hx hb hts hin hown hK hP 0 rfl rfl 25 (by decide) (hts (.fieldLink RX11 196 "SocietyBookModel" "byelaws" "I") (by decide +kernel)) (fun _ h9 => h9) rfl dX11_byelaw_121 ?_
                refine lv_iload hx hb dX11_byelaw_124 (lv_at hl 5 rfl) ?_
                refine va_iast (f := M 30) hx hb hK hP hD hS 23 0 rfl rfl (ib_ct (iv_25 hI) c7 (by decide)) dX11_byelaw_126 (fun H locs hP hD hS => ?_)
                replace hP : va_P (dC, dI) vwCl (wM h a cI cB cZ F (va_up (va_up (va_up (va_up (va_up M 26 (upd (M 26) ((F 25).toNatClampNeg) p0)) 27 (upd (M 27) ((F 25).toNatClampNeg) p1)) 28 (upd (M 28) ((F 25).toNatClampNeg) p2)) 29 (upd (M 29) ((F 25).toNatClampNeg) p3)) 30 (upd (M 30) ((F 25).toNatClampNeg) p4))) H := hP
                replace hD : va_D A (wM h a cI cB cZ F (va_up (va_up (va_up (va_up (va_up M 26 (upd (M 26) ((F 25).toNatClampNeg) p0)) 27 (upd (M 27) ((F 25).toNatClampNeg) p1)) 28 (upd (M 28) ((F 25).toNatClampNeg) p2)) 29 (upd (M 29) ((F 25).toNatClampNeg) p3)) 30 (upd (M 30) ((F 25).toNatClampNeg) p4))) := hD
                refine lv_aload_n hx hb dX11_byelaw_127 rfl (lv_at hl 0 rfl) ?_
                refine va_get (D := (dC, dI)) (ci := 10) (v := .ref (a 31)) (C := RX11) (T := TX11) (N := 49) hx hb hts hin hown hK hP 0 rfl rfl 31 (by decide) (hts (.fieldLink RX11 80 "SocietyBookModel" "byelawLow" "[I") (by decide +kernel)) (fun _ h9 => h9) rfl dX11_byelaw_128 ?_
                refine lv_aload_n hx hb dX11_byelaw_131 rfl (lv_at hl 0 rfl) ?_
                refine va_get (D := (dC, dI)) (ci := 10) (v := .int (F 25)) (C := RX11) (T := TX11) (N := 49) hx hb hts hin hown hK hP 0 rfl rfl 25 (by decide) (hts (.fieldLink RX11 196 "SocietyBookModel" "byelaws" "I") (by decide +kernel)) (fun _ h9 => h9) rfl dX11_byelaw_132 ?_
                refine lv_iload hx hb dX11_byelaw_135 (lv_at hl 6 rfl) ?_
                refine va_iast (f := M 31) hx hb hK hP hD hS 24 0 rfl rfl (ib_ct (iv_25 hI) c7 (by decide)) dX11_byelaw_137 (fun H locs hP hD hS => ?_)
                replace hP : va_P (dC, dI) vwCl (wM h a cI cB cZ F (va_up (va_up (va_up (va_up (va_up (va_up M 26 (upd (M 26) ((F 25).toNatClampNeg) p0)) 27 (upd (M 27) ((F 25).toNatClampNeg) p1)) 28 (upd (M 28) ((F 25).toNatClampNeg) p2)) 29 (upd (M 29) ((F 25).toNatClampNeg) p3)) 30 (upd (M 30) ((F 25).toNatClampNeg) p4)) 31 (upd (M 31) ((F 25).toNatClampNeg) p5))) H := hP
                replace hD : va_D A (wM h a cI cB cZ F (va_up (va_up (va_up (va_up (va_up (va_up M 26 (upd (M 26) ((F 25).toNatClampNeg) p0)) 27 (upd (M 27) ((F 25).toNatClampNeg) p1)) 28 (upd (M 28) ((F 25).toNatClampNeg) p2)) 29 (upd (M 29) ((F 25).toNatClampNeg) p3)) 30 (upd (M 30) ((F 25).toNatClampNeg) p4)) 31 (upd (M 31) ((F 25).toNatClampNeg) p5))) := hD
                refine lv_aload_n hx hb dX11_byelaw_138 rfl (lv_at hl 0 rfl) ?_
                refine lv_dup hx hb dX11_byelaw_139 rfl ?_
                refine va_get (D := (dC, dI)) (ci := 10) (v := .int (F 25)) (C := RX11) (T := TX11) (N := 49) hx hb hts hin hown hK hP 0 rfl rfl 25 (by decide) (hts (.fieldLink RX11 196 "SocietyBookModel" "byelaws" "I") (by decide +kernel)) (fun _ h9 => h9) rfl dX11_byelaw_140 ?_
                refine lv_iconst (v := 1) hx hb dX11_byelaw_143 (by decide) ?_
                refine lv_iadd hx hb dX11_byelaw_144 ?_
                refine va_put (D := (dC, dI)) (ci := 10) (v := .int ((F 25) + 1)) (ty := .int) (C := RX11) (T := TX11) (N := 49) hx hb hts hin tyX11 tyX11_ok nmX11 hown hK hP hD hS 0 rfl rfl 25 (by decide) (hts (.fieldLink RX11 196 "SocietyBookModel" "byelaws" "I") (by decide +kernel)) (fun _ h9 => h9) rfl (by decide +kernel) rfl rfl (Nat.le_of_ble_eq_true rfl) dX11_byelaw_145 (fun H locs hP hD hS => ?_)
                replace hP : va_P (dC, dI) vwCl (wM h a cI cB cZ (va_up F 25 ((F 25) + 1)) (va_up (va_up (va_up (va_up (va_up (va_up M 26 (upd (M 26) ((F 25).toNatClampNeg) p0)) 27 (upd (M 27) ((F 25).toNatClampNeg) p1)) 28 (upd (M 28) ((F 25).toNatClampNeg) p2)) 29 (upd (M 29) ((F 25).toNatClampNeg) p3)) 30 (upd (M 30) ((F 25).toNatClampNeg) p4)) 31 (upd (M 31) ((F 25).toNatClampNeg) p5))) H := hP
                replace hD : va_D A (wM h a cI cB cZ (va_up F 25 ((F 25) + 1)) (va_up (va_up (va_up (va_up (va_up (va_up M 26 (upd (M 26) ((F 25).toNatClampNeg) p0)) 27 (upd (M 27) ((F 25).toNatClampNeg) p1)) 28 (upd (M 28) ((F 25).toNatClampNeg) p2)) 29 (upd (M 29) ((F 25).toNatClampNeg) p3)) 30 (upd (M 30) ((F 25).toNatClampNeg) p4)) 31 (upd (M 31) ((F 25).toNatClampNeg) p5))) := hD
                refine lv_aload_n hx hb dX11_byelaw_148 rfl (lv_at hl 0 rfl) ?_
                refine va_get (D := (dC, dI)) (ci := 10) (v := .int ((F 25) + 1)) (C := RX11) (T := TX11) (N := 49) hx hb hts hin hown hK hP 0 rfl rfl 25 (by decide) (hts (.fieldLink RX11 196 "SocietyBookModel" "byelaws" "I") (by decide +kernel)) (fun _ h9 => h9) rfl dX11_byelaw_149 ?_
                refine lv_iconst (v := 1) hx hb dX11_byelaw_152 (by decide) ?_
                refine lv_isub hx hb dX11_byelaw_153 ?_
                exact W.iret (v := ((F 25) + 1) - 1) hx hb hr (fun t ht hW => ⟨⟨((F 25) + 1) - 1, (va_up F 25 ((F 25) + 1), va_up (va_up (va_up (va_up (va_up (va_up M 26 (upd (M 26) ((F 25).toNatClampNeg) p0)) 27 (upd (M 27) ((F 25).toNatClampNeg) p1)) 28 (upd (M 28) ((F 25).toNatClampNeg) p2)) 29 (upd (M 29) ((F 25).toNatClampNeg) p3)) 30 (upd (M 30) ((F 25).toNatClampNeg) p4)) 31 (upd (M 31) ((F 25).toNatClampNeg) p5)), rfl, by unfold s_X11_byelaw; rw [if_pos c1, if_pos c2, if_pos c3, if_pos c4, if_pos c5, if_pos c6, if_neg c7], ⟨by rw [ht]; exact hP, va_K.moved hW.alike hK⟩, hD⟩, hS.F ht⟩) hS.2.2 dX11_byelaw_154
              · refine lv_bipush (v := (-2)) hx hb dX11_byelaw_72 (by decide) ?_
                exact W.iret (v := (-2)) hx hb hr (fun t ht hW => ⟨⟨(-2), (F, M), rfl, by unfold s_X11_byelaw; rw [if_pos c1, if_pos c2, if_pos c3, if_pos c4, if_pos c5, if_pos c6, if_pos c7], ⟨by rw [ht]; exact hP, va_K.moved hW.alike hK⟩, hD⟩, hS.F ht⟩) hS.2.2 dX11_byelaw_74
            · replace c6 := bo_f c6
              refine lv_iconst (v := (-1)) hx hb dX11_byelaw_61 (by decide) ?_
              exact W.iret (v := (-1)) hx hb hr (fun t ht hW => ⟨⟨(-1), (F, M), rfl, by unfold s_X11_byelaw; rw [if_pos c1, if_pos c2, if_pos c3, if_pos c4, if_pos c5, if_neg c6], ⟨by rw [ht]; exact hP, va_K.moved hW.alike hK⟩, hD⟩, hS.F ht⟩) hS.2.2 dX11_byelaw_62

def s_X11_candidate (F : Nat → Int32) (M : Nat → Nat → Int32) (p0 : Int32) : Int32 × ((Nat → Int32) × (Nat → Nat → Int32)) :=
  if 0 ≤ p0 ∧ p0 ≤ ((1 <<< ((F 4) &&& 31)) - 1) then (if (F 32) = 20 then ((-2), (F, M)) else
    (((F 32) + 1) - 1, (va_up F 32 ((F 32) + 1), va_up (va_up (va_up M 33 (upd (M 33) ((F 32).toNatClampNeg) (F 3))) 34 (upd (M 34) ((F 32).toNatClampNeg) p0)) 35 (upd (M 35) ((F 32).toNatClampNeg) (vp_nar .boolean 0))))) else
  ((-1), (F, M))
set_option maxHeartbeats 4000000 in
set_option maxRecDepth 100000 in
theorem c_X11_candidate (l : Launch) (dC : Nat → ClassId) (dI : Nat → Nat → Nat) (h : Nat) (a : Nat → Nat) (cI cB cZ : ClassId) (F : Nat → Int32) (M : Nat → Nat → Int32) (p0 : Int32) (A : Nat → Prop) (hD : va_D A (wM h a cI cB cZ F M)) (hI : iv F M) : Met l yX11_candidate wsX11_candidate ({ frames := 1, cells := 0, slots := 0, locals := 22 } : Room) (va_Pc [.ref h, .int p0] (pM dC dI h a cI cB cZ F M)) (va_Qi (fun r u => (r, u) = s_X11_candidate F M p0) (qM A dC dI h a cI cB cZ) A) 0 0 A := by
  refine Met.ofW (cc := cX11_candidate) (maxL := 2) (ret := (some .int)) (by decide) rfl ?_
  intro p e s m args below meth c s₁ B hml hv
  obtain ⟨rfl, hP, hK⟩ := hv
  have hx := B.exec
  have hb := B.bytes
  have hr := B.returns
  have hts := atoms_spec (ws := wsX11_candidate) B.pre
  have hown : s.vm.findClass RX11 = some m.cls := findClass_of_methodNamed B.named
  have hlocks := B.notSynchronized
  have hin : ∀ w ∈ wsX110, w ∈ wsX11_candidate := by decide +kernel
  have hS : va_S A s.heap s.heap [] := va_S.rf
  have hl := lv_entry ([.ref h, .int p0]) (n := 2) (Nat.le_of_ble_eq_true rfl)
  rw [lg_entry_eq]
  generalize (lg_sl ([.ref h, .int p0]) ++ List.replicate (2 - (lg_sl ([.ref h, .int p0])).length) Slot.unset).toArray = ls at hl ⊢
  have hl : lv_has ls 2 [(0, .ref h), (1, .int p0)] := hl
  refine lv_iload_n hx hb dX11_candidate_0 rfl (lv_at hl 1 rfl) ?_
  refine lv_iconst (v := 0) hx hb dX11_candidate_1 (by decide) ?_
  refine lv_iconst (v := 1) hx hb dX11_candidate_2 (by decide) ?_
  refine lv_aload_n hx hb dX11_candidate_3 rfl (lv_at hl 0 rfl) ?_
  refine va_get (D := (dC, dI)) (ci := 10) (v := .int (F 4)) (C := RX11) (T := TX11) (N := 49) hx hb hts hin hown hK hP 0 rfl rfl 4 (by decide) (hts (.fieldLink RX11 143 "SocietyBookModel" "fellows" "I") (by decide +kernel)) (fun _ h9 => h9) rfl dX11_candidate_4 ?_
  refine lv_ishl hx hb dX11_candidate_7 ?_
  refine lv_iconst (v := 1) hx hb dX11_candidate_8 (by decide) ?_
  refine lv_isub hx hb dX11_candidate_9 ?_
  refine vp_callSi (W.runS (As := [.int p0, .int 0, .int ((1 <<< ((F 4) &&& 31)) - 1)]) (rest := []) ⟨hx, hb, hml, hown, hts⟩ (c_X11_in l p0 0 ((1 <<< ((F 4) &&& 31)) - 1)) (va_cwS 3 hts gX11_candidate_X11_in rfl rfl rfl (by decide +kernel) ⟨Nat.le_of_ble_eq_true rfl, Nat.le_of_ble_eq_true rfl⟩) ⟨fun _ _ _ _ q => q, fun U hU hW => ⟨rfl, trivial⟩⟩ rfl rfl hl.1 rfl (lv_room (Nat.le_of_ble_eq_true rfl)) dX11_candidate_10 ⟨Nat.zero_le _, Nat.zero_le _⟩) (fun r hr9 => ?_)
  subst hr9
  refine lv_if_ne (tgt := 18) hx hb dX11_candidate_13 (by decide) (fun c1 => ?_) (fun c1 => ?_)
  · replace c1 := bo_t c1
    refine lv_aload_n hx hb dX11_candidate_18 rfl (lv_at hl 0 rfl) ?_
    refine va_get (D := (dC, dI)) (ci := 10) (v := .int (F 32)) (C := RX11) (T := TX11) (N := 49) hx hb hts hin hown hK hP 0 rfl rfl 32 (by decide) (hts (.fieldLink RX11 199 "SocietyBookModel" "candidates" "I") (by decide +kernel)) (fun _ h9 => h9) rfl dX11_candidate_19 ?_
    refine lv_bipush (v := 20) hx hb dX11_candidate_22 (by decide) ?_
    refine lv_icmp_ne (tgt := 30) hx hb dX11_candidate_24 (by decide) (fun c2 => ?_) (fun c2 => ?_)
    · refine lv_aload_n hx hb dX11_candidate_30 rfl (lv_at hl 0 rfl) ?_
      refine va_get (D := (dC, dI)) (ci := 10) (v := .ref (a 33)) (C := RX11) (T := TX11) (N := 49) hx hb hts hin hown hK hP 0 rfl rfl 33 (by decide) (hts (.fieldLink RX11 83 "SocietyBookModel" "hungOn" "[I") (by decide +kernel)) (fun _ h9 => h9) rfl dX11_candidate_31 ?_
      refine lv_aload_n hx hb dX11_candidate_34 rfl (lv_at hl 0 rfl) ?_
      refine va_get (D := (dC, dI)) (ci := 10) (v := .int (F 32)) (C := RX11) (T := TX11) (N := 49) hx hb hts hin hown hK hP 0 rfl rfl 32 (by decide) (hts (.fieldLink RX11 199 "SocietyBookModel" "candidates" "I") (by decide +kernel)) (fun _ h9 => h9) rfl dX11_candidate_35 ?_
      refine lv_aload_n hx hb dX11_candidate_38 rfl (lv_at hl 0 rfl) ?_
      refine va_get (D := (dC, dI)) (ci := 10) (v := .int (F 3)) (C := RX11) (T := TX11) (N := 49) hx hb hts hin hown hK hP 0 rfl rfl 3 (by decide) (hts (.fieldLink RX11 140 "SocietyBookModel" "today" "I") (by decide +kernel)) (fun _ h9 => h9) rfl dX11_candidate_39 ?_
      refine va_iast (f := M 33) hx hb hK hP hD hS 25 0 rfl rfl (ib_ct (iv_32 hI) c2 (by decide)) dX11_candidate_42 (fun H locs hP hD hS => ?_)
      replace hP : va_P (dC, dI) vwCl (wM h a cI cB cZ F (va_up M 33 (upd (M 33) ((F 32).toNatClampNeg) (F 3)))) H := hP
      replace hD : va_D A (wM h a cI cB cZ F (va_up M 33 (upd (M 33) ((F 32).toNatClampNeg) (F 3)))) := hD
      refine lv_aload_n hx hb dX11_candidate_43 rfl (lv_at hl 0 rfl) ?_
      refine va_get (D := (dC, dI)) (ci := 10) (v := .ref (a 34)) (C := RX11) (T := TX11) (N := 49) hx hb hts hin hown hK hP 0 rfl rfl 34 (by decide) (hts (.fieldLink RX11 86 "SocietyBookModel" "proposersOf" "[I") (by decide +kernel)) (fun _ h9 => h9) rfl dX11_candidate_44 ?_
      refine lv_aload_n hx hb dX11_candidate_47 rfl (lv_at hl 0 rfl) ?_
      refine va_get (D := (dC, dI)) (ci := 10) (v := .int (F 32)) (C := RX11) (T := TX11) (N := 49) hx hb hts hin hown hK hP 0 rfl rfl 32 (by decide) (hts (.fieldLink RX11 199 "SocietyBookModel" "candidates" "I") (by decide +kernel)) (fun _ h9 => h9) rfl dX11_candidate_48 ?_
      refine lv_iload_n hx hb dX11_candidate_51 rfl (lv_at hl 1 rfl) ?_
      refine va_iast (f := M 34) hx hb hK hP hD hS 26 0 rfl rfl (ib_ct (iv_32 hI) c2 (by decide)) dX11_candidate_52 (fun H locs hP hD hS => ?_)
      replace hP : va_P (dC, dI) vwCl (wM h a cI cB cZ F (va_up (va_up M 33 (upd (M 33) ((F 32).toNatClampNeg) (F 3))) 34 (upd (M 34) ((F 32).toNatClampNeg) p0))) H := hP
      replace hD : va_D A (wM h a cI cB cZ F (va_up (va_up M 33 (upd (M 33) ((F 32).toNatClampNeg) (F 3))) 34 (upd (M 34) ((F 32).toNatClampNeg) p0))) := hD
      refine lv_aload_n hx hb dX11_candidate_53 rfl (lv_at hl 0 rfl) ?_
      refine va_get (D := (dC, dI)) (ci := 10) (v := .ref (a 35)) (C := RX11) (T := TX11) (N := 49) hx hb hts hin hown hK hP 0 rfl rfl 35 (by decide) (hts (.fieldLink RX11 89 "SocietyBookModel" "isGone" "[Z") (by decide +kernel)) (fun _ h9 => h9) rfl dX11_candidate_54 ?_
      refine lv_aload_n hx hb dX11_candidate_57 rfl (lv_at hl 0 rfl) ?_
      refine va_get (D := (dC, dI)) (ci := 10) (v := .int (F 32)) (C := RX11) (T := TX11) (N := 49) hx hb hts hin hown hK hP 0 rfl rfl 32 (by decide) (hts (.fieldLink RX11 199 "SocietyBookModel" "candidates" "I") (by decide +kernel)) (fun _ h9 => h9) rfl dX11_candidate_58 ?_
      refine lv_iconst (v := 0) hx hb dX11_candidate_61 (by decide) ?_
      refine va_zast (f := M 35) hx hb hK hP hD hS 27 2 rfl rfl (ib_ct (iv_32 hI) c2 (by decide)) dX11_candidate_62 (fun H locs hP hD hS => ?_)
      replace hP : va_P (dC, dI) vwCl (wM h a cI cB cZ F (va_up (va_up (va_up M 33 (upd (M 33) ((F 32).toNatClampNeg) (F 3))) 34 (upd (M 34) ((F 32).toNatClampNeg) p0)) 35 (upd (M 35) ((F 32).toNatClampNeg) (vp_nar .boolean 0)))) H := hP
      replace hD : va_D A (wM h a cI cB cZ F (va_up (va_up (va_up M 33 (upd (M 33) ((F 32).toNatClampNeg) (F 3))) 34 (upd (M 34) ((F 32).toNatClampNeg) p0)) 35 (upd (M 35) ((F 32).toNatClampNeg) (vp_nar .boolean 0)))) := hD
      refine lv_aload_n hx hb dX11_candidate_63 rfl (lv_at hl 0 rfl) ?_
      refine lv_dup hx hb dX11_candidate_64 rfl ?_
      refine va_get (D := (dC, dI)) (ci := 10) (v := .int (F 32)) (C := RX11) (T := TX11) (N := 49) hx hb hts hin hown hK hP 0 rfl rfl 32 (by decide) (hts (.fieldLink RX11 199 "SocietyBookModel" "candidates" "I") (by decide +kernel)) (fun _ h9 => h9) rfl dX11_candidate_65 ?_
      refine lv_iconst (v := 1) hx hb dX11_candidate_68 (by decide) ?_
      refine lv_iadd hx hb dX11_candidate_69 ?_
      refine va_put (D := (dC, dI)) (ci := 10) (v := .int ((F 32) + 1)) (ty := .int) (C := RX11) (T := TX11) (N := 49) hx hb hts hin tyX11 tyX11_ok nmX11 hown hK hP hD hS 0 rfl rfl 32 (by decide) (hts (.fieldLink RX11 199 "SocietyBookModel" "candidates" "I") (by decide +kernel)) (fun _ h9 => h9) rfl (by decide +kernel) rfl rfl (Nat.le_of_ble_eq_true rfl) dX11_candidate_70 (fun H locs hP hD hS => ?_)
      replace hP : va_P (dC, dI) vwCl (wM h a cI cB cZ (va_up F 32 ((F 32) + 1)) (va_up (va_up (va_up M 33 (upd (M 33) ((F 32).toNatClampNeg) (F 3))) 34 (upd (M 34) ((F 32).toNatClampNeg) p0)) 35 (upd (M 35) ((F 32).toNatClampNeg) (vp_nar .boolean 0)))) H := hP
      replace hD : va_D A (wM h a cI cB cZ (va_up F 32 ((F 32) + 1)) (va_up (va_up (va_up M 33 (upd (M 33) ((F 32).toNatClampNeg) (F 3))) 34 (upd (M 34) ((F 32).toNatClampNeg) p0)) 35 (upd (M 35) ((F 32).toNatClampNeg) (vp_nar .boolean 0)))) := hD
      refine lv_aload_n hx hb dX11_candidate_73 rfl (lv_at hl 0 rfl) ?_
      refine va_get (D := (dC, dI)) (ci := 10) (v := .int ((F 32) + 1)) (C := RX11) (T := TX11) (N := 49) hx hb hts hin hown hK hP 0 rfl rfl 32 (by decide) (hts (.fieldLink RX11 199 "SocietyBookModel" "candidates" "I") (by decide +kernel)) (fun _ h9 => h9) rfl dX11_candidate_74 ?_
      refine lv_iconst (v := 1) hx hb dX11_candidate_77 (by decide) ?_
      refine lv_isub hx hb dX11_candidate_78 ?_
      exact W.iret (v := ((F 32) + 1) - 1) hx hb hr (fun t ht hW => ⟨⟨((F 32) + 1) - 1, (va_up F 32 ((F 32) + 1), va_up (va_up (va_up M 33 (upd (M 33) ((F 32).toNatClampNeg) (F 3))) 34 (upd (M 34) ((F 32).toNatClampNeg) p0)) 35 (upd (M 35) ((F 32).toNatClampNeg) (vp_nar .boolean 0))), rfl, by unfold s_X11_candidate; rw [if_pos c1, if_neg c2], ⟨by rw [ht]; exact hP, va_K.moved hW.alike hK⟩, hD⟩, hS.F ht⟩) hS.2.2 dX11_candidate_79
    · refine lv_bipush (v := (-2)) hx hb dX11_candidate_27 (by decide) ?_
      exact W.iret (v := (-2)) hx hb hr (fun t ht hW => ⟨⟨(-2), (F, M), rfl, by unfold s_X11_candidate; rw [if_pos c1, if_pos c2], ⟨by rw [ht]; exact hP, va_K.moved hW.alike hK⟩, hD⟩, hS.F ht⟩) hS.2.2 dX11_candidate_29
  · replace c1 := bo_f c1
    refine lv_iconst (v := (-1)) hx hb dX11_candidate_16 (by decide) ?_
    exact W.iret (v := (-1)) hx hb hr (fun t ht hW => ⟨⟨(-1), (F, M), rfl, by unfold s_X11_candidate; rw [if_neg c1], ⟨by rw [ht]; exact hP, va_K.moved hW.alike hK⟩, hD⟩, hS.F ht⟩) hS.2.2 dX11_candidate_17

def s_X11_need (F : Nat → Int32) (M : Nat → Nat → Int32) (p0 : Int32) (p1 : Int32) : Int32 × ((Nat → Int32) × (Nat → Nat → Int32)) :=
  if 0 ≤ p1 ∧ p1 ≤ ((F 32) - 1) then (if p0 = 0 then ((-1), (F, M)) else
    if ((M 35) p1.toNatClampNeg) = 0 then (0, (F, M)) else
    ((s_X11_meets F M 1).1, ((s_X11_meets F M 1).2.1, (s_X11_meets F M 1).2.2))) else
  ((-1), (F, M))
set_option maxHeartbeats 4000000 in
set_option maxRecDepth 100000 in
theorem c_X11_need (l : Launch) (dC : Nat → ClassId) (dI : Nat → Nat → Nat) (h : Nat) (a : Nat → Nat) (cI cB cZ : ClassId) (F : Nat → Int32) (M : Nat → Nat → Int32) (p0 : Int32) (p1 : Int32) (A : Nat → Prop) (hD : va_D A (wM h a cI cB cZ F M)) (hI : iv F M) : Met l yX11_need wsX11_need ({ frames := 1, cells := 0, slots := 0, locals := 22 } : Room) (va_Pc [.ref h, .int p0, .int p1] (pM dC dI h a cI cB cZ F M)) (va_Qi (fun r u => (r, u) = s_X11_need F M p0 p1) (qM A dC dI h a cI cB cZ) A) 0 0 A := by
  refine Met.ofW (cc := cX11_need) (maxL := 3) (ret := (some .int)) (by decide) rfl ?_
  intro p e s m args below meth c s₁ B hml hv
  obtain ⟨rfl, hP, hK⟩ := hv
  have hx := B.exec
  have hb := B.bytes
  have hr := B.returns
  have hts := atoms_spec (ws := wsX11_need) B.pre
  have hown : s.vm.findClass RX11 = some m.cls := findClass_of_methodNamed B.named
  have hlocks := B.notSynchronized
  have hin : ∀ w ∈ wsX110, w ∈ wsX11_need := by decide +kernel
  have hS : va_S A s.heap s.heap [] := va_S.rf
  have hl := lv_entry ([.ref h, .int p0, .int p1]) (n := 3) (Nat.le_of_ble_eq_true rfl)
  rw [lg_entry_eq]
  generalize (lg_sl ([.ref h, .int p0, .int p1]) ++ List.replicate (3 - (lg_sl ([.ref h, .int p0, .int p1])).length) Slot.unset).toArray = ls at hl ⊢
  have hl : lv_has ls 3 [(0, .ref h), (1, .int p0), (2, .int p1)] := hl
  refine lv_iload_n hx hb dX11_need_0 rfl (lv_at hl 2 rfl) ?_
  refine lv_iconst (v := 0) hx hb dX11_need_1 (by decide) ?_
  refine lv_aload_n hx hb dX11_need_2 rfl (lv_at hl 0 rfl) ?_
  refine va_get (D := (dC, dI)) (ci := 10) (v := .int (F 32)) (C := RX11) (T := TX11) (N := 49) hx hb hts hin hown hK hP 0 rfl rfl 32 (by decide) (hts (.fieldLink RX11 199 "SocietyBookModel" "candidates" "I") (by decide +kernel)) (fun _ h9 => h9) rfl dX11_need_3 ?_
  refine lv_iconst (v := 1) hx hb dX11_need_6 (by decide) ?_
  refine lv_isub hx hb dX11_need_7 ?_
  refine vp_callSi (W.runS (As := [.int p1, .int 0, .int ((F 32) - 1)]) (rest := []) ⟨hx, hb, hml, hown, hts⟩ (c_X11_in l p1 0 ((F 32) - 1)) (va_cwS 3 hts gX11_need_X11_in rfl rfl rfl (by decide +kernel) ⟨Nat.le_of_ble_eq_true rfl, Nat.le_of_ble_eq_true rfl⟩) ⟨fun _ _ _ _ q => q, fun U hU hW => ⟨rfl, trivial⟩⟩ rfl rfl hl.1 rfl (lv_room (Nat.le_of_ble_eq_true rfl)) dX11_need_8 ⟨Nat.zero_le _, Nat.zero_le _⟩) (fun r hr9 => ?_)
  subst hr9
  refine lv_if_eq (tgt := 18) hx hb dX11_need_11 (by decide) (fun c1 => ?_) (fun c1 => ?_)
  · replace c1 := bo_f c1
    refine lv_iconst (v := (-1)) hx hb dX11_need_18 (by decide) ?_
    refine lv_goto (tgt := 40) hx hb dX11_need_19 (by decide) ?_
    exact W.iret (v := (-1)) hx hb hr (fun t ht hW => ⟨⟨(-1), (F, M), rfl, by unfold s_X11_need; rw [if_neg c1], ⟨by rw [ht]; exact hP, va_K.moved hW.alike hK⟩, hD⟩, hS.F ht⟩) hS.2.2 dX11_need_40
  · replace c1 := bo_t c1
    refine lv_iload_n hx hb dX11_need_14 rfl (lv_at hl 1 rfl) ?_
    refine lv_if_ne (tgt := 22) hx hb dX11_need_15 (by decide) (fun c2 => ?_) (fun c2 => ?_)
    · refine lv_aload_n hx hb dX11_need_22 rfl (lv_at hl 0 rfl) ?_
      refine va_get (D := (dC, dI)) (ci := 10) (v := .ref (a 35)) (C := RX11) (T := TX11) (N := 49) hx hb hts hin hown hK hP 0 rfl rfl 35 (by decide) (hts (.fieldLink RX11 89 "SocietyBookModel" "isGone" "[Z") (by decide +kernel)) (fun _ h9 => h9) rfl dX11_need_23 ?_
      refine lv_iload_n hx hb dX11_need_26 rfl (lv_at hl 2 rfl) ?_
      refine va_zald (f := M 35) hx hb hK hP 27 2 rfl rfl (ib_cn c1 (iv_32 hI) (by decide)) dX11_need_27 ?_
      refine lv_if_eq (tgt := 39) hx hb dX11_need_28 (by decide) (fun c3 => ?_) (fun c3 => ?_)
      · refine lv_iconst (v := 0) hx hb dX11_need_39 (by decide) ?_
        exact W.iret (v := 0) hx hb hr (fun t ht hW => ⟨⟨0, (F, M), rfl, by unfold s_X11_need; rw [if_pos c1, if_neg c2, if_pos c3], ⟨by rw [ht]; exact hP, va_K.moved hW.alike hK⟩, hD⟩, hS.F ht⟩) hS.2.2 dX11_need_40
      · refine lv_aload_n hx hb dX11_need_31 rfl (lv_at hl 0 rfl) ?_
        refine lv_iconst (v := 1) hx hb dX11_need_32 (by decide) ?_
        refine va_calli (va_runV (As := [.int 1]) (rest := []) ⟨hx, hb, hml, hown, hts⟩ (c_X11_meets l dC dI h a cI cB cZ F M 1 A hD (ib_lit (by decide))) (cwV 1 hts gX11_need_X11_meets rfl rfl rfl (by decide +kernel) ⟨Nat.le_of_ble_eq_true rfl, Nat.le_of_ble_eq_true rfl⟩) ⟨pm_blind, va_recv hK hP (ci := 10) (q0 := 0) rfl rfl, fun U hU hW => ⟨rfl, by rw [hU]; exact hP, va_K.moved hW.alike hK⟩⟩ rfl rfl hl.1 rfl (lv_room (Nat.le_of_ble_eq_true rfl)) dX11_need_33 ⟨Nat.zero_le _, Nat.zero_le _⟩) hS (fun q _ h => h) (fun q h => h) (fun r u t H1 locs ht hvm hw hB hz1 hk1 hS => ?_)
        obtain ⟨hr9, hu9⟩ : r = (s_X11_meets F M 1).1 ∧ u = (s_X11_meets F M 1).2 := ⟨congrArg Prod.fst hw, congrArg Prod.snd hw⟩
        subst hr9; subst hu9
        obtain ⟨⟨hP, -⟩, hD⟩ := hB
        rw [ht] at hP
        clear hw hz1 hk1 ht hvm; generalize H1 = H at hP hS ⊢
        refine lv_goto (tgt := 40) hx hb dX11_need_36 (by decide) ?_
        exact W.iret (v := (s_X11_meets F M 1).1) hx hb hr (fun t ht hW => ⟨⟨(s_X11_meets F M 1).1, ((s_X11_meets F M 1).2.1, (s_X11_meets F M 1).2.2), rfl, by unfold s_X11_need; rw [if_pos c1, if_neg c2, if_neg c3], ⟨by rw [ht]; exact hP, va_K.moved hW.alike hK⟩, hD⟩, hS.F ht⟩) hS.2.2 dX11_need_40
    · refine lv_iconst (v := (-1)) hx hb dX11_need_18 (by decide) ?_
      refine lv_goto (tgt := 40) hx hb dX11_need_19 (by decide) ?_
      exact W.iret (v := (-1)) hx hb hr (fun t ht hW => ⟨⟨(-1), (F, M), rfl, by unfold s_X11_need; rw [if_pos c1, if_pos c2], ⟨by rw [ht]; exact hP, va_K.moved hW.alike hK⟩, hD⟩, hS.F ht⟩) hS.2.2 dX11_need_40

theorem l_need {F : Nat → Int32} {M : Nat → Nat → Int32} {p0 p1 : Int32} (hI : iv F M) (h : 0 ≤ (s_X11_need F M p0 p1).1) : vp_in p1 20 := by
  unfold s_X11_need at h
  by_cases c1 : 0 ≤ p1 ∧ p1 ≤ F 32 - 1
  · exact ib_cn c1 (iv_32 hI) (by decide)
  · rw [if_neg c1] at h; exact absurd (show (0 : Int32) ≤ -1 from h) (by decide)

def s_X11_propose (F : Nat → Int32) (M : Nat → Nat → Int32) (p0 : Int32) (p1 : Int32) : Int32 × ((Nat → Int32) × (Nat → Nat → Int32)) :=
  if 0 ≤ ((s_X11_need F M (if 0 ≤ p1 ∧ p1 ≤ ((F 4) - 1) then (1 : Int32) else 0) p0).1) then (s_X11_bitsOf ((upd (((s_X11_need F M (if 0 ≤ p1 ∧ p1 ≤ ((F 4) - 1) then (1 : Int32) else 0) p0).2.2) 34) p0.toNatClampNeg (((((s_X11_need F M (if 0 ≤ p1 ∧ p1 ≤ ((F 4) - 1) then (1 : Int32) else 0) p0).2.2) 34) p0.toNatClampNeg) ||| (1 <<< (p1 &&& 31)))) p0.toNatClampNeg), ((s_X11_need F M (if 0 ≤ p1 ∧ p1 ≤ ((F 4) - 1) then (1 : Int32) else 0) p0).2.1, va_up ((s_X11_need F M (if 0 ≤ p1 ∧ p1 ≤ ((F 4) - 1) then (1 : Int32) else 0) p0).2.2) 34 (upd (((s_X11_need F M (if 0 ≤ p1 ∧ p1 ≤ ((F 4) - 1) then (1 : Int32) else 0) p0).2.2) 34) p0.toNatClampNeg (((((s_X11_need F M (if 0 ≤ p1 ∧ p1 ≤ ((F 4) - 1) then (1 : Int32) else 0) p0).2.2) 34) p0.toNatClampNeg) ||| (1 <<< (p1 &&& 31)))))) else
  ((s_X11_need F M (if 0 ≤ p1 ∧ p1 ≤ ((F 4) - 1) then (1 : Int32) else 0) p0).1, ((s_X11_need F M (if 0 ≤ p1 ∧ p1 ≤ ((F 4) - 1) then (1 : Int32) else 0) p0).2.1, (s_X11_need F M (if 0 ≤ p1 ∧ p1 ≤ ((F 4) - 1) then (1 : Int32) else 0) p0).2.2))
set_option maxHeartbeats 4000000 in
set_option maxRecDepth 100000 in
theorem c_X11_propose (l : Launch) (dC : Nat → ClassId) (dI : Nat → Nat → Nat) (h : Nat) (a : Nat → Nat) (cI cB cZ : ClassId) (F : Nat → Int32) (M : Nat → Nat → Int32) (p0 : Int32) (p1 : Int32) (A : Nat → Prop) (hD : va_D A (wM h a cI cB cZ F M)) (hI : iv F M) : Met l yX11_propose wsX11_propose ({ frames := 2, cells := 0, slots := 0, locals := 44 } : Room) (va_Pc [.ref h, .int p0, .int p1] (pM dC dI h a cI cB cZ F M)) (va_Qi (fun r u => (r, u) = s_X11_propose F M p0 p1) (qM A dC dI h a cI cB cZ) A) 0 0 A := by
  refine Met.ofW (cc := cX11_propose) (maxL := 4) (ret := (some .int)) (by decide) rfl ?_
  intro p e s m args below meth c s₁ B hml hv
  obtain ⟨rfl, hP, hK⟩ := hv
  have hx := B.exec
  have hb := B.bytes
  have hr := B.returns
  have hts := atoms_spec (ws := wsX11_propose) B.pre
  have hown : s.vm.findClass RX11 = some m.cls := findClass_of_methodNamed B.named
  have hlocks := B.notSynchronized
  have hin : ∀ w ∈ wsX110, w ∈ wsX11_propose := by decide +kernel
  have hS : va_S A s.heap s.heap [] := va_S.rf
  have hl := lv_entry ([.ref h, .int p0, .int p1]) (n := 4) (Nat.le_of_ble_eq_true rfl)
  rw [lg_entry_eq]
  generalize (lg_sl ([.ref h, .int p0, .int p1]) ++ List.replicate (4 - (lg_sl ([.ref h, .int p0, .int p1])).length) Slot.unset).toArray = ls at hl ⊢
  have hl : lv_has ls 4 [(0, .ref h), (1, .int p0), (2, .int p1)] := hl
  refine lv_aload_n hx hb dX11_propose_0 rfl (lv_at hl 0 rfl) ?_
  refine lv_aload_n hx hb dX11_propose_1 rfl (lv_at hl 0 rfl) ?_
  refine lv_iload_n hx hb dX11_propose_2 rfl (lv_at hl 2 rfl) ?_
  refine vp_callSi (W.runV (As := [.int p1]) (rest := [.ref h]) ⟨hx, hb, hml, hown, hts⟩ (c_X11_isFellow l dC dI h a cI cB cZ F M p1) (cwV 1 hts gX11_propose_X11_isFellow rfl rfl rfl (by decide +kernel) ⟨Nat.le_of_ble_eq_true rfl, Nat.le_of_ble_eq_true rfl⟩) ⟨pm_blind, va_recv hK hP (ci := 10) (q0 := 0) rfl rfl, fun U hU hW => ⟨rfl, by rw [hU]; exact hP, va_K.moved hW.alike hK⟩⟩ rfl rfl hl.1 rfl (lv_room (Nat.le_of_ble_eq_true rfl)) dX11_propose_3 ⟨Nat.zero_le _, Nat.zero_le _⟩) (fun r hr9 => ?_)
  subst hr9
  refine lv_iload_n hx hb dX11_propose_6 rfl (lv_at hl 1 rfl) ?_
  refine va_calli (va_runV (As := [.int (if 0 ≤ p1 ∧ p1 ≤ ((F 4) - 1) then (1 : Int32) else 0), .int p0]) (rest := []) ⟨hx, hb, hml, hown, hts⟩ (c_X11_need l dC dI h a cI cB cZ F M (if 0 ≤ p1 ∧ p1 ≤ ((F 4) - 1) then (1 : Int32) else 0) p0 A hD hI) (cwV 2 hts gX11_propose_X11_need rfl rfl rfl (by decide +kernel) ⟨Nat.le_of_ble_eq_true rfl, Nat.le_of_ble_eq_true rfl⟩) ⟨pm_blind, va_recv hK hP (ci := 10) (q0 := 0) rfl rfl, fun U hU hW => ⟨rfl, by rw [hU]; exact hP, va_K.moved hW.alike hK⟩⟩ rfl rfl hl.1 rfl (lv_room (Nat.le_of_ble_eq_true rfl)) dX11_propose_7 ⟨Nat.zero_le _, Nat.zero_le _⟩) hS (fun q _ h => h) (fun q h => h) (fun r u t H1 locs ht hvm hw hB hz1 hk1 hS => ?_)
  obtain ⟨hr9, hu9⟩ : r = (s_X11_need F M (if 0 ≤ p1 ∧ p1 ≤ ((F 4) - 1) then (1 : Int32) else 0) p0).1 ∧ u = (s_X11_need F M (if 0 ≤ p1 ∧ p1 ≤ ((F 4) - 1) then (1 : Int32) else 0) p0).2 := ⟨congrArg Prod.fst hw, congrArg Prod.snd hw⟩
  subst hr9; subst hu9
  obtain ⟨⟨hP, -⟩, hD⟩ := hB
  rw [ht] at hP
  clear hw hz1 hk1 ht hvm; generalize H1 = H at hP hS ⊢
  refine lv_istore_n (lv' := [(3, .int ((s_X11_need F M (if 0 ≤ p1 ∧ p1 ≤ ((F 4) - 1) then (1 : Int32) else 0) p0).1)), (0, .ref h), (1, .int p0), (2, .int p1)]) hx hb dX11_propose_10 rfl hl (by decide) rfl (fun ls hl => ?_)
  refine lv_iload_n hx hb dX11_propose_11 rfl (lv_at hl 0 rfl) ?_
  refine lv_if_ge (tgt := 17) hx hb dX11_propose_12 (by decide) (fun c1 => ?_) (fun c1 => ?_)
  · refine lv_aload_n hx hb dX11_propose_17 rfl (lv_at hl 1 rfl) ?_
    refine va_get (D := (dC, dI)) (ci := 10) (v := .ref (a 34)) (C := RX11) (T := TX11) (N := 49) hx hb hts hin hown hK hP 0 rfl rfl 34 (by decide) (hts (.fieldLink RX11 86 "SocietyBookModel" "proposersOf" "[I") (by decide +kernel)) (fun _ h9 => h9) rfl dX11_propose_18 ?_
    refine lv_iload_n hx hb dX11_propose_21 rfl (lv_at hl 2 rfl) ?_
    refine lv_dup2_11 hx hb dX11_propose_22 rfl rfl ?_
    refine va_iald (f := ((s_X11_need F M (if 0 ≤ p1 ∧ p1 ≤ ((F 4) - 1) then (1 : Int32) else 0) p0).2.2) 34) hx hb hK hP 26 0 rfl rfl (l_need hI c1) dX11_propose_23 ?_
    refine lv_iconst (v := 1) hx hb dX11_propose_24 (by decide) ?_
    refine lv_iload_n hx hb dX11_propose_25 rfl (lv_at hl 3 rfl) ?_
    refine lv_ishl hx hb dX11_propose_26 ?_
    refine lv_ior hx hb dX11_propose_27 ?_
    refine va_iast (f := ((s_X11_need F M (if 0 ≤ p1 ∧ p1 ≤ ((F 4) - 1) then (1 : Int32) else 0) p0).2.2) 34) hx hb hK hP hD hS 26 0 rfl rfl (l_need hI c1) dX11_propose_28 (fun H locs hP hD hS => ?_)
    replace hP : va_P (dC, dI) vwCl (wM h a cI cB cZ ((s_X11_need F M (if 0 ≤ p1 ∧ p1 ≤ ((F 4) - 1) then (1 : Int32) else 0) p0).2.1) (va_up ((s_X11_need F M (if 0 ≤ p1 ∧ p1 ≤ ((F 4) - 1) then (1 : Int32) else 0) p0).2.2) 34 (upd (((s_X11_need F M (if 0 ≤ p1 ∧ p1 ≤ ((F 4) - 1) then (1 : Int32) else 0) p0).2.2) 34) p0.toNatClampNeg (((((s_X11_need F M (if 0 ≤ p1 ∧ p1 ≤ ((F 4) - 1) then (1 : Int32) else 0) p0).2.2) 34) p0.toNatClampNeg) ||| (1 <<< (p1 &&& 31)))))) H := hP
    replace hD : va_D A (wM h a cI cB cZ ((s_X11_need F M (if 0 ≤ p1 ∧ p1 ≤ ((F 4) - 1) then (1 : Int32) else 0) p0).2.1) (va_up ((s_X11_need F M (if 0 ≤ p1 ∧ p1 ≤ ((F 4) - 1) then (1 : Int32) else 0) p0).2.2) 34 (upd (((s_X11_need F M (if 0 ≤ p1 ∧ p1 ≤ ((F 4) - 1) then (1 : Int32) else 0) p0).2.2) 34) p0.toNatClampNeg (((((s_X11_need F M (if 0 ≤ p1 ∧ p1 ≤ ((F 4) - 1) then (1 : Int32) else 0) p0).2.2) 34) p0.toNatClampNeg) ||| (1 <<< (p1 &&& 31)))))) := hD
    refine lv_aload_n hx hb dX11_propose_29 rfl (lv_at hl 1 rfl) ?_
    refine va_get (D := (dC, dI)) (ci := 10) (v := .ref (a 34)) (C := RX11) (T := TX11) (N := 49) hx hb hts hin hown hK hP 0 rfl rfl 34 (by decide) (hts (.fieldLink RX11 86 "SocietyBookModel" "proposersOf" "[I") (by decide +kernel)) (fun _ h9 => h9) rfl dX11_propose_30 ?_
    refine lv_iload_n hx hb dX11_propose_33 rfl (lv_at hl 2 rfl) ?_
    refine va_iald (f := upd (((s_X11_need F M (if 0 ≤ p1 ∧ p1 ≤ ((F 4) - 1) then (1 : Int32) else 0) p0).2.2) 34) p0.toNatClampNeg (((((s_X11_need F M (if 0 ≤ p1 ∧ p1 ≤ ((F 4) - 1) then (1 : Int32) else 0) p0).2.2) 34) p0.toNatClampNeg) ||| (1 <<< (p1 &&& 31)))) hx hb hK hP 26 0 rfl rfl (l_need hI c1) dX11_propose_34 ?_
    refine vp_callSi (W.runS (As := [.int ((upd (((s_X11_need F M (if 0 ≤ p1 ∧ p1 ≤ ((F 4) - 1) then (1 : Int32) else 0) p0).2.2) 34) p0.toNatClampNeg (((((s_X11_need F M (if 0 ≤ p1 ∧ p1 ≤ ((F 4) - 1) then (1 : Int32) else 0) p0).2.2) 34) p0.toNatClampNeg) ||| (1 <<< (p1 &&& 31)))) p0.toNatClampNeg)]) (rest := []) ⟨hx, hb, hml, hown, hts⟩ (c_X11_bitsOf l ((upd (((s_X11_need F M (if 0 ≤ p1 ∧ p1 ≤ ((F 4) - 1) then (1 : Int32) else 0) p0).2.2) 34) p0.toNatClampNeg (((((s_X11_need F M (if 0 ≤ p1 ∧ p1 ≤ ((F 4) - 1) then (1 : Int32) else 0) p0).2.2) 34) p0.toNatClampNeg) ||| (1 <<< (p1 &&& 31)))) p0.toNatClampNeg)) (va_cwS 1 hts gX11_propose_X11_bitsOf rfl rfl rfl (by decide +kernel) ⟨Nat.le_of_ble_eq_true rfl, Nat.le_of_ble_eq_true rfl⟩) ⟨fun _ _ _ _ q => q, fun U hU hW => ⟨rfl, trivial⟩⟩ rfl rfl hl.1 rfl (lv_room (Nat.le_of_ble_eq_true rfl)) dX11_propose_35 ⟨Nat.zero_le _, Nat.zero_le _⟩) (fun r hr9 => ?_)
    subst hr9
    exact W.iret (v := s_X11_bitsOf ((upd (((s_X11_need F M (if 0 ≤ p1 ∧ p1 ≤ ((F 4) - 1) then (1 : Int32) else 0) p0).2.2) 34) p0.toNatClampNeg (((((s_X11_need F M (if 0 ≤ p1 ∧ p1 ≤ ((F 4) - 1) then (1 : Int32) else 0) p0).2.2) 34) p0.toNatClampNeg) ||| (1 <<< (p1 &&& 31)))) p0.toNatClampNeg)) hx hb hr (fun t ht hW => ⟨⟨s_X11_bitsOf ((upd (((s_X11_need F M (if 0 ≤ p1 ∧ p1 ≤ ((F 4) - 1) then (1 : Int32) else 0) p0).2.2) 34) p0.toNatClampNeg (((((s_X11_need F M (if 0 ≤ p1 ∧ p1 ≤ ((F 4) - 1) then (1 : Int32) else 0) p0).2.2) 34) p0.toNatClampNeg) ||| (1 <<< (p1 &&& 31)))) p0.toNatClampNeg), ((s_X11_need F M (if 0 ≤ p1 ∧ p1 ≤ ((F 4) - 1) then (1 : Int32) else 0) p0).2.1, va_up ((s_X11_need F M (if 0 ≤ p1 ∧ p1 ≤ ((F 4) - 1) then (1 : Int32) else 0) p0).2.2) 34 (upd (((s_X11_need F M (if 0 ≤ p1 ∧ p1 ≤ ((F 4) - 1) then (1 : Int32) else 0) p0).2.2) 34) p0.toNatClampNeg (((((s_X11_need F M (if 0 ≤ p1 ∧ p1 ≤ ((F 4) - 1) then (1 : Int32) else 0) p0).2.2) 34) p0.toNatClampNeg) ||| (1 <<< (p1 &&& 31))))), rfl, by unfold s_X11_propose; rw [if_pos c1], ⟨by rw [ht]; exact hP, va_K.moved hW.alike hK⟩, hD⟩, hS.F ht⟩) hS.2.2 dX11_propose_38
  · refine lv_iload_n hx hb dX11_propose_15 rfl (lv_at hl 0 rfl) ?_
    exact W.iret (v := (s_X11_need F M (if 0 ≤ p1 ∧ p1 ≤ ((F 4) - 1) then (1 : Int32) else 0) p0).1) hx hb hr (fun t ht hW => ⟨⟨(s_X11_need F M (if 0 ≤ p1 ∧ p1 ≤ ((F 4) - 1) then (1 : Int32) else 0) p0).1, ((s_X11_need F M (if 0 ≤ p1 ∧ p1 ≤ ((F 4) - 1) then (1 : Int32) else 0) p0).2.1, (s_X11_need F M (if 0 ≤ p1 ∧ p1 ≤ ((F 4) - 1) then (1 : Int32) else 0) p0).2.2), rfl, by unfold s_X11_propose; rw [if_neg c1], ⟨by rw [ht]; exact hP, va_K.moved hW.alike hK⟩, hD⟩, hS.F ht⟩) hS.2.2 dX11_propose_16

def s_X11_withdraw (F : Nat → Int32) (M : Nat → Nat → Int32) (p0 : Int32) : Int32 × ((Nat → Int32) × (Nat → Nat → Int32)) :=
  if 0 ≤ ((s_X11_need F M 1 p0).1) then (1, ((s_X11_need F M 1 p0).2.1, va_up ((s_X11_need F M 1 p0).2.2) 35 (upd (((s_X11_need F M 1 p0).2.2) 35) p0.toNatClampNeg (vp_nar .boolean 1)))) else
  ((s_X11_need F M 1 p0).1, ((s_X11_need F M 1 p0).2.1, (s_X11_need F M 1 p0).2.2))
set_option maxHeartbeats 4000000 in
set_option maxRecDepth 100000 in
theorem c_X11_withdraw (l : Launch) (dC : Nat → ClassId) (dI : Nat → Nat → Nat) (h : Nat) (a : Nat → Nat) (cI cB cZ : ClassId) (F : Nat → Int32) (M : Nat → Nat → Int32) (p0 : Int32) (A : Nat → Prop) (hD : va_D A (wM h a cI cB cZ F M)) (hI : iv F M) : Met l yX11_withdraw wsX11_withdraw ({ frames := 2, cells := 0, slots := 0, locals := 44 } : Room) (va_Pc [.ref h, .int p0] (pM dC dI h a cI cB cZ F M)) (va_Qi (fun r u => (r, u) = s_X11_withdraw F M p0) (qM A dC dI h a cI cB cZ) A) 0 0 A := by
  refine Met.ofW (cc := cX11_withdraw) (maxL := 3) (ret := (some .int)) (by decide) rfl ?_
  intro p e s m args below meth c s₁ B hml hv
  obtain ⟨rfl, hP, hK⟩ := hv
  have hx := B.exec
  have hb := B.bytes
  have hr := B.returns
  have hts := atoms_spec (ws := wsX11_withdraw) B.pre
  have hown : s.vm.findClass RX11 = some m.cls := findClass_of_methodNamed B.named
  have hlocks := B.notSynchronized
  have hin : ∀ w ∈ wsX110, w ∈ wsX11_withdraw := by decide +kernel
  have hS : va_S A s.heap s.heap [] := va_S.rf
  have hl := lv_entry ([.ref h, .int p0]) (n := 3) (Nat.le_of_ble_eq_true rfl)
  rw [lg_entry_eq]
  generalize (lg_sl ([.ref h, .int p0]) ++ List.replicate (3 - (lg_sl ([.ref h, .int p0])).length) Slot.unset).toArray = ls at hl ⊢
  have hl : lv_has ls 3 [(0, .ref h), (1, .int p0)] := hl
  refine lv_aload_n hx hb dX11_withdraw_0 rfl (lv_at hl 0 rfl) ?_
  refine lv_iconst (v := 1) hx hb dX11_withdraw_1 (by decide) ?_
  refine lv_iload_n hx hb dX11_withdraw_2 rfl (lv_at hl 1 rfl) ?_
  refine va_calli (va_runV (As := [.int 1, .int p0]) (rest := []) ⟨hx, hb, hml, hown, hts⟩ (c_X11_need l dC dI h a cI cB cZ F M 1 p0 A hD hI) (cwV 2 hts gX11_withdraw_X11_need rfl rfl rfl (by decide +kernel) ⟨Nat.le_of_ble_eq_true rfl, Nat.le_of_ble_eq_true rfl⟩) ⟨pm_blind, va_recv hK hP (ci := 10) (q0 := 0) rfl rfl, fun U hU hW => ⟨rfl, by rw [hU]; exact hP, va_K.moved hW.alike hK⟩⟩ rfl rfl hl.1 rfl (lv_room (Nat.le_of_ble_eq_true rfl)) dX11_withdraw_3 ⟨Nat.zero_le _, Nat.zero_le _⟩) hS (fun q _ h => h) (fun q h => h) (fun r u t H1 locs ht hvm hw hB hz1 hk1 hS => ?_)
  obtain ⟨hr9, hu9⟩ : r = (s_X11_need F M 1 p0).1 ∧ u = (s_X11_need F M 1 p0).2 := ⟨congrArg Prod.fst hw, congrArg Prod.snd hw⟩
  subst hr9; subst hu9
  obtain ⟨⟨hP, -⟩, hD⟩ := hB
  rw [ht] at hP
  clear hw hz1 hk1 ht hvm; generalize H1 = H at hP hS ⊢
  refine lv_istore_n (lv' := [(2, .int ((s_X11_need F M 1 p0).1)), (0, .ref h), (1, .int p0)]) hx hb dX11_withdraw_6 rfl hl (by decide) rfl (fun ls hl => ?_)
  refine lv_iload_n hx hb dX11_withdraw_7 rfl (lv_at hl 0 rfl) ?_
  refine lv_if_ge (tgt := 13) hx hb dX11_withdraw_8 (by decide) (fun c1 => ?_) (fun c1 => ?_)
  · refine lv_aload_n hx hb dX11_withdraw_13 rfl (lv_at hl 1 rfl) ?_
    refine va_get (D := (dC, dI)) (ci := 10) (v := .ref (a 35)) (C := RX11) (T := TX11) (N := 49) hx hb hts hin hown hK hP 0 rfl rfl 35 (by decide) (hts (.fieldLink RX11 89 "SocietyBookModel" "isGone" "[Z") (by decide +kernel)) (fun _ h9 => h9) rfl dX11_withdraw_14 ?_
    refine lv_iload_n hx hb dX11_withdraw_17 rfl (lv_at hl 2 rfl) ?_
    refine lv_iconst (v := 1) hx hb dX11_withdraw_18 (by decide) ?_
    refine va_zast (f := ((s_X11_need F M 1 p0).2.2) 35) hx hb hK hP hD hS 27 2 rfl rfl (l_need hI c1) dX11_withdraw_19 (fun H locs hP hD hS => ?_)
    replace hP : va_P (dC, dI) vwCl (wM h a cI cB cZ ((s_X11_need F M 1 p0).2.1) (va_up ((s_X11_need F M 1 p0).2.2) 35 (upd (((s_X11_need F M 1 p0).2.2) 35) p0.toNatClampNeg (vp_nar .boolean 1)))) H := hP
    replace hD : va_D A (wM h a cI cB cZ ((s_X11_need F M 1 p0).2.1) (va_up ((s_X11_need F M 1 p0).2.2) 35 (upd (((s_X11_need F M 1 p0).2.2) 35) p0.toNatClampNeg (vp_nar .boolean 1)))) := hD
    refine lv_iconst (v := 1) hx hb dX11_withdraw_20 (by decide) ?_
    exact W.iret (v := 1) hx hb hr (fun t ht hW => ⟨⟨1, ((s_X11_need F M 1 p0).2.1, va_up ((s_X11_need F M 1 p0).2.2) 35 (upd (((s_X11_need F M 1 p0).2.2) 35) p0.toNatClampNeg (vp_nar .boolean 1))), rfl, by unfold s_X11_withdraw; rw [if_pos c1], ⟨by rw [ht]; exact hP, va_K.moved hW.alike hK⟩, hD⟩, hS.F ht⟩) hS.2.2 dX11_withdraw_21
  · refine lv_iload_n hx hb dX11_withdraw_11 rfl (lv_at hl 0 rfl) ?_
    exact W.iret (v := (s_X11_need F M 1 p0).1) hx hb hr (fun t ht hW => ⟨⟨(s_X11_need F M 1 p0).1, ((s_X11_need F M 1 p0).2.1, (s_X11_need F M 1 p0).2.2), rfl, by unfold s_X11_withdraw; rw [if_neg c1], ⟨by rw [ht]; exact hP, va_K.moved hW.alike hK⟩, hD⟩, hS.F ht⟩) hS.2.2 dX11_withdraw_12

def s_X11_bars (F : Nat → Int32) (M : Nat → Nat → Int32) (p0 : Int32) (p1 : Int32) (p2 : Int32) (p3 : Int32) : Int32 :=
  if ((M 27) p1.toNatClampNeg) ≤ ((F 3) - ((M 33) p0.toNatClampNeg)) then (if ((M 28) p1.toNatClampNeg) ≤ (s_X11_bitsOf ((M 34) p0.toNatClampNeg)) then (if p3 ≤ ((M 29) p1.toNatClampNeg) then (if (p2 + p3) = 0 then 5 else
        if (((M 30) p1.toNatClampNeg) * (p2 + p3)) ≤ (p2 * ((M 31) p1.toNatClampNeg)) then 1 else
        5) else
      4) else
    3) else
  2
set_option maxHeartbeats 4000000 in
set_option maxRecDepth 100000 in
theorem c_X11_bars (l : Launch) (dC : Nat → ClassId) (dI : Nat → Nat → Nat) (h : Nat) (a : Nat → Nat) (cI cB cZ : ClassId) (F : Nat → Int32) (M : Nat → Nat → Int32) (p0 : Int32) (p1 : Int32) (p2 : Int32) (p3 : Int32) (hI : iv F M) (hp : vp_in p0 20) (hs : vp_in p1 12) : Met l yX11_bars wsX11_bars ({ frames := 1, cells := 0, slots := 0, locals := 22 } : Room) (va_Pc [.ref h, .int p0, .int p1, .int p2, .int p3] (pM dC dI h a cI cB cZ F M)) (vp_Si (fun r => r = s_X11_bars F M p0 p1 p2 p3)) 0 0 (fun _ => False) := by
  refine Met.ofW (cc := cX11_bars) (maxL := 6) (ret := (some .int)) (by decide) rfl ?_
  intro p e s m args below meth c s₁ B hml hv
  obtain ⟨rfl, hP, hK⟩ := hv
  have hx := B.exec
  have hb := B.bytes
  have hr := B.returns
  have hts := atoms_spec (ws := wsX11_bars) B.pre
  have hown : s.vm.findClass RX11 = some m.cls := findClass_of_methodNamed B.named
  have hlocks := B.notSynchronized
  have hin : ∀ w ∈ wsX110, w ∈ wsX11_bars := by decide +kernel
  have hl := lv_entry ([.ref h, .int p0, .int p1, .int p2, .int p3]) (n := 6) (Nat.le_of_ble_eq_true rfl)
  rw [lg_entry_eq]
  generalize (lg_sl ([.ref h, .int p0, .int p1, .int p2, .int p3]) ++ List.replicate (6 - (lg_sl ([.ref h, .int p0, .int p1, .int p2, .int p3])).length) Slot.unset).toArray = ls at hl ⊢
  have hl : lv_has ls 6 [(0, .ref h), (1, .int p0), (2, .int p1), (3, .int p2), (4, .int p3)] := hl
  refine lv_aload_n hx hb dX11_bars_0 rfl (lv_at hl 0 rfl) ?_
  refine va_get (D := (dC, dI)) (ci := 10) (v := .int (F 3)) (C := RX11) (T := TX11) (N := 49) hx hb hts hin hown hK hP 0 rfl rfl 3 (by decide) (hts (.fieldLink RX11 140 "SocietyBookModel" "today" "I") (by decide +kernel)) (fun _ h9 => h9) rfl dX11_bars_1 ?_
  refine lv_aload_n hx hb dX11_bars_4 rfl (lv_at hl 0 rfl) ?_
  refine va_get (D := (dC, dI)) (ci := 10) (v := .ref (a 33)) (C := RX11) (T := TX11) (N := 49) hx hb hts hin hown hK hP 0 rfl rfl 33 (by decide) (hts (.fieldLink RX11 83 "SocietyBookModel" "hungOn" "[I") (by decide +kernel)) (fun _ h9 => h9) rfl dX11_bars_5 ?_
  refine lv_iload_n hx hb dX11_bars_8 rfl (lv_at hl 1 rfl) ?_
  refine va_iald (f := M 33) hx hb hK hP 25 0 rfl rfl hp dX11_bars_9 ?_
  refine lv_isub hx hb dX11_bars_10 ?_
  refine lv_aload_n hx hb dX11_bars_11 rfl (lv_at hl 0 rfl) ?_
  refine va_get (D := (dC, dI)) (ci := 10) (v := .ref (a 27)) (C := RX11) (T := TX11) (N := 49) hx hb hts hin hown hK hP 0 rfl rfl 27 (by decide) (hts (.fieldLink RX11 68 "SocietyBookModel" "byelawHangs" "[I") (by decide +kernel)) (fun _ h9 => h9) rfl dX11_bars_12 ?_
  refine lv_iload_n hx hb dX11_bars_15 rfl (lv_at hl 2 rfl) ?_
  refine va_iald (f := M 27) hx hb hK hP 20 0 rfl rfl hs dX11_bars_16 ?_
  refine lv_icmp_ge (tgt := 22) hx hb dX11_bars_17 (by decide) (fun c1 => ?_) (fun c1 => ?_)
  · refine lv_aload_n hx hb dX11_bars_22 rfl (lv_at hl 0 rfl) ?_
    refine va_get (D := (dC, dI)) (ci := 10) (v := .ref (a 34)) (C := RX11) (T := TX11) (N := 49) hx hb hts hin hown hK hP 0 rfl rfl 34 (by decide) (hts (.fieldLink RX11 86 "SocietyBookModel" "proposersOf" "[I") (by decide +kernel)) (fun _ h9 => h9) rfl dX11_bars_23 ?_
    refine lv_iload_n hx hb dX11_bars_26 rfl (lv_at hl 1 rfl) ?_
    refine va_iald (f := M 34) hx hb hK hP 26 0 rfl rfl hp dX11_bars_27 ?_
    refine vp_callSi (W.runS (As := [.int ((M 34) p0.toNatClampNeg)]) (rest := []) ⟨hx, hb, hml, hown, hts⟩ (c_X11_bitsOf l ((M 34) p0.toNatClampNeg)) (va_cwS 1 hts gX11_bars_X11_bitsOf rfl rfl rfl (by decide +kernel) ⟨Nat.le_of_ble_eq_true rfl, Nat.le_of_ble_eq_true rfl⟩) ⟨fun _ _ _ _ q => q, fun U hU hW => ⟨rfl, trivial⟩⟩ rfl rfl hl.1 rfl (lv_room (Nat.le_of_ble_eq_true rfl)) dX11_bars_28 ⟨Nat.zero_le _, Nat.zero_le _⟩) (fun r hr9 => ?_)
    subst hr9
    refine lv_aload_n hx hb dX11_bars_31 rfl (lv_at hl 0 rfl) ?_
    refine va_get (D := (dC, dI)) (ci := 10) (v := .ref (a 28)) (C := RX11) (T := TX11) (N := 49) hx hb hts hin hown hK hP 0 rfl rfl 28 (by decide) (hts (.fieldLink RX11 71 "SocietyBookModel" "byelawProposers" "[I") (by decide +kernel)) (fun _ h9 => h9) rfl dX11_bars_32 ?_
    refine lv_iload_n hx hb dX11_bars_35 rfl (lv_at hl 2 rfl) ?_
    refine va_iald (f := M 28) hx hb hK hP 21 0 rfl rfl hs dX11_bars_36 ?_
    refine lv_icmp_ge (tgt := 42) hx hb dX11_bars_37 (by decide) (fun c2 => ?_) (fun c2 => ?_)
    · refine lv_iload hx hb dX11_bars_42 (lv_at hl 4 rfl) ?_
      refine lv_aload_n hx hb dX11_bars_44 rfl (lv_at hl 0 rfl) ?_
      refine va_get (D := (dC, dI)) (ci := 10) (v := .ref (a 29)) (C := RX11) (T := TX11) (N := 49) hx hb hts hin hown hK hP 0 rfl rfl 29 (by decide) (hts (.fieldLink RX11 74 "SocietyBookModel" "byelawBlack" "[I") (by decide +kernel)) (fun _ h9 => h9) rfl dX11_bars_45 ?_
      refine lv_iload_n hx hb dX11_bars_48 rfl (lv_at hl 2 rfl) ?_
      refine va_iald (f := M 29) hx hb hK hP 22 0 rfl rfl hs dX11_bars_49 ?_
      refine lv_icmp_le (tgt := 55) hx hb dX11_bars_50 (by decide) (fun c3 => ?_) (fun c3 => ?_)
      · refine lv_iload_n hx hb dX11_bars_55 rfl (lv_at hl 3 rfl) ?_
        refine lv_iload hx hb dX11_bars_56 (lv_at hl 4 rfl) ?_
        refine lv_iadd hx hb dX11_bars_58 ?_
        refine lv_istore (lv' := [(5, .int (p2 + p3)), (0, .ref h), (1, .int p0), (2, .int p1), (3, .int p2), (4, .int p3)]) hx hb dX11_bars_59 hl (by decide) rfl (fun ls hl => ?_)
        refine lv_iload hx hb dX11_bars_61 (lv_at hl 0 rfl) ?_
        refine lv_if_eq (tgt := 86) hx hb dX11_bars_63 (by decide) (fun c4 => ?_) (fun c4 => ?_)
        · refine lv_iconst (v := 5) hx hb dX11_bars_86 (by decide) ?_
          refine lv_goto (tgt := 91) hx hb dX11_bars_87 (by decide) ?_
          exact W.iret (v := 5) hx hb hr (fun t ht hW => ⟨5, rfl, by unfold s_X11_bars; rw [if_pos c1, if_pos c2, if_pos c3, if_pos c4], ht⟩) (fun _ h => by cases h) dX11_bars_91
        · refine lv_iload_n hx hb dX11_bars_66 rfl (lv_at hl 4 rfl) ?_
          refine lv_aload_n hx hb dX11_bars_67 rfl (lv_at hl 1 rfl) ?_
          refine va_get (D := (dC, dI)) (ci := 10) (v := .ref (a 31)) (C := RX11) (T := TX11) (N := 49) hx hb hts hin hown hK hP 0 rfl rfl 31 (by decide) (hts (.fieldLink RX11 80 "SocietyBookModel" "byelawLow" "[I") (by decide +kernel)) (fun _ h9 => h9) rfl dX11_bars_68 ?_
          refine lv_iload_n hx hb dX11_bars_71 rfl (lv_at hl 3 rfl) ?_
          refine va_iald (f := M 31) hx hb hK hP 24 0 rfl rfl hs dX11_bars_72 ?_
          refine lv_imul hx hb dX11_bars_73 ?_
          refine lv_aload_n hx hb dX11_bars_74 rfl (lv_at hl 1 rfl) ?_
          refine va_get (D := (dC, dI)) (ci := 10) (v := .ref (a 30)) (C := RX11) (T := TX11) (N := 49) hx hb hts hin hown hK hP 0 rfl rfl 30 (by decide) (hts (.fieldLink RX11 77 "SocietyBookModel" "byelawUp" "[I") (by decide +kernel)) (fun _ h9 => h9) rfl dX11_bars_75 ?_
          refine lv_iload_n hx hb dX11_bars_78 rfl (lv_at hl 3 rfl) ?_
          refine va_iald (f := M 30) hx hb hK hP 23 0 rfl rfl hs dX11_bars_79 ?_
          refine lv_iload hx hb dX11_bars_80 (lv_at hl 0 rfl) ?_
          refine lv_imul hx hb dX11_bars_82 ?_
          refine lv_icmp_ge (tgt := 90) hx hb dX11_bars_83 (by decide) (fun c5 => ?_) (fun c5 => ?_)
          · refine lv_iconst (v := 1) hx hb dX11_bars_90 (by decide) ?_
            exact W.iret (v := 1) hx hb hr (fun t ht hW => ⟨1, rfl, by unfold s_X11_bars; rw [if_pos c1, if_pos c2, if_pos c3, if_neg c4, if_pos c5], ht⟩) (fun _ h => by cases h) dX11_bars_91
          · refine lv_iconst (v := 5) hx hb dX11_bars_86 (by decide) ?_
            refine lv_goto (tgt := 91) hx hb dX11_bars_87 (by decide) ?_
            exact W.iret (v := 5) hx hb hr (fun t ht hW => ⟨5, rfl, by unfold s_X11_bars; rw [if_pos c1, if_pos c2, if_pos c3, if_neg c4, if_neg c5], ht⟩) (fun _ h => by cases h) dX11_bars_91
      · refine lv_iconst (v := 4) hx hb dX11_bars_53 (by decide) ?_
        exact W.iret (v := 4) hx hb hr (fun t ht hW => ⟨4, rfl, by unfold s_X11_bars; rw [if_pos c1, if_pos c2, if_neg c3], ht⟩) (fun _ h => by cases h) dX11_bars_54
    · refine lv_iconst (v := 3) hx hb dX11_bars_40 (by decide) ?_
      exact W.iret (v := 3) hx hb hr (fun t ht hW => ⟨3, rfl, by unfold s_X11_bars; rw [if_pos c1, if_neg c2], ht⟩) (fun _ h => by cases h) dX11_bars_41
  · refine lv_iconst (v := 2) hx hb dX11_bars_20 (by decide) ?_
    exact W.iret (v := 2) hx hb hr (fun t ht hW => ⟨2, rfl, by unfold s_X11_bars; rw [if_neg c1], ht⟩) (fun _ h => by cases h) dX11_bars_21

def s_X11_ballot (F : Nat → Int32) (M : Nat → Nat → Int32) (p0 : Int32) (p1 : Int32) (p2 : Int32) : Int32 × ((Nat → Int32) × (Nat → Nat → Int32)) :=
  if 0 ≤ p0 ∧ p0 ≤ ((F 32) - 1) then (if 0 ≤ p1 ∧ p1 ≤ 1000 then (if 0 ≤ p2 ∧ p2 ≤ 1000 then (if (s_X11_inForce26 F M (F 25) (F 3)) = (-9) then ((-4), (F, M)) else
        if (F 4) = 16 then ((-2), (F, M)) else
        if ((M 35) p0.toNatClampNeg) = 0 then (if (s_X11_bars F M p0 (s_X11_inForce26 F M (F 25) (F 3)) p1 p2) = 1 then (s_X11_bars F M p0 (s_X11_inForce26 F M (F 25) (F 3)) p1 p2, (va_up (va_up F 2 (F 4)) 4 ((F 4) + 1), va_up M 35 (upd (M 35) p0.toNatClampNeg (vp_nar .boolean 1)))) else
          (s_X11_bars F M p0 (s_X11_inForce26 F M (F 25) (F 3)) p1 p2, (F, M))) else
        ((s_X11_meets F M 1).1, ((s_X11_meets F M 1).2.1, (s_X11_meets F M 1).2.2))) else
      ((-1), (F, M))) else
    ((-1), (F, M))) else
  ((-1), (F, M))
set_option maxHeartbeats 4000000 in
set_option maxRecDepth 100000 in
theorem c_X11_ballot (l : Launch) (dC : Nat → ClassId) (dI : Nat → Nat → Nat) (h : Nat) (a : Nat → Nat) (cI cB cZ : ClassId) (F : Nat → Int32) (M : Nat → Nat → Int32) (p0 : Int32) (p1 : Int32) (p2 : Int32) (A : Nat → Prop) (hD : va_D A (wM h a cI cB cZ F M)) (hI : iv F M) : Met l yX11_ballot wsX11_ballot ({ frames := 2, cells := 0, slots := 0, locals := 47 } : Room) (va_Pc [.ref h, .int p0, .int p1, .int p2] (pM dC dI h a cI cB cZ F M)) (va_Qi (fun r u => (r, u) = s_X11_ballot F M p0 p1 p2) (qM A dC dI h a cI cB cZ) A) 0 0 A := by
  refine Met.ofW (cc := cX11_ballot) (maxL := 6) (ret := (some .int)) (by decide) rfl ?_
  intro p e s m args below meth c s₁ B hml hv
  obtain ⟨rfl, hP, hK⟩ := hv
  have hx := B.exec
  have hb := B.bytes
  have hr := B.returns
  have hts := atoms_spec (ws := wsX11_ballot) B.pre
  have hown : s.vm.findClass RX11 = some m.cls := findClass_of_methodNamed B.named
  have hlocks := B.notSynchronized
  have hin : ∀ w ∈ wsX110, w ∈ wsX11_ballot := by decide +kernel
  have hS : va_S A s.heap s.heap [] := va_S.rf
  have hl := lv_entry ([.ref h, .int p0, .int p1, .int p2]) (n := 6) (Nat.le_of_ble_eq_true rfl)
  rw [lg_entry_eq]
  generalize (lg_sl ([.ref h, .int p0, .int p1, .int p2]) ++ List.replicate (6 - (lg_sl ([.ref h, .int p0, .int p1, .int p2])).length) Slot.unset).toArray = ls at hl ⊢
  have hl : lv_has ls 6 [(0, .ref h), (1, .int p0), (2, .int p1), (3, .int p2)] := hl
  have hn25 : (F 25).toNatClampNeg ≤ 12 := lb_le (iv_25 hI) (by decide)
  refine lv_iload_n hx hb dX11_ballot_0 rfl (lv_at hl 1 rfl) ?_
  refine lv_iconst (v := 0) hx hb dX11_ballot_1 (by decide) ?_
  refine lv_aload_n hx hb dX11_ballot_2 rfl (lv_at hl 0 rfl) ?_
  refine va_get (D := (dC, dI)) (ci := 10) (v := .int (F 32)) (C := RX11) (T := TX11) (N := 49) hx hb hts hin hown hK hP 0 rfl rfl 32 (by decide) (hts (.fieldLink RX11 199 "SocietyBookModel" "candidates" "I") (by decide +kernel)) (fun _ h9 => h9) rfl dX11_ballot_3 ?_
  refine lv_iconst (v := 1) hx hb dX11_ballot_6 (by decide) ?_
  refine lv_isub hx hb dX11_ballot_7 ?_
  refine vp_callSi (W.runS (As := [.int p0, .int 0, .int ((F 32) - 1)]) (rest := []) ⟨hx, hb, hml, hown, hts⟩ (c_X11_in l p0 0 ((F 32) - 1)) (va_cwS 3 hts gX11_ballot_X11_in rfl rfl rfl (by decide +kernel) ⟨Nat.le_of_ble_eq_true rfl, Nat.le_of_ble_eq_true rfl⟩) ⟨fun _ _ _ _ q => q, fun U hU hW => ⟨rfl, trivial⟩⟩ rfl rfl hl.1 rfl (lv_room (Nat.le_of_ble_eq_true rfl)) dX11_ballot_8 ⟨Nat.zero_le _, Nat.zero_le _⟩) (fun r hr9 => ?_)
  subst hr9
  refine lv_if_eq (tgt := 36) hx hb dX11_ballot_11 (by decide) (fun c1 => ?_) (fun c1 => ?_)
  · replace c1 := bo_f c1
    refine lv_iconst (v := (-1)) hx hb dX11_ballot_36 (by decide) ?_
    exact W.iret (v := (-1)) hx hb hr (fun t ht hW => ⟨⟨(-1), (F, M), rfl, by unfold s_X11_ballot; rw [if_neg c1], ⟨by rw [ht]; exact hP, va_K.moved hW.alike hK⟩, hD⟩, hS.F ht⟩) hS.2.2 dX11_ballot_37
  · replace c1 := bo_t c1
    refine lv_iload_n hx hb dX11_ballot_14 rfl (lv_at hl 2 rfl) ?_
    refine lv_iconst (v := 0) hx hb dX11_ballot_15 (by decide) ?_
    refine lv_sipush (v := 1000) hx hb dX11_ballot_16 (by decide) ?_
    refine vp_callSi (W.runS (As := [.int p1, .int 0, .int 1000]) (rest := []) ⟨hx, hb, hml, hown, hts⟩ (c_X11_in l p1 0 1000) (va_cwS 3 hts gX11_ballot_X11_in rfl rfl rfl (by decide +kernel) ⟨Nat.le_of_ble_eq_true rfl, Nat.le_of_ble_eq_true rfl⟩) ⟨fun _ _ _ _ q => q, fun U hU hW => ⟨rfl, trivial⟩⟩ rfl rfl hl.1 rfl (lv_room (Nat.le_of_ble_eq_true rfl)) dX11_ballot_19 ⟨Nat.zero_le _, Nat.zero_le _⟩) (fun r hr9 => ?_)
    subst hr9
    refine lv_if_eq (tgt := 36) hx hb dX11_ballot_22 (by decide) (fun c2 => ?_) (fun c2 => ?_)
    · replace c2 := bo_f c2
      refine lv_iconst (v := (-1)) hx hb dX11_ballot_36 (by decide) ?_
      exact W.iret (v := (-1)) hx hb hr (fun t ht hW => ⟨⟨(-1), (F, M), rfl, by unfold s_X11_ballot; rw [if_pos c1, if_neg c2], ⟨by rw [ht]; exact hP, va_K.moved hW.alike hK⟩, hD⟩, hS.F ht⟩) hS.2.2 dX11_ballot_37
    · replace c2 := bo_t c2
      refine lv_iload_n hx hb dX11_ballot_25 rfl (lv_at hl 3 rfl) ?_
      refine lv_iconst (v := 0) hx hb dX11_ballot_26 (by decide) ?_
      refine lv_sipush (v := 1000) hx hb dX11_ballot_27 (by decide) ?_
      refine vp_callSi (W.runS (As := [.int p2, .int 0, .int 1000]) (rest := []) ⟨hx, hb, hml, hown, hts⟩ (c_X11_in l p2 0 1000) (va_cwS 3 hts gX11_ballot_X11_in rfl rfl rfl (by decide +kernel) ⟨Nat.le_of_ble_eq_true rfl, Nat.le_of_ble_eq_true rfl⟩) ⟨fun _ _ _ _ q => q, fun U hU hW => ⟨rfl, trivial⟩⟩ rfl rfl hl.1 rfl (lv_room (Nat.le_of_ble_eq_true rfl)) dX11_ballot_30 ⟨Nat.zero_le _, Nat.zero_le _⟩) (fun r hr9 => ?_)
      subst hr9
      refine lv_if_ne (tgt := 38) hx hb dX11_ballot_33 (by decide) (fun c3 => ?_) (fun c3 => ?_)
      · replace c3 := bo_t c3
        refine lv_aload_n hx hb dX11_ballot_38 rfl (lv_at hl 0 rfl) ?_
        refine va_get (D := (dC, dI)) (ci := 10) (v := .ref (a 26)) (C := RX11) (T := TX11) (N := 49) hx hb hts hin hown hK hP 0 rfl rfl 26 (by decide) (hts (.fieldLink RX11 65 "SocietyBookModel" "byelawDay" "[I") (by decide +kernel)) (fun _ h9 => h9) rfl dX11_ballot_39 ?_
        refine lv_aload_n hx hb dX11_ballot_42 rfl (lv_at hl 0 rfl) ?_
        refine va_get (D := (dC, dI)) (ci := 10) (v := .int (F 25)) (C := RX11) (T := TX11) (N := 49) hx hb hts hin hown hK hP 0 rfl rfl 25 (by decide) (hts (.fieldLink RX11 196 "SocietyBookModel" "byelaws" "I") (by decide +kernel)) (fun _ h9 => h9) rfl dX11_ballot_43 ?_
        refine lv_aload_n hx hb dX11_ballot_46 rfl (lv_at hl 0 rfl) ?_
        refine va_get (D := (dC, dI)) (ci := 10) (v := .int (F 3)) (C := RX11) (T := TX11) (N := 49) hx hb hts hin hown hK hP 0 rfl rfl 3 (by decide) (hts (.fieldLink RX11 140 "SocietyBookModel" "today" "I") (by decide +kernel)) (fun _ h9 => h9) rfl dX11_ballot_47 ?_
        refine vp_callSi (W.runS (As := [.ref (a 26), .int (F 25), .int (F 3)]) (rest := []) ⟨hx, hb, hml, hown, hts⟩ (c_X11_inForce26 l dC dI h a cI cB cZ F M (F 25) (F 3) (iv_25 hI)) (va_cwS 3 hts gX11_ballot_X11_inForce rfl rfl rfl (by decide +kernel) ⟨Nat.le_of_ble_eq_true rfl, Nat.le_of_ble_eq_true rfl⟩) ⟨pm_blind, fun U hU hW => ⟨rfl, by rw [hU]; exact hP, va_K.moved hW.alike hK⟩⟩ rfl rfl hl.1 rfl (lv_room (Nat.le_of_ble_eq_true rfl)) dX11_ballot_50 ⟨Nat.zero_le _, Nat.zero_le _⟩) (fun r hr9 => ?_)
        subst hr9
        refine lv_istore (lv' := [(4, .int (s_X11_inForce26 F M (F 25) (F 3))), (0, .ref h), (1, .int p0), (2, .int p1), (3, .int p2)]) hx hb dX11_ballot_53 hl (by decide) rfl (fun ls hl => ?_)
        refine lv_iload hx hb dX11_ballot_55 (lv_at hl 0 rfl) ?_
        refine lv_bipush (v := (-9)) hx hb dX11_ballot_57 (by decide) ?_
        refine lv_icmp_ne (tgt := 65) hx hb dX11_ballot_59 (by decide) (fun c4 => ?_) (fun c4 => ?_)
        · refine lv_aload_n hx hb dX11_ballot_65 rfl (lv_at hl 1 rfl) ?_
          refine va_get (D := (dC, dI)) (ci := 10) (v := .int (F 4)) (C := RX11) (T := TX11) (N := 49) hx hb hts hin hown hK hP 0 rfl rfl 4 (by decide) (hts (.fieldLink RX11 143 "SocietyBookModel" "fellows" "I") (by decide +kernel)) (fun _ h9 => h9) rfl dX11_ballot_66 ?_
          refine lv_bipush (v := 16) hx hb dX11_ballot_69 (by decide) ?_
          refine lv_icmp_ne (tgt := 77) hx hb dX11_ballot_71 (by decide) (fun c5 => ?_) (fun c5 => ?_)
          · refine lv_aload_n hx hb dX11_ballot_77 rfl (lv_at hl 1 rfl) ?_
            refine va_get (D := (dC, dI)) (ci := 10) (v := .ref (a 35)) (C := RX11) (T := TX11) (N := 49) hx hb hts hin hown hK hP 0 rfl rfl 35 (by decide) (hts (.fieldLink RX11 89 "SocietyBookModel" "isGone" "[Z") (by decide +kernel)) (fun _ h9 => h9) rfl dX11_ballot_78 ?_
            refine lv_iload_n hx hb dX11_ballot_81 rfl (lv_at hl 2 rfl) ?_
            refine va_zald (f := M 35) hx hb hK hP 27 2 rfl rfl (ib_cn c1 (iv_32 hI) (by decide)) dX11_ballot_82 ?_
            refine lv_if_eq (tgt := 92) hx hb dX11_ballot_83 (by decide) (fun c6 => ?_) (fun c6 => ?_)
            · refine lv_aload_n hx hb dX11_ballot_92 rfl (lv_at hl 1 rfl) ?_
              refine lv_iload_n hx hb dX11_ballot_93 rfl (lv_at hl 2 rfl) ?_
              refine lv_iload hx hb dX11_ballot_94 (lv_at hl 0 rfl) ?_
              refine lv_iload_n hx hb dX11_ballot_96 rfl (lv_at hl 3 rfl) ?_
              refine lv_iload_n hx hb dX11_ballot_97 rfl (lv_at hl 4 rfl) ?_
              refine vp_callSi (W.runV (As := [.int p0, .int (s_X11_inForce26 F M (F 25) (F 3)), .int p1, .int p2]) (rest := []) ⟨hx, hb, hml, hown, hts⟩ (c_X11_bars l dC dI h a cI cB cZ F M p0 (s_X11_inForce26 F M (F 25) (F 3)) p1 p2 hI (ib_cn c1 (iv_32 hI) (by decide)) (ib_inF (l_inForce26 F M (F 25) (F 3) (F 25).toNatClampNeg (by omega)) c4 ⟨by omega, by decide⟩)) (cwV 4 hts gX11_ballot_X11_bars rfl rfl rfl (by decide +kernel) ⟨Nat.le_of_ble_eq_true rfl, Nat.le_of_ble_eq_true rfl⟩) ⟨pm_blind, va_recv hK hP (ci := 10) (q0 := 0) rfl rfl, fun U hU hW => ⟨rfl, by rw [hU]; exact hP, va_K.moved hW.alike hK⟩⟩ rfl rfl hl.1 rfl (lv_room (Nat.le_of_ble_eq_true rfl)) dX11_ballot_98 ⟨Nat.zero_le _, Nat.zero_le _⟩) (fun r hr9 => ?_)
              subst hr9
              refine lv_istore (lv' := [(5, .int (s_X11_bars F M p0 (s_X11_inForce26 F M (F 25) (F 3)) p1 p2)), (4, .int (s_X11_inForce26 F M (F 25) (F 3))), (0, .ref h), (1, .int p0), (2, .int p1), (3, .int p2)]) hx hb dX11_ballot_101 hl (by decide) rfl (fun ls hl => ?_)
              refine lv_iload hx hb dX11_ballot_103 (lv_at hl 0 rfl) ?_
              refine lv_iconst (v := 1) hx hb dX11_ballot_105 (by decide) ?_
              refine lv_icmp_ne (tgt := 134) hx hb dX11_ballot_106 (by decide) (fun c7 => ?_) (fun c7 => ?_)
              · refine lv_iload hx hb dX11_ballot_134 (lv_at hl 0 rfl) ?_
                exact W.iret (v := s_X11_bars F M p0 (s_X11_inForce26 F M (F 25) (F 3)) p1 p2) hx hb hr (fun t ht hW => ⟨⟨s_X11_bars F M p0 (s_X11_inForce26 F M (F 25) (F 3)) p1 p2, (F, M), rfl, by unfold s_X11_ballot; rw [if_pos c1, if_pos c2, if_pos c3, if_neg c4, if_neg c5, if_pos c6, if_neg c7], ⟨by rw [ht]; exact hP, va_K.moved hW.alike hK⟩, hD⟩, hS.F ht⟩) hS.2.2 dX11_ballot_136
              · refine lv_aload_n hx hb dX11_ballot_109 rfl (lv_at hl 2 rfl) ?_
                refine va_get (D := (dC, dI)) (ci := 10) (v := .ref (a 35)) (C := RX11) (T := TX11) (N := 49) hx hb hts hin hown hK hP 0 rfl rfl 35 (by decide) (hts (.fieldLink RX11 89 "SocietyBookModel" "isGone" "[Z") (by decide +kernel)) (fun _ h9 => h9) rfl dX11_ballot_110 ?_
                refine lv_iload_n hx hb dX11_ballot_113 rfl (lv_at hl 3 rfl) ?_
                refine lv_iconst (v := 1) hx hb dX11_ballot_114 (by decide) ?_
                refine va_zast (f := M 35) hx hb hK hP hD hS 27 2 rfl rfl (ib_cn c1 (iv_32 hI) (by decide)) dX11_ballot_115 (fun H locs hP hD hS => ?_)
                replace hP : va_P (dC, dI) vwCl (wM h a cI cB cZ F (va_up M 35 (upd (M 35) p0.toNatClampNeg (vp_nar .boolean 1)))) H := hP
                replace hD : va_D A (wM h a cI cB cZ F (va_up M 35 (upd (M 35) p0.toNatClampNeg (vp_nar .boolean 1)))) := hD
                refine lv_aload_n hx hb dX11_ballot_116 rfl (lv_at hl 2 rfl) ?_
                refine lv_aload_n hx hb dX11_ballot_117 rfl (lv_at hl 2 rfl) ?_
                refine va_get (D := (dC, dI)) (ci := 10) (v := .int (F 4)) (C := RX11) (T := TX11) (N := 49) hx hb hts hin hown hK hP 0 rfl rfl 4 (by decide) (hts (.fieldLink RX11 143 "SocietyBookModel" "fellows" "I") (by decide +kernel)) (fun _ h9 => h9) rfl dX11_ballot_118 ?_
                refine va_put (D := (dC, dI)) (ci := 10) (v := .int (F 4)) (ty := .int) (C := RX11) (T := TX11) (N := 49) hx hb hts hin tyX11 tyX11_ok nmX11 hown hK hP hD hS 0 rfl rfl 2 (by decide) (hts (.fieldLink RX11 137 "SocietyBookModel" "asked" "I") (by decide +kernel)) (fun _ h9 => h9) rfl (by decide +kernel) rfl rfl (Nat.le_of_ble_eq_true rfl) dX11_ballot_121 (fun H locs hP hD hS => ?_)
                replace hP : va_P (dC, dI) vwCl (wM h a cI cB cZ (va_up F 2 (F 4)) (va_up M 35 (upd (M 35) p0.toNatClampNeg (vp_nar .boolean 1)))) H := hP
                replace hD : va_D A (wM h a cI cB cZ (va_up F 2 (F 4)) (va_up M 35 (upd (M 35) p0.toNatClampNeg (vp_nar .boolean 1)))) := hD
                refine lv_aload_n hx hb dX11_ballot_124 rfl (lv_at hl 2 rfl) ?_
                refine lv_dup hx hb dX11_ballot_125 rfl ?_
                refine va_get (D := (dC, dI)) (ci := 10) (v := .int (F 4)) (C := RX11) (T := TX11) (N := 49) hx hb hts hin hown hK hP 0 rfl rfl 4 (by decide) (hts (.fieldLink RX11 143 "SocietyBookModel" "fellows" "I") (by decide +kernel)) (fun _ h9 => h9) rfl dX11_ballot_126 ?_
                refine lv_iconst (v := 1) hx hb dX11_ballot_129 (by decide) ?_
                refine lv_iadd hx hb dX11_ballot_130 ?_
                refine va_put (D := (dC, dI)) (ci := 10) (v := .int ((F 4) + 1)) (ty := .int) (C := RX11) (T := TX11) (N := 49) hx hb hts hin tyX11 tyX11_ok nmX11 hown hK hP hD hS 0 rfl rfl 4 (by decide) (hts (.fieldLink RX11 143 "SocietyBookModel" "fellows" "I") (by decide +kernel)) (fun _ h9 => h9) rfl (by decide +kernel) rfl rfl (Nat.le_of_ble_eq_true rfl) dX11_ballot_131 (fun H locs hP hD hS => ?_)
                replace hP : va_P (dC, dI) vwCl (wM h a cI cB cZ (va_up (va_up F 2 (F 4)) 4 ((F 4) + 1)) (va_up M 35 (upd (M 35) p0.toNatClampNeg (vp_nar .boolean 1)))) H := hP
                replace hD : va_D A (wM h a cI cB cZ (va_up (va_up F 2 (F 4)) 4 ((F 4) + 1)) (va_up M 35 (upd (M 35) p0.toNatClampNeg (vp_nar .boolean 1)))) := hD
                refine lv_iload hx hb dX11_ballot_134 (lv_at hl 0 rfl) ?_
                exact W.iret (v := s_X11_bars F M p0 (s_X11_inForce26 F M (F 25) (F 3)) p1 p2) hx hb hr (fun t ht hW => ⟨⟨s_X11_bars F M p0 (s_X11_inForce26 F M (F 25) (F 3)) p1 p2, (va_up (va_up F 2 (F 4)) 4 ((F 4) + 1), va_up M 35 (upd (M 35) p0.toNatClampNeg (vp_nar .boolean 1))), rfl, by unfold s_X11_ballot; rw [if_pos c1, if_pos c2, if_pos c3, if_neg c4, if_neg c5, if_pos c6, if_pos c7], ⟨by rw [ht]; exact hP, va_K.moved hW.alike hK⟩, hD⟩, hS.F ht⟩) hS.2.2 dX11_ballot_136
            · refine lv_aload_n hx hb dX11_ballot_86 rfl (lv_at hl 1 rfl) ?_
              refine lv_iconst (v := 1) hx hb dX11_ballot_87 (by decide) ?_
              refine va_calli (va_runV (As := [.int 1]) (rest := []) ⟨hx, hb, hml, hown, hts⟩ (c_X11_meets l dC dI h a cI cB cZ F M 1 A hD (ib_lit (by decide))) (cwV 1 hts gX11_ballot_X11_meets rfl rfl rfl (by decide +kernel) ⟨Nat.le_of_ble_eq_true rfl, Nat.le_of_ble_eq_true rfl⟩) ⟨pm_blind, va_recv hK hP (ci := 10) (q0 := 0) rfl rfl, fun U hU hW => ⟨rfl, by rw [hU]; exact hP, va_K.moved hW.alike hK⟩⟩ rfl rfl hl.1 rfl (lv_room (Nat.le_of_ble_eq_true rfl)) dX11_ballot_88 ⟨Nat.zero_le _, Nat.zero_le _⟩) hS (fun q _ h => h) (fun q h => h) (fun r u t H1 locs ht hvm hw hB hz1 hk1 hS => ?_)
              obtain ⟨hr9, hu9⟩ : r = (s_X11_meets F M 1).1 ∧ u = (s_X11_meets F M 1).2 := ⟨congrArg Prod.fst hw, congrArg Prod.snd hw⟩
              subst hr9; subst hu9
              obtain ⟨⟨hP, -⟩, hD⟩ := hB
              rw [ht] at hP
              clear hw hz1 hk1 ht hvm; generalize H1 = H at hP hS ⊢
              exact W.iret (v := (s_X11_meets F M 1).1) hx hb hr (fun t ht hW => ⟨⟨(s_X11_meets F M 1).1, ((s_X11_meets F M 1).2.1, (s_X11_meets F M 1).2.2), rfl, by unfold s_X11_ballot; rw [if_pos c1, if_pos c2, if_pos c3, if_neg c4, if_neg c5, if_neg c6], ⟨by rw [ht]; exact hP, va_K.moved hW.alike hK⟩, hD⟩, hS.F ht⟩) hS.2.2 dX11_ballot_91
          · refine lv_bipush (v := (-2)) hx hb dX11_ballot_74 (by decide) ?_
            exact W.iret (v := (-2)) hx hb hr (fun t ht hW => ⟨⟨(-2), (F, M), rfl, by unfold s_X11_ballot; rw [if_pos c1, if_pos c2, if_pos c3, if_neg c4, if_pos c5], ⟨by rw [ht]; exact hP, va_K.moved hW.alike hK⟩, hD⟩, hS.F ht⟩) hS.2.2 dX11_ballot_76
        · refine lv_bipush (v := (-4)) hx hb dX11_ballot_62 (by decide) ?_
          exact W.iret (v := (-4)) hx hb hr (fun t ht hW => ⟨⟨(-4), (F, M), rfl, by unfold s_X11_ballot; rw [if_pos c1, if_pos c2, if_pos c3, if_pos c4], ⟨by rw [ht]; exact hP, va_K.moved hW.alike hK⟩, hD⟩, hS.F ht⟩) hS.2.2 dX11_ballot_64
      · replace c3 := bo_f c3
        refine lv_iconst (v := (-1)) hx hb dX11_ballot_36 (by decide) ?_
        exact W.iret (v := (-1)) hx hb hr (fun t ht hW => ⟨⟨(-1), (F, M), rfl, by unfold s_X11_ballot; rw [if_pos c1, if_pos c2, if_neg c3], ⟨by rw [ht]; exact hP, va_K.moved hW.alike hK⟩, hD⟩, hS.F ht⟩) hS.2.2 dX11_ballot_37

def s_X11_medal (F : Nat → Int32) (M : Nat → Nat → Int32) (p0 : Int32) (p1 : Int32) (p2 : Int32) : Int32 × ((Nat → Int32) × (Nat → Nat → Int32)) :=
  if 0 ≤ p0 ∧ p0 ≤ 3 then (if 0 ≤ p1 ∧ p1 ≤ 30000 then (if 0 ≤ p2 ∧ p2 ≤ 30000 then (1, (F, va_up (va_up M 36 (upd (M 36) p0.toNatClampNeg p1)) 37 (upd (M 37) p0.toNatClampNeg p2))) else
      ((-1), (F, M))) else
    ((-1), (F, M))) else
  ((-1), (F, M))
set_option maxHeartbeats 4000000 in
set_option maxRecDepth 100000 in
theorem c_X11_medal (l : Launch) (dC : Nat → ClassId) (dI : Nat → Nat → Nat) (h : Nat) (a : Nat → Nat) (cI cB cZ : ClassId) (F : Nat → Int32) (M : Nat → Nat → Int32) (p0 : Int32) (p1 : Int32) (p2 : Int32) (A : Nat → Prop) (hD : va_D A (wM h a cI cB cZ F M)) : Met l yX11_medal wsX11_medal ({ frames := 2, cells := 0, slots := 0, locals := 42 } : Room) (va_Pc [.ref h, .int p0, .int p1, .int p2] (pM dC dI h a cI cB cZ F M)) (va_Qi (fun r u => (r, u) = s_X11_medal F M p0 p1 p2) (qM A dC dI h a cI cB cZ) A) 0 0 A := by
  refine Met.ofW (cc := cX11_medal) (maxL := 4) (ret := (some .int)) (by decide) rfl ?_
  intro p e s m args below meth c s₁ B hml hv
  obtain ⟨rfl, hP, hK⟩ := hv
  have hx := B.exec
  have hb := B.bytes
  have hr := B.returns
  have hts := atoms_spec (ws := wsX11_medal) B.pre
  have hown : s.vm.findClass RX11 = some m.cls := findClass_of_methodNamed B.named
  have hlocks := B.notSynchronized
  have hin : ∀ w ∈ wsX110, w ∈ wsX11_medal := by decide +kernel
  have hS : va_S A s.heap s.heap [] := va_S.rf
  have hl := lv_entry ([.ref h, .int p0, .int p1, .int p2]) (n := 4) (Nat.le_of_ble_eq_true rfl)
  rw [lg_entry_eq]
  generalize (lg_sl ([.ref h, .int p0, .int p1, .int p2]) ++ List.replicate (4 - (lg_sl ([.ref h, .int p0, .int p1, .int p2])).length) Slot.unset).toArray = ls at hl ⊢
  have hl : lv_has ls 4 [(0, .ref h), (1, .int p0), (2, .int p1), (3, .int p2)] := hl
  refine lv_iload_n hx hb dX11_medal_0 rfl (lv_at hl 1 rfl) ?_
  refine lv_iconst (v := 0) hx hb dX11_medal_1 (by decide) ?_
  refine lv_iconst (v := 3) hx hb dX11_medal_2 (by decide) ?_
  refine vp_callSi (W.runS (As := [.int p0, .int 0, .int 3]) (rest := []) ⟨hx, hb, hml, hown, hts⟩ (c_X11_in l p0 0 3) (va_cwS 3 hts gX11_medal_X11_in rfl rfl rfl (by decide +kernel) ⟨Nat.le_of_ble_eq_true rfl, Nat.le_of_ble_eq_true rfl⟩) ⟨fun _ _ _ _ q => q, fun U hU hW => ⟨rfl, trivial⟩⟩ rfl rfl hl.1 rfl (lv_room (Nat.le_of_ble_eq_true rfl)) dX11_medal_3 ⟨Nat.zero_le _, Nat.zero_le _⟩) (fun r hr9 => ?_)
  subst hr9
  refine lv_if_eq (tgt := 23) hx hb dX11_medal_6 (by decide) (fun c1 => ?_) (fun c1 => ?_)
  · replace c1 := bo_f c1
    refine lv_iconst (v := (-1)) hx hb dX11_medal_23 (by decide) ?_
    exact W.iret (v := (-1)) hx hb hr (fun t ht hW => ⟨⟨(-1), (F, M), rfl, by unfold s_X11_medal; rw [if_neg c1], ⟨by rw [ht]; exact hP, va_K.moved hW.alike hK⟩, hD⟩, hS.F ht⟩) hS.2.2 dX11_medal_24
  · replace c1 := bo_t c1
    refine lv_iload_n hx hb dX11_medal_9 rfl (lv_at hl 2 rfl) ?_
    refine vp_callSi (W.runS (As := [.int p1]) (rest := []) ⟨hx, hb, hml, hown, hts⟩ (c_X11_isDay l p1) (va_cwS 1 hts gX11_medal_X11_isDay rfl rfl rfl (by decide +kernel) ⟨Nat.le_of_ble_eq_true rfl, Nat.le_of_ble_eq_true rfl⟩) ⟨fun _ _ _ _ q => q, fun U hU hW => ⟨rfl, trivial⟩⟩ rfl rfl hl.1 rfl (lv_room (Nat.le_of_ble_eq_true rfl)) dX11_medal_10 ⟨Nat.zero_le _, Nat.zero_le _⟩) (fun r hr9 => ?_)
    subst hr9
    refine lv_if_eq (tgt := 23) hx hb dX11_medal_13 (by decide) (fun c2 => ?_) (fun c2 => ?_)
    · replace c2 := bo_f c2
      refine lv_iconst (v := (-1)) hx hb dX11_medal_23 (by decide) ?_
      exact W.iret (v := (-1)) hx hb hr (fun t ht hW => ⟨⟨(-1), (F, M), rfl, by unfold s_X11_medal; rw [if_pos c1, if_neg c2], ⟨by rw [ht]; exact hP, va_K.moved hW.alike hK⟩, hD⟩, hS.F ht⟩) hS.2.2 dX11_medal_24
    · replace c2 := bo_t c2
      refine lv_iload_n hx hb dX11_medal_16 rfl (lv_at hl 3 rfl) ?_
      refine vp_callSi (W.runS (As := [.int p2]) (rest := []) ⟨hx, hb, hml, hown, hts⟩ (c_X11_isDay l p2) (va_cwS 1 hts gX11_medal_X11_isDay rfl rfl rfl (by decide +kernel) ⟨Nat.le_of_ble_eq_true rfl, Nat.le_of_ble_eq_true rfl⟩) ⟨fun _ _ _ _ q => q, fun U hU hW => ⟨rfl, trivial⟩⟩ rfl rfl hl.1 rfl (lv_room (Nat.le_of_ble_eq_true rfl)) dX11_medal_17 ⟨Nat.zero_le _, Nat.zero_le _⟩) (fun r hr9 => ?_)
      subst hr9
      refine lv_if_ne (tgt := 25) hx hb dX11_medal_20 (by decide) (fun c3 => ?_) (fun c3 => ?_)
      · replace c3 := bo_t c3
        refine lv_aload_n hx hb dX11_medal_25 rfl (lv_at hl 0 rfl) ?_
        refine va_get (D := (dC, dI)) (ci := 10) (v := .ref (a 36)) (C := RX11) (T := TX11) (N := 49) hx hb hts hin hown hK hP 0 rfl rfl 36 (by decide) (hts (.fieldLink RX11 92 "SocietyBookModel" "gap" "[I") (by decide +kernel)) (fun _ h9 => h9) rfl dX11_medal_26 ?_
        refine lv_iload_n hx hb dX11_medal_29 rfl (lv_at hl 1 rfl) ?_
        refine lv_iload_n hx hb dX11_medal_30 rfl (lv_at hl 2 rfl) ?_
        refine va_iast (f := M 36) hx hb hK hP hD hS 28 0 rfl rfl (ib_in c1 (by decide)) dX11_medal_31 (fun H locs hP hD hS => ?_)
        replace hP : va_P (dC, dI) vwCl (wM h a cI cB cZ F (va_up M 36 (upd (M 36) p0.toNatClampNeg p1))) H := hP
        replace hD : va_D A (wM h a cI cB cZ F (va_up M 36 (upd (M 36) p0.toNatClampNeg p1))) := hD
        refine lv_aload_n hx hb dX11_medal_32 rfl (lv_at hl 0 rfl) ?_
        refine va_get (D := (dC, dI)) (ci := 10) (v := .ref (a 37)) (C := RX11) (T := TX11) (N := 49) hx hb hts hin hown hK hP 0 rfl rfl 37 (by decide) (hts (.fieldLink RX11 95 "SocietyBookModel" "within" "[I") (by decide +kernel)) (fun _ h9 => h9) rfl dX11_medal_33 ?_
        refine lv_iload_n hx hb dX11_medal_36 rfl (lv_at hl 1 rfl) ?_
        refine lv_iload_n hx hb dX11_medal_37 rfl (lv_at hl 3 rfl) ?_
        refine va_iast (f := M 37) hx hb hK hP hD hS 29 0 rfl rfl (ib_in c1 (by decide)) dX11_medal_38 (fun H locs hP hD hS => ?_)
        replace hP : va_P (dC, dI) vwCl (wM h a cI cB cZ F (va_up (va_up M 36 (upd (M 36) p0.toNatClampNeg p1)) 37 (upd (M 37) p0.toNatClampNeg p2))) H := hP
        replace hD : va_D A (wM h a cI cB cZ F (va_up (va_up M 36 (upd (M 36) p0.toNatClampNeg p1)) 37 (upd (M 37) p0.toNatClampNeg p2))) := hD
        refine lv_iconst (v := 1) hx hb dX11_medal_39 (by decide) ?_
        exact W.iret (v := 1) hx hb hr (fun t ht hW => ⟨⟨1, (F, va_up (va_up M 36 (upd (M 36) p0.toNatClampNeg p1)) 37 (upd (M 37) p0.toNatClampNeg p2)), rfl, by unfold s_X11_medal; rw [if_pos c1, if_pos c2, if_pos c3], ⟨by rw [ht]; exact hP, va_K.moved hW.alike hK⟩, hD⟩, hS.F ht⟩) hS.2.2 dX11_medal_40
      · replace c3 := bo_f c3
        refine lv_iconst (v := (-1)) hx hb dX11_medal_23 (by decide) ?_
        exact W.iret (v := (-1)) hx hb hr (fun t ht hW => ⟨⟨(-1), (F, M), rfl, by unfold s_X11_medal; rw [if_pos c1, if_pos c2, if_neg c3], ⟨by rw [ht]; exact hP, va_K.moved hW.alike hK⟩, hD⟩, hS.F ht⟩) hS.2.2 dX11_medal_24
