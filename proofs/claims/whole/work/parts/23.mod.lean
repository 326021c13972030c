def s_X11_whenOf (F : Nat → Int32) (M : Nat → Nat → Int32) (p0 : Int32) (p1 : Int32) (p2 : Int32) (p3 : Int32) : Int32 :=
  if ((M 24) p1.toNatClampNeg) = 0 then (if (s_X11_lastOf F M p0 ((M 23) p1.toNatClampNeg) p2) = (-9) then (if ((M 23) p1.toNatClampNeg) = 0 then (if ((M 8) p0.toNatClampNeg) = 2 then (if p2 < ((M 11) p0.toNatClampNeg) then (-9) else
          if p3 = 0 then (M 13) p0.toNatClampNeg else
          (M 14) p0.toNatClampNeg) else
        (-9)) else
      (-9)) else
    s_X11_lastOf F M p0 ((M 23) p1.toNatClampNeg) p2) else
  if ((M 8) p0.toNatClampNeg) = 1 then (if ((M 15) p0.toNatClampNeg) = (-9) then (if (s_X11_lastOf F M p0 ((M 23) p1.toNatClampNeg) p2) = (-9) then (if ((M 23) p1.toNatClampNeg) = 0 then (if ((M 8) p0.toNatClampNeg) = 2 then (if p2 < ((M 11) p0.toNatClampNeg) then (-9) else
            if p3 = 0 then (M 13) p0.toNatClampNeg else
            (M 14) p0.toNatClampNeg) else
          (-9)) else
        (-9)) else
      s_X11_lastOf F M p0 ((M 23) p1.toNatClampNeg) p2) else
    if p2 < ((M 15) p0.toNatClampNeg) then (if (s_X11_lastOf F M p0 ((M 23) p1.toNatClampNeg) p2) = (-9) then (if ((M 23) p1.toNatClampNeg) = 0 then (if ((M 8) p0.toNatClampNeg) = 2 then (if p2 < ((M 11) p0.toNatClampNeg) then (-9) else
            if p3 = 0 then (M 13) p0.toNatClampNeg else
            (M 14) p0.toNatClampNeg) else
          (-9)) else
        (-9)) else
      s_X11_lastOf F M p0 ((M 23) p1.toNatClampNeg) p2) else
    (M 11) p0.toNatClampNeg) else
  if (s_X11_lastOf F M p0 ((M 23) p1.toNatClampNeg) p2) = (-9) then (if ((M 23) p1.toNatClampNeg) = 0 then (if ((M 8) p0.toNatClampNeg) = 2 then (if p2 < ((M 11) p0.toNatClampNeg) then (-9) else
        if p3 = 0 then (M 13) p0.toNatClampNeg else
        (M 14) p0.toNatClampNeg) else
      (-9)) else
    (-9)) else
  s_X11_lastOf F M p0 ((M 23) p1.toNatClampNeg) p2
set_option maxHeartbeats 4000000 in
set_option maxRecDepth 100000 in
theorem c_X11_whenOf (l : Launch) (dC : Nat → ClassId) (dI : Nat → Nat → Nat) (h : Nat) (a : Nat → Nat) (cI cB cZ : ClassId) (F : Nat → Int32) (M : Nat → Nat → Int32) (p0 : Int32) (p1 : Int32) (p2 : Int32) (p3 : Int32) (hI : iv F M) (hp : vp_in p0 24) (hs : vp_in p1 12) : Met l yX11_whenOf wsX11_whenOf ({ frames := 1, cells := 0, slots := 0, locals := 25 } : Room) (va_Pc [.ref h, .int p0, .int p1, .int p2, .int p3] (pM dC dI h a cI cB cZ F M)) (vp_Si (fun r => r = s_X11_whenOf F M p0 p1 p2 p3)) 0 0 (fun _ => False) := by
  refine Met.ofW (cc := cX11_whenOf) (maxL := 6) (ret := (some .int)) (by decide) rfl ?_
  intro p e s m args below meth c s₁ B hml hv
  obtain ⟨rfl, hP, hK⟩ := hv
  have hx := B.exec
  have hb := B.bytes
  have hr := B.returns
  have hts := atoms_spec (ws := wsX11_whenOf) B.pre
  have hown : s.vm.findClass RX11 = some m.cls := findClass_of_methodNamed B.named
  have hlocks := B.notSynchronized
  have hin : ∀ w ∈ wsX110, w ∈ wsX11_whenOf := by decide +kernel
  have hl := lv_entry ([.ref h, .int p0, .int p1, .int p2, .int p3]) (n := 6) (Nat.le_of_ble_eq_true rfl)
  rw [lg_entry_eq]
  generalize (lg_sl ([.ref h, .int p0, .int p1, .int p2, .int p3]) ++ List.replicate (6 - (lg_sl ([.ref h, .int p0, .int p1, .int p2, .int p3])).length) Slot.unset).toArray = ls at hl ⊢
  have hl : lv_has ls 6 [(0, .ref h), (1, .int p0), (2, .int p1), (3, .int p2), (4, .int p3)] := hl
  refine lv_aload_n hx hb dX11_whenOf_0 rfl (lv_at hl 0 rfl) ?_
  refine va_get (D := (dC, dI)) (ci := 10) (v := .ref (a 24)) (C := RX11) (T := TX11) (N := 49) hx hb hts hin hown hK hP 0 rfl rfl 24 (by decide) (hts (.fieldLink RX11 61 "SocietyBookModel" "statuteSealed" "[Z") (by decide +kernel)) (fun _ h9 => h9) rfl dX11_whenOf_1 ?_
  refine lv_iload_n hx hb dX11_whenOf_4 rfl (lv_at hl 2 rfl) ?_
  refine va_zald (f := M 24) hx hb hK hP 18 2 rfl rfl hs dX11_whenOf_5 ?_
  refine lv_if_eq (tgt := 47) hx hb dX11_whenOf_6 (by decide) (fun c1 => ?_) (fun c1 => ?_)
  · refine lv_aload_n hx hb dX11_whenOf_47 rfl (lv_at hl 0 rfl) ?_
    refine lv_iload_n hx hb dX11_whenOf_48 rfl (lv_at hl 1 rfl) ?_
    refine lv_aload_n hx hb dX11_whenOf_49 rfl (lv_at hl 0 rfl) ?_
    refine va_get (D := (dC, dI)) (ci := 10) (v := .ref (a 23)) (C := RX11) (T := TX11) (N := 49) hx hb hts hin hown hK hP 0 rfl rfl 23 (by decide) (hts (.fieldLink RX11 58 "SocietyBookModel" "statuteWhat" "[I") (by decide +kernel)) (fun _ h9 => h9) rfl dX11_whenOf_50 ?_
    refine lv_iload_n hx hb dX11_whenOf_53 rfl (lv_at hl 2 rfl) ?_
    refine va_iald (f := M 23) hx hb hK hP 17 0 rfl rfl hs dX11_whenOf_54 ?_
    refine lv_iload_n hx hb dX11_whenOf_55 rfl (lv_at hl 3 rfl) ?_
    refine vp_callSi (W.runV (As := [.int p0, .int ((M 23) p1.toNatClampNeg), .int p2]) (rest := []) ⟨hx, hb, hml, hown, hts⟩ (c_X11_lastOf l dC dI h a cI cB cZ F M p0 ((M 23) p1.toNatClampNeg) p2 hI) (cwV 3 hts gX11_whenOf_X11_lastOf rfl rfl rfl (by decide +kernel) ⟨Nat.le_of_ble_eq_true rfl, Nat.le_of_ble_eq_true rfl⟩) ⟨pm_blind, va_recv hK hP (ci := 10) (q0 := 0) rfl rfl, fun U hU hW => ⟨rfl, by rw [hU]; exact hP, va_K.moved hW.alike hK⟩⟩ rfl rfl hl.1 rfl (lv_room (Nat.le_of_ble_eq_true rfl)) dX11_whenOf_56 ⟨Nat.zero_le _, Nat.zero_le _⟩) (fun r hr9 => ?_)
    subst hr9
    refine lv_istore (lv' := [(5, .int (s_X11_lastOf F M p0 ((M 23) p1.toNatClampNeg) p2)), (0, .ref h), (1, .int p0), (2, .int p1), (3, .int p2), (4, .int p3)]) hx hb dX11_whenOf_59 hl (by decide) rfl (fun ls hl => ?_)
    refine lv_iload hx hb dX11_whenOf_61 (lv_at hl 0 rfl) ?_
    refine lv_bipush (v := (-9)) hx hb dX11_whenOf_63 (by decide) ?_
    refine lv_icmp_eq (tgt := 71) hx hb dX11_whenOf_65 (by decide) (fun c2 => ?_) (fun c2 => ?_)
    · refine lv_aload_n hx hb dX11_whenOf_71 rfl (lv_at hl 1 rfl) ?_
      refine va_get (D := (dC, dI)) (ci := 10) (v := .ref (a 23)) (C := RX11) (T := TX11) (N := 49) hx hb hts hin hown hK hP 0 rfl rfl 23 (by decide) (hts (.fieldLink RX11 58 "SocietyBookModel" "statuteWhat" "[I") (by decide +kernel)) (fun _ h9 => h9) rfl dX11_whenOf_72 ?_
      refine lv_iload_n hx hb dX11_whenOf_75 rfl (lv_at hl 3 rfl) ?_
      refine va_iald (f := M 23) hx hb hK hP 17 0 rfl rfl hs dX11_whenOf_76 ?_
      refine lv_if_ne (tgt := 123) hx hb dX11_whenOf_77 (by decide) (fun c3 => ?_) (fun c3 => ?_)
      · refine lv_bipush (v := (-9)) hx hb dX11_whenOf_123 (by decide) ?_
        exact W.iret (v := (-9)) hx hb hr (fun t ht hW => ⟨(-9), rfl, by unfold s_X11_whenOf; rw [if_pos c1, if_pos c2, if_neg c3], ht⟩) (fun _ h => by cases h) dX11_whenOf_125
      · refine lv_aload_n hx hb dX11_whenOf_80 rfl (lv_at hl 1 rfl) ?_
        refine va_get (D := (dC, dI)) (ci := 10) (v := .ref (a 8)) (C := RX11) (T := TX11) (N := 49) hx hb hts hin hown hK hP 0 rfl rfl 8 (by decide) (hts (.fieldLink RX11 19 "SocietyBookModel" "kindOf" "[I") (by decide +kernel)) (fun _ h9 => h9) rfl dX11_whenOf_81 ?_
        refine lv_iload_n hx hb dX11_whenOf_84 rfl (lv_at hl 2 rfl) ?_
        refine va_iald (f := M 8) hx hb hK hP 4 0 rfl rfl hp dX11_whenOf_85 ?_
        refine lv_iconst (v := 2) hx hb dX11_whenOf_86 (by decide) ?_
        refine lv_icmp_ne (tgt := 123) hx hb dX11_whenOf_87 (by decide) (fun c4 => ?_) (fun c4 => ?_)
        · refine lv_bipush (v := (-9)) hx hb dX11_whenOf_123 (by decide) ?_
          exact W.iret (v := (-9)) hx hb hr (fun t ht hW => ⟨(-9), rfl, by unfold s_X11_whenOf; rw [if_pos c1, if_pos c2, if_pos c3, if_neg c4], ht⟩) (fun _ h => by cases h) dX11_whenOf_125
        · refine lv_aload_n hx hb dX11_whenOf_90 rfl (lv_at hl 1 rfl) ?_
          refine va_get (D := (dC, dI)) (ci := 10) (v := .ref (a 11)) (C := RX11) (T := TX11) (N := 49) hx hb hts hin hown hK hP 0 rfl rfl 11 (by decide) (hts (.fieldLink RX11 28 "SocietyBookModel" "toldOn" "[I") (by decide +kernel)) (fun _ h9 => h9) rfl dX11_whenOf_91 ?_
          refine lv_iload_n hx hb dX11_whenOf_94 rfl (lv_at hl 2 rfl) ?_
          refine va_iald (f := M 11) hx hb hK hP 7 0 rfl rfl hp dX11_whenOf_95 ?_
          refine lv_iload_n hx hb dX11_whenOf_96 rfl (lv_at hl 4 rfl) ?_
          refine lv_icmp_gt (tgt := 123) hx hb dX11_whenOf_97 (by decide) (fun c5 => ?_) (fun c5 => ?_)
          · refine lv_bipush (v := (-9)) hx hb dX11_whenOf_123 (by decide) ?_
            exact W.iret (v := (-9)) hx hb hr (fun t ht hW => ⟨(-9), rfl, by unfold s_X11_whenOf; rw [if_pos c1, if_pos c2, if_pos c3, if_pos c4, if_pos c5], ht⟩) (fun _ h => by cases h) dX11_whenOf_125
          · refine lv_iload hx hb dX11_whenOf_100 (lv_at hl 5 rfl) ?_
            refine lv_if_eq (tgt := 114) hx hb dX11_whenOf_102 (by decide) (fun c6 => ?_) (fun c6 => ?_)
            · refine lv_aload_n hx hb dX11_whenOf_114 rfl (lv_at hl 1 rfl) ?_
              refine va_get (D := (dC, dI)) (ci := 10) (v := .ref (a 13)) (C := RX11) (T := TX11) (N := 49) hx hb hts hin hown hK hP 0 rfl rfl 13 (by decide) (hts (.fieldLink RX11 34 "SocietyBookModel" "spanFrom" "[I") (by decide +kernel)) (fun _ h9 => h9) rfl dX11_whenOf_115 ?_
              refine lv_iload_n hx hb dX11_whenOf_118 rfl (lv_at hl 2 rfl) ?_
              refine va_iald (f := M 13) hx hb hK hP 9 0 rfl rfl hp dX11_whenOf_119 ?_
              refine lv_goto (tgt := 125) hx hb dX11_whenOf_120 (by decide) ?_
              exact W.iret (v := (M 13) p0.toNatClampNeg) hx hb hr (fun t ht hW => ⟨(M 13) p0.toNatClampNeg, rfl, by unfold s_X11_whenOf; rw [if_pos c1, if_pos c2, if_pos c3, if_pos c4, if_neg c5, if_pos c6], ht⟩) (fun _ h => by cases h) dX11_whenOf_125
            · refine lv_aload_n hx hb dX11_whenOf_105 rfl (lv_at hl 1 rfl) ?_
              refine va_get (D := (dC, dI)) (ci := 10) (v := .ref (a 14)) (C := RX11) (T := TX11) (N := 49) hx hb hts hin hown hK hP 0 rfl rfl 14 (by decide) (hts (.fieldLink RX11 37 "SocietyBookModel" "spanTo" "[I") (by decide +kernel)) (fun _ h9 => h9) rfl dX11_whenOf_106 ?_
              refine lv_iload_n hx hb dX11_whenOf_109 rfl (lv_at hl 2 rfl) ?_
              refine va_iald (f := M 14) hx hb hK hP 10 0 rfl rfl hp dX11_whenOf_110 ?_
              refine lv_goto (tgt := 125) hx hb dX11_whenOf_111 (by decide) ?_
              exact W.iret (v := (M 14) p0.toNatClampNeg) hx hb hr (fun t ht hW => ⟨(M 14) p0.toNatClampNeg, rfl, by unfold s_X11_whenOf; rw [if_pos c1, if_pos c2, if_pos c3, if_pos c4, if_neg c5, if_neg c6], ht⟩) (fun _ h => by cases h) dX11_whenOf_125
    · refine lv_iload hx hb dX11_whenOf_68 (lv_at hl 0 rfl) ?_
      exact W.iret (v := s_X11_lastOf F M p0 ((M 23) p1.toNatClampNeg) p2) hx hb hr (fun t ht hW => ⟨s_X11_lastOf F M p0 ((M 23) p1.toNatClampNeg) p2, rfl, by unfold s_X11_whenOf; rw [if_pos c1, if_neg c2], ht⟩) (fun _ h => by cases h) dX11_whenOf_70
  · refine lv_aload_n hx hb dX11_whenOf_9 rfl (lv_at hl 0 rfl) ?_
    refine va_get (D := (dC, dI)) (ci := 10) (v := .ref (a 8)) (C := RX11) (T := TX11) (N := 49) hx hb hts hin hown hK hP 0 rfl rfl 8 (by decide) (hts (.fieldLink RX11 19 "SocietyBookModel" "kindOf" "[I") (by decide +kernel)) (fun _ h9 => h9) rfl dX11_whenOf_10 ?_
    refine lv_iload_n hx hb dX11_whenOf_13 rfl (lv_at hl 1 rfl) ?_
    refine va_iald (f := M 8) hx hb hK hP 4 0 rfl rfl hp dX11_whenOf_14 ?_
    refine lv_iconst (v := 1) hx hb dX11_whenOf_15 (by decide) ?_
    refine lv_icmp_ne (tgt := 47) hx hb dX11_whenOf_16 (by decide) (fun c7 => ?_) (fun c7 => ?_)
    · refine lv_aload_n hx hb dX11_whenOf_47 rfl (lv_at hl 0 rfl) ?_
      refine lv_iload_n hx hb dX11_whenOf_48 rfl (lv_at hl 1 rfl) ?_
      refine lv_aload_n hx hb dX11_whenOf_49 rfl (lv_at hl 0 rfl) ?_
      refine va_get (D := (dC, dI)) (ci := 10) (v := .ref (a 23)) (C := RX11) (T := TX11) (N := 49) hx hb hts hin hown hK hP 0 rfl rfl 23 (by decide) (hts (.fieldLink RX11 58 "SocietyBookModel" "statuteWhat" "[I") (by decide +kernel)) (fun _ h9 => h9) rfl dX11_whenOf_50 ?_
      refine lv_iload_n hx hb dX11_whenOf_53 rfl (lv_at hl 2 rfl) ?_
      refine va_iald (f := M 23) hx hb hK hP 17 0 rfl rfl hs dX11_whenOf_54 ?_
      refine lv_iload_n hx hb dX11_whenOf_55 rfl (lv_at hl 3 rfl) ?_
      refine vp_callSi (W.runV (As := [.int p0, .int ((M 23) p1.toNatClampNeg), .int p2]) (rest := []) ⟨hx, hb, hml, hown, hts⟩ (c_X11_lastOf l dC dI h a cI cB cZ F M p0 ((M 23) p1.toNatClampNeg) p2 hI) (cwV 3 hts gX11_whenOf_X11_lastOf rfl rfl rfl (by decide +kernel) ⟨Nat.le_of_ble_eq_true rfl, Nat.le_of_ble_eq_true rfl⟩) ⟨pm_blind, va_recv hK hP (ci := 10) (q0 := 0) rfl rfl, fun U hU hW => ⟨rfl, by rw [hU]; exact hP, va_K.moved hW.alike hK⟩⟩ rfl rfl hl.1 rfl (lv_room (Nat.le_of_ble_eq_true rfl)) dX11_whenOf_56 ⟨Nat.zero_le _, Nat.zero_le _⟩) (fun r hr9 => ?_)
      subst hr9
      refine lv_istore (lv' := [(5, .int (s_X11_lastOf F M p0 ((M 23) p1.toNatClampNeg) p2)), (0, .ref h), (1, .int p0), (2, .int p1), (3, .int p2), (4, .int p3)]) hx hb dX11_whenOf_59 hl (by decide) rfl (fun ls hl => ?_)
      refine lv_iload hx hb dX11_whenOf_61 (lv_at hl 0 rfl) ?_
      refine lv_bipush (v := (-9)) hx hb dX11_whenOf_63 (by decide) ?_
      refine lv_icmp_eq (tgt := 71) hx hb dX11_whenOf_65 (by decide) (fun c8 => ?_) (fun c8 => ?_)
      · refine lv_aload_n hx hb dX11_whenOf_71 rfl (lv_at hl 1 rfl) ?_
        refine va_get (D := (dC, dI)) (ci := 10) (v := .ref (a 23)) (C := RX11) (T := TX11) (N := 49) hx hb hts hin hown hK hP 0 rfl rfl 23 (by decide) (hts (.fieldLink RX11 58 "SocietyBookModel" "statuteWhat" "[I") (by decide +kernel)) (fun _ h9 => h9) rfl dX11_whenOf_72 ?_
        refine lv_iload_n hx hb dX11_whenOf_75 rfl (lv_at hl 3 rfl) ?_
        refine va_iald (f := M 23) hx hb hK hP 17 0 rfl rfl hs dX11_whenOf_76 ?_
        refine lv_if_ne (tgt := 123) hx hb dX11_whenOf_77 (by decide) (fun c9 => ?_) (fun c9 => ?_)
        · refine lv_bipush (v := (-9)) hx hb dX11_whenOf_123 (by decide) ?_
          exact W.iret (v := (-9)) hx hb hr (fun t ht hW => ⟨(-9), rfl, by unfold s_X11_whenOf; rw [if_neg c1, if_neg c7, if_pos c8, if_neg c9], ht⟩) (fun _ h => by cases h) dX11_whenOf_125
        · refine lv_aload_n hx hb dX11_whenOf_80 rfl (lv_at hl 1 rfl) ?_
          refine va_get (D := (dC, dI)) (ci := 10) (v := .ref (a 8)) (C := RX11) (T := TX11) (N := 49) hx hb hts hin hown hK hP 0 rfl rfl 8 (by decide) (hts (.fieldLink RX11 19 "SocietyBookModel" "kindOf" "[I") (by decide +kernel)) (fun _ h9 => h9) rfl dX11_whenOf_81 ?_
          refine lv_iload_n hx hb dX11_whenOf_84 rfl (lv_at hl 2 rfl) ?_
          refine va_iald (f := M 8) hx hb hK hP 4 0 rfl rfl hp dX11_whenOf_85 ?_
          refine lv_iconst (v := 2) hx hb dX11_whenOf_86 (by decide) ?_
          refine lv_icmp_ne (tgt := 123) hx hb dX11_whenOf_87 (by decide) (fun c10 => ?_) (fun c10 => ?_)
          · refine lv_bipush (v := (-9)) hx hb dX11_whenOf_123 (by decide) ?_
            exact W.iret (v := (-9)) hx hb hr (fun t ht hW => ⟨(-9), rfl, by unfold s_X11_whenOf; rw [if_neg c1, if_neg c7, if_pos c8, if_pos c9, if_neg c10], ht⟩) (fun _ h => by cases h) dX11_whenOf_125
          · refine lv_aload_n hx hb dX11_whenOf_90 rfl (lv_at hl 1 rfl) ?_
            refine va_get (D := (dC, dI)) (ci := 10) (v := .ref (a 11)) (C := RX11) (T := TX11) (N := 49) hx hb hts hin hown hK hP 0 rfl rfl 11 (by decide) (hts (.fieldLink RX11 28 "SocietyBookModel" "toldOn" "[I") (by decide +kernel)) (fun _ h9 => h9) rfl dX11_whenOf_91 ?_
            refine lv_iload_n hx hb dX11_whenOf_94 rfl (lv_at hl 2 rfl) ?_
            refine va_iald (f := M 11) hx hb hK hP 7 0 rfl rfl hp dX11_whenOf_95 ?_
            refine lv_iload_n hx hb dX11_whenOf_96 rfl (lv_at hl 4 rfl) ?_
            refine lv_icmp_gt (tgt := 123) hx hb dX11_whenOf_97 (by decide) (fun c11 => ?_) (fun c11 => ?_)
            · refine lv_bipush (v := (-9)) hx hb dX11_whenOf_123 (by decide) ?_
              exact W.iret (v := (-9)) hx hb hr (fun t ht hW => ⟨(-9), rfl, by unfold s_X11_whenOf; rw [if_neg c1, if_neg c7, if_pos c8, if_pos c9, if_pos c10, if_pos c11], ht⟩) (fun _ h => by cases h) dX11_whenOf_125
            · refine lv_iload hx hb dX11_whenOf_100 (lv_at hl 5 rfl) ?_
              refine lv_if_eq (tgt := 114) hx hb dX11_whenOf_102 (by decide) (fun c12 => ?_) (fun c12 => ?_)
              · refine lv_aload_n hx hb dX11_whenOf_114 rfl (lv_at hl 1 rfl) ?_
                refine va_get (D := (dC, dI)) (ci := 10) (v := .ref (a 13)) (C := RX11) (T := TX11) (N := 49) hx hb hts hin hown hK hP 0 rfl rfl 13 (by decide) (hts (.fieldLink RX11 34 "SocietyBookModel" "spanFrom" "[I") (by decide +kernel)) (fun _ h9 => h9) rfl dX11_whenOf_115 ?_
                refine lv_iload_n hx hb dX11_whenOf_118 rfl (lv_at hl 2 rfl) ?_
                refine va_iald (f := M 13) hx hb hK hP 9 0 rfl rfl hp dX11_whenOf_119 ?_
                refine lv_goto (tgt := 125) hx hb dX11_whenOf_120 (by decide) ?_
                exact W.iret (v := (M 13) p0.toNatClampNeg) hx hb hr (fun t ht hW => ⟨(M 13) p0.toNatClampNeg, rfl, by unfold s_X11_whenOf; rw [if_neg c1, if_neg c7, if_pos c8, if_pos c9, if_pos c10, if_neg c11, if_pos c12], ht⟩) (fun _ h => by cases h) dX11_whenOf_125
              · refine lv_aload_n hx hb dX11_whenOf_105 rfl (lv_at hl 1 rfl) ?_
                refine va_get (D := (dC, dI)) (ci := 10) (v := .ref (a 14)) (C := RX11) (T := TX11) (N := 49) hx hb hts hin hown hK hP 0 rfl rfl 14 (by decide) (hts (.fieldLink RX11 37 "SocietyBookModel" "spanTo" "[I") (by decide +kernel)) (fun _ h9 => h9) rfl dX11_whenOf_106 ?_
                refine lv_iload_n hx hb dX11_whenOf_109 rfl (lv_at hl 2 rfl) ?_
                refine va_iald (f := M 14) hx hb hK hP 10 0 rfl rfl hp dX11_whenOf_110 ?_
                refine lv_goto (tgt := 125) hx hb dX11_whenOf_111 (by decide) ?_
                exact W.iret (v := (M 14) p0.toNatClampNeg) hx hb hr (fun t ht hW => ⟨(M 14) p0.toNatClampNeg, rfl, by unfold s_X11_whenOf; rw [if_neg c1, if_neg c7, if_pos c8, if_pos c9, if_pos c10, if_neg c11, if_neg c12], ht⟩) (fun _ h => by cases h) dX11_whenOf_125
      · refine lv_iload hx hb dX11_whenOf_68 (lv_at hl 0 rfl) ?_
        exact W.iret (v := s_X11_lastOf F M p0 ((M 23) p1.toNatClampNeg) p2) hx hb hr (fun t ht hW => ⟨s_X11_lastOf F M p0 ((M 23) p1.toNatClampNeg) p2, rfl, by unfold s_X11_whenOf; rw [if_neg c1, if_neg c7, if_neg c8], ht⟩) (fun _ h => by cases h) dX11_whenOf_70
    · refine lv_aload_n hx hb dX11_whenOf_19 rfl (lv_at hl 0 rfl) ?_
      refine va_get (D := (dC, dI)) (ci := 10) (v := .ref (a 15)) (C := RX11) (T := TX11) (N := 49) hx hb hts hin hown hK hP 0 rfl rfl 15 (by decide) (hts (.fieldLink RX11 40 "SocietyBookModel" "openedOn" "[I") (by decide +kernel)) (fun _ h9 => h9) rfl dX11_whenOf_20 ?_
      refine lv_iload_n hx hb dX11_whenOf_23 rfl (lv_at hl 1 rfl) ?_
      refine va_iald (f := M 15) hx hb hK hP 11 0 rfl rfl hp dX11_whenOf_24 ?_
      refine lv_bipush (v := (-9)) hx hb dX11_whenOf_25 (by decide) ?_
      refine lv_icmp_eq (tgt := 47) hx hb dX11_whenOf_27 (by decide) (fun c13 => ?_) (fun c13 => ?_)
      · refine lv_aload_n hx hb dX11_whenOf_47 rfl (lv_at hl 0 rfl) ?_
        refine lv_iload_n hx hb dX11_whenOf_48 rfl (lv_at hl 1 rfl) ?_
        refine lv_aload_n hx hb dX11_whenOf_49 rfl (lv_at hl 0 rfl) ?_
        refine va_get (D := (dC, dI)) (ci := 10) (v := .ref (a 23)) (C := RX11) (T := TX11) (N := 49) hx hb hts hin hown hK hP 0 rfl rfl 23 (by decide) (hts (.fieldLink RX11 58 "SocietyBookModel" "statuteWhat" "[I") (by decide +kernel)) (fun _ h9 => h9) rfl dX11_whenOf_50 ?_
        refine lv_iload_n hx hb dX11_whenOf_53 rfl (lv_at hl 2 rfl) ?_
        refine va_iald (f := M 23) hx hb hK hP 17 0 rfl rfl hs dX11_whenOf_54 ?_
        refine lv_iload_n hx hb dX11_whenOf_55 rfl (lv_at hl 3 rfl) ?_
        refine vp_callSi (W.runV (As := [.int p0, .int ((M 23) p1.toNatClampNeg), .int p2]) (rest := []) ⟨hx, hb, hml, hown, hts⟩ (c_X11_lastOf l dC dI h a cI cB cZ F M p0 ((M 23) p1.toNatClampNeg) p2 hI) (cwV 3 hts gX11_whenOf_X11_lastOf rfl rfl rfl (by decide +kernel) ⟨Nat.le_of_ble_eq_true rfl, Nat.le_of_ble_eq_true rfl⟩) ⟨pm_blind, va_recv hK hP (ci := 10) (q0 := 0) rfl rfl, fun U hU hW => ⟨rfl, by rw [hU]; exact hP, va_K.moved hW.alike hK⟩⟩ rfl rfl hl.1 rfl (lv_room (Nat.le_of_ble_eq_true rfl)) dX11_whenOf_56 ⟨Nat.zero_le _, Nat.zero_le _⟩) (fun r hr9 => ?_)
        subst hr9
        refine lv_istore (lv' := [(5, .int (s_X11_lastOf F M p0 ((M 23) p1.toNatClampNeg) p2)), (0, .ref h), (1, .int p0), (2, .int p1), (3, .int p2), (4, .int p3)]) hx hb dX11_whenOf_59 hl (by decide) rfl (fun ls hl => ?_)
        refine lv_iload hx hb dX11_whenOf_61 (lv_at hl 0 rfl) ?_
        refine lv_bipush (v := (-9)) hx hb dX11_whenOf_63 (by decide) ?_
        refine lv_icmp_eq (tgt := 71) hx hb dX11_whenOf_65 (by decide) (fun c14 => ?_) (fun c14 => ?_)
        · refine lv_aload_n hx hb dX11_whenOf_71 rfl (lv_at hl 1 rfl) ?_
          refine va_get (D := (dC, dI)) (ci := 10) (v := .ref (a 23)) (C := RX11) (T := TX11) (N := 49) hx hb hts hin hown hK hP 0 rfl rfl 23 (by decide) (hts (.fieldLink RX11 58 "SocietyBookModel" "statuteWhat" "[I") (by decide +kernel)) (fun _ h9 => h9) rfl dX11_whenOf_72 ?_
          refine lv_iload_n hx hb dX11_whenOf_75 rfl (lv_at hl 3 rfl) ?_
          refine va_iald (f := M 23) hx hb hK hP 17 0 rfl rfl hs dX11_whenOf_76 ?_
          refine lv_if_ne (tgt := 123) hx hb dX11_whenOf_77 (by decide) (fun c15 => ?_) (fun c15 => ?_)
          · refine lv_bipush (v := (-9)) hx hb dX11_whenOf_123 (by decide) ?_
            exact W.iret (v := (-9)) hx hb hr (fun t ht hW => ⟨(-9), rfl, by unfold s_X11_whenOf; rw [if_neg c1, if_pos c7, if_pos c13, if_pos c14, if_neg c15], ht⟩) (fun _ h => by cases h) dX11_whenOf_125
          · refine lv_aload_n hx hb dX11_whenOf_80 rfl (lv_at hl 1 rfl) ?_
            refine va_get (D := (dC, dI)) (ci := 10) (v := .ref (a 8)) (C := RX11) (T := TX11) (N := 49) hx hb hts hin hown hK hP 0 rfl rfl 8 (by decide) (hts (.fieldLink RX11 19 "SocietyBookModel" "kindOf" "[I") (by decide +kernel)) (fun _ h9 => h9) rfl dX11_whenOf_81 ?_
            refine lv_iload_n hx hb dX11_whenOf_84 rfl (lv_at hl 2 rfl) ?_
            refine va_iald (f := M 8) hx hb hK hP 4 0 rfl rfl hp dX11_whenOf_85 ?_
            refine lv_iconst (v := 2) hx hb dX11_whenOf_86 (by decide) ?_
            refine lv_icmp_ne (tgt := 123) hx hb dX11_whenOf_87 (by decide) (fun c16 => ?_) (fun c16 => ?_)
            · refine lv_bipush (v := (-9)) hx hb dX11_whenOf_123 (by decide) ?_
              exact W.iret (v := (-9)) hx hb hr (fun t ht hW => ⟨(-9), rfl, by unfold s_X11_whenOf; rw [if_neg c1, if_pos c7, if_pos c13, if_pos c14, if_pos c15, if_neg c16], ht⟩) (fun _ h => by cases h) dX11_whenOf_125
            · refine lv_aload_n hx hb dX11_whenOf_90 rfl (lv_at hl 1 rfl) ?_
              refine va_get (D := (dC, dI)) (ci := 10) (v := .ref (a 11)) (C := RX11) (T := TX11) (N := 49) hx hb hts hin hown hK hP 0 rfl rfl 11 (by decide) (hts (.fieldLink RX11 28 "SocietyBookModel" "toldOn" "[I") (by decide +kernel)) (fun _ h9 => h9) rfl dX11_whenOf_91 ?_
              refine lv_iload_n hx hb dX11_whenOf_94 rfl (lv_at hl 2 rfl) ?_
              refine va_iald (f := M 11) hx hb hK hP 7 0 rfl rfl hp dX11_whenOf_95 ?_
              refine lv_iload_n hx hb dX11_whenOf_96 rfl (lv_at hl 4 rfl) ?_
              refine lv_icmp_gt (tgt := 123) hx hb dX11_whenOf_97 (by decide) (fun c17 => ?_) (fun c17 => ?_)
              · refine lv_bipush (v := (-9)) hx hb dX11_whenOf_123 (by decide) ?_
                exact W.iret (v := (-9)) hx hb hr (fun t ht hW => ⟨(-9), rfl, by unfold s_X11_whenOf; rw [if_neg c1, if_pos c7, if_pos c13, if_pos c14, if_pos c15, if_pos c16, if_pos c17], ht⟩) (fun _ h => by cases h) dX11_whenOf_125
              · refine lv_iload hx hb dX11_whenOf_100 (lv_at hl 5 rfl) ?_
                refine lv_if_eq (tgt := 114) hx hb dX11_whenOf_102 (by decide) (fun c18 => ?_) (fun c18 => ?_)
                · refine lv_aload_n hx hb dX11_whenOf_114 rfl (lv_at hl 1 rfl) ?_
                  refine va_get (D := (dC, dI)) (ci := 10) (v := .ref (a 13)) (C := RX11) (T := TX11) (N := 49) hx hb hts hin hown hK hP 0 rfl rfl 13 (by decide) (hts (.fieldLink RX11 34 "SocietyBookModel" "spanFrom" "[I") (by decide +kernel)) (fun _ h9 => h9) rfl dX11_whenOf_115 ?_
                  refine lv_iload_n hx hb dX11_whenOf_118 rfl (lv_at hl 2 rfl) ?_
                  refine va_iald (f := M 13) hx hb hK hP 9 0 rfl rfl hp dX11_whenOf_119 ?_
                  refine lv_goto (tgt := 125) hx hb dX11_whenOf_120 (by decide) ?_
                  exact W.iret (v := (M 13) p0.toNatClampNeg) hx hb hr (fun t ht hW => ⟨(M 13) p0.toNatClampNeg, rfl, by unfold s_X11_whenOf; rw [if_neg c1, if_pos c7, if_pos c13, if_pos c14, if_pos c15, if_pos c16, if_neg c17, if_pos c18], ht⟩) (fun _ h => by cases h) dX11_whenOf_125
                · refine lv_aload_n hx hb dX11_whenOf_105 rfl (lv_at hl 1 rfl) ?_
                  refine va_get (D := (dC, dI)) (ci := 10) (v := .ref (a 14)) (C := RX11) (T := TX11) (N := 49) hx hb hts hin hown hK hP 0 rfl rfl 14 (by decide) (hts (.fieldLink RX11 37 "SocietyBookModel" "spanTo" "[I") (by decide +kernel)) (fun _ h9 => h9) rfl dX11_whenOf_106 ?_
                  refine lv_iload_n hx hb dX11_whenOf_109 rfl (lv_at hl 2 rfl) ?_
                  refine va_iald (f := M 14) hx hb hK hP 10 0 rfl rfl hp dX11_whenOf_110 ?_
                  refine lv_goto (tgt := 125) hx hb dX11_whenOf_111 (by decide) ?_
                  exact W.iret (v := (M 14) p0.toNatClampNeg) hx hb hr (fun t ht hW => ⟨(M 14) p0.toNatClampNeg, rfl, by unfold s_X11_whenOf; rw [if_neg c1, if_pos c7, if_pos c13, if_pos c14, if_pos c15, if_pos c16, if_neg c17, if_neg c18], ht⟩) (fun _ h => by cases h) dX11_whenOf_125
        · refine lv_iload hx hb dX11_whenOf_68 (lv_at hl 0 rfl) ?_
          exact W.iret (v := s_X11_lastOf F M p0 ((M 23) p1.toNatClampNeg) p2) hx hb hr (fun t ht hW => ⟨s_X11_lastOf F M p0 ((M 23) p1.toNatClampNeg) p2, rfl, by unfold s_X11_whenOf; rw [if_neg c1, if_pos c7, if_pos c13, if_neg c14], ht⟩) (fun _ h => by cases h) dX11_whenOf_70
      · refine lv_aload_n hx hb dX11_whenOf_30 rfl (lv_at hl 0 rfl) ?_
        refine va_get (D := (dC, dI)) (ci := 10) (v := .ref (a 15)) (C := RX11) (T := TX11) (N := 49) hx hb hts hin hown hK hP 0 rfl rfl 15 (by decide) (hts (.fieldLink RX11 40 "SocietyBookModel" "openedOn" "[I") (by decide +kernel)) (fun _ h9 => h9) rfl dX11_whenOf_31 ?_
        refine lv_iload_n hx hb dX11_whenOf_34 rfl (lv_at hl 1 rfl) ?_
        refine va_iald (f := M 15) hx hb hK hP 11 0 rfl rfl hp dX11_whenOf_35 ?_
        refine lv_iload_n hx hb dX11_whenOf_36 rfl (lv_at hl 3 rfl) ?_
        refine lv_icmp_gt (tgt := 47) hx hb dX11_whenOf_37 (by decide) (fun c19 => ?_) (fun c19 => ?_)
        · refine lv_aload_n hx hb dX11_whenOf_47 rfl (lv_at hl 0 rfl) ?_
          refine lv_iload_n hx hb dX11_whenOf_48 rfl (lv_at hl 1 rfl) ?_
          refine lv_aload_n hx hb dX11_whenOf_49 rfl (lv_at hl 0 rfl) ?_
          refine va_get (D := (dC, dI)) (ci := 10) (v := .ref (a 23)) (C := RX11) (T := TX11) (N := 49) hx hb hts hin hown hK hP 0 rfl rfl 23 (by decide) (hts (.fieldLink RX11 58 "SocietyBookModel" "statuteWhat" "[I") (by decide +kernel)) (fun _ h9 => h9) rfl dX11_whenOf_50 ?_
          refine lv_iload_n hx hb dX11_whenOf_53 rfl (lv_at hl 2 rfl) ?_
          refine va_iald (f := M 23) hx hb hK hP 17 0 rfl rfl hs dX11_whenOf_54 ?_
          refine lv_iload_n hx hb dX11_whenOf_55 rfl (lv_at hl 3 rfl) ?_
          refine vp_callSi (W.runV (As := [.int p0, .int ((M 23) p1.toNatClampNeg), .int p2]) (rest := []) ⟨hx, hb, hml, hown, hts⟩ (c_X11_lastOf l dC dI h a cI cB cZ F M p0 ((M 23) p1.toNatClampNeg) p2 hI) (cwV 3 hts gX11_whenOf_X11_lastOf rfl rfl rfl (by decide +kernel) ⟨Nat.le_of_ble_eq_true rfl, Nat.le_of_ble_eq_true rfl⟩) ⟨pm_blind, va_recv hK hP (ci := 10) (q0 := 0) rfl rfl, fun U hU hW => ⟨rfl, by rw [hU]; exact hP, va_K.moved hW.alike hK⟩⟩ rfl rfl hl.1 rfl (lv_room (Nat.le_of_ble_eq_true rfl)) dX11_whenOf_56 ⟨Nat.zero_le _, Nat.zero_le _⟩) (fun r hr9 => ?_)
          subst hr9
          refine lv_istore (lv' := [(5, .int (s_X11_lastOf F M p0 ((M 23) p1.toNatClampNeg) p2)), (0, .ref h), (1, .int p0), (2, .int p1), (3, .int p2), (4, .int p3)]) hx hb dX11_whenOf_59 hl (by decide) rfl (fun ls hl => ?_)
          refine lv_iload hx hb dX11_whenOf_61 (lv_at hl 0 rfl) ?_
          refine lv_bipush (v := (-9)) hx hb dX11_whenOf_63 (by decide) ?_
          refine lv_icmp_eq (tgt := 71) hx hb dX11_whenOf_65 (by decide) (fun c20 => ?_) (fun c20 => ?_)
          · refine lv_aload_n hx hb dX11_whenOf_71 rfl (lv_at hl 1 rfl) ?_
            refine va_get (D := (dC, dI)) (ci := 10) (v := .ref (a 23)) (C := RX11) (T := TX11) (N := 49) hx hb hts hin hown hK hP 0 rfl rfl 23 (by decide) (hts (.fieldLink RX11 58 "SocietyBookModel" "statuteWhat" "[I") (by decide +kernel)) (fun _ h9 => h9) rfl dX11_whenOf_72 ?_
            refine lv_iload_n hx hb dX11_whenOf_75 rfl (lv_at hl 3 rfl) ?_
            refine va_iald (f := M 23) hx hb hK hP 17 0 rfl rfl hs dX11_whenOf_76 ?_
            refine lv_if_ne (tgt := 123) hx hb dX11_whenOf_77 (by decide) (fun c21 => ?_) (fun c21 => ?_)
            · refine lv_bipush (v := (-9)) hx hb dX11_whenOf_123 (by decide) ?_
              exact W.iret (v := (-9)) hx hb hr (fun t ht hW => ⟨(-9), rfl, by unfold s_X11_whenOf; rw [if_neg c1, if_pos c7, if_neg c13, if_pos c19, if_pos c20, if_neg c21], ht⟩) (fun _ h => by cases h) dX11_whenOf_125
            · refine lv_aload_n hx hb dX11_whenOf_80 rfl (lv_at hl 1 rfl) ?_
              refine va_get (D := (dC, dI)) (ci := 10) (v := .ref (a 8)) (C := RX11) (T := TX11) (N := 49) hx hb hts hin hown hK hP 0 rfl rfl 8 (by decide) (hts (.fieldLink RX11 19 "SocietyBookModel" "kindOf" "[I") (by decide +kernel)) (fun _ h9 => h9) rfl dX11_whenOf_81 ?_
              refine lv_iload_n hx hb dX11_whenOf_84 rfl (lv_at hl 2 rfl) ?_
              refine va_iald (f := M 8) hx hb hK hP 4 0 rfl rfl hp dX11_whenOf_85 ?_
              refine lv_iconst (v := 2) hx hb dX11_whenOf_86 (by decide) ?_
              refine lv_icmp_ne (tgt := 123) hx hb dX11_whenOf_87 (by decide) (fun c22 => ?_) (fun c22 => ?_)
              · refine lv_bipush (v := (-9)) hx hb dX11_whenOf_123 (by decide) ?_
                exact W.iret (v := (-9)) hx hb hr (fun t ht hW => ⟨(-9), rfl, by unfold s_X11_whenOf; rw [if_neg c1, if_pos c7, if_neg c13, if_pos c19, if_pos c20, if_pos c21, if_neg c22], ht⟩) (fun _ h => by cases h) dX11_whenOf_125
              · refine lv_aload_n hx hb dX11_whenOf_90 rfl (lv_at hl 1 rfl) ?_
                refine va_get (D := (dC, dI)) (ci := 10) (v := .ref (a 11)) (C := RX11) (T := TX11) (N := 49) hx hb hts hin hown hK hP 0 rfl rfl 11 (by decide) (hts (.fieldLink RX11 28 "SocietyBookModel" "toldOn" "[I") (by decide +kernel)) (fun _ h9 => h9) rfl dX11_whenOf_91 ?_
                refine lv_iload_n hx hb dX11_whenOf_94 rfl (lv_at hl 2 rfl) ?_
                refine va_iald (f := M 11) hx hb hK hP 7 0 rfl rfl hp dX11_whenOf_95 ?_
                refine lv_iload_n hx hb dX11_whenOf_96 rfl (lv_at hl 4 rfl) ?_
                refine lv_icmp_gt (tgt := 123) hx hb dX11_whenOf_97 (by decide) (fun c23 => ?_) (fun c23 => ?_)
                · refine lv_bipush (v := (-9)) hx hb dX11_whenOf_123 (by decide) ?_
                  exact W.iret (v := (-9)) hx hb hr (fun t ht hW => ⟨(-9), rfl, by unfold s_X11_whenOf; rw [if_neg c1, if_pos c7, if_neg c13, if_pos c19, if_pos c20, if_pos c21, if_pos c22, if_pos c23], ht⟩) (fun _ h => by cases h) dX11_whenOf_125
                · refine lv_iload hx hb dX11_whenOf_100 (lv_at hl 5 rfl) ?_
                  refine lv_if_eq (tgt := 114) hx hb dX11_whenOf_102 (by decide) (fun c24 => ?_) (fun c24 => ?_)
                  · refine lv_aload_n hx hb dX11_whenOf_114 rfl (lv_at hl 1 rfl) ?_
                    refine va_get (D := (dC, dI)) (ci := 10) (v := .ref (a 13)) (C := RX11) (T := TX11) (N := 49) hx hb hts hin hown hK hP 0 rfl rfl 13 (by decide) (hts (.fieldLink RX11 34 "SocietyBookModel" "spanFrom" "[I") (by decide +kernel)) (fun _ h9 => h9) rfl dX11_whenOf_115 ?_
                    refine lv_iload_n hx hb dX11_whenOf_118 rfl (lv_at hl 2 rfl) ?_
                    refine va_iald (f := M 13) hx hb hK hP 9 0 rfl rfl hp dX11_whenOf_119 ?_
                    refine lv_goto (tgt := 125) hx hb dX11_whenOf_120 (by decide) ?_
                    exact W.iret (v := (M 13) p0.toNatClampNeg) hx hb hr (fun t ht hW => ⟨(M 13) p0.toNatClampNeg, rfl, by unfold s_X11_whenOf; rw [if_neg c1, if_pos c7, if_neg c13, if_pos c19, if_pos c20, if_pos c21, if_pos c22, if_neg c23, if_pos c24], ht⟩) (fun _ h => by cases h) dX11_whenOf_125
                  · refine lv_aload_n hx hb dX11_whenOf_105 rfl (lv_at hl 1 rfl) ?_
                    refine va_get (D := (dC, dI)) (ci := 10) (v := .ref (a 14)) (C := RX11) (T := TX11) (N := 49) hx hb hts hin hown hK hP 0 rfl rfl 14 (by decide) (hts (.fieldLink RX11 37 "SocietyBookModel" "spanTo" "[I") (by decide +kernel)) (fun _ h9 => h9) rfl dX11_whenOf_106 ?_
                    refine lv_iload_n hx hb dX11_whenOf_109 rfl (lv_at hl 2 rfl) ?_
                    refine va_iald (f := M 14) hx hb hK hP 10 0 rfl rfl hp dX11_whenOf_110 ?_
                    refine lv_goto (tgt := 125) hx hb dX11_whenOf_111 (by decide) ?_
                    exact W.iret (v := (M 14) p0.toNatClampNeg) hx hb hr (fun t ht hW => ⟨(M 14) p0.toNatClampNeg, rfl, by unfold s_X11_whenOf; rw [if_neg c1, if_pos c7, if_neg c13, if_pos c19, if_pos c20, if_pos c21, if_pos c22, if_neg c23, if_neg c24], ht⟩) (fun _ h => by cases h) dX11_whenOf_125
          · refine lv_iload hx hb dX11_whenOf_68 (lv_at hl 0 rfl) ?_
            exact W.iret (v := s_X11_lastOf F M p0 ((M 23) p1.toNatClampNeg) p2) hx hb hr (fun t ht hW => ⟨s_X11_lastOf F M p0 ((M 23) p1.toNatClampNeg) p2, rfl, by unfold s_X11_whenOf; rw [if_neg c1, if_pos c7, if_neg c13, if_pos c19, if_neg c20], ht⟩) (fun _ h => by cases h) dX11_whenOf_70
        · refine lv_aload_n hx hb dX11_whenOf_40 rfl (lv_at hl 0 rfl) ?_
          refine va_get (D := (dC, dI)) (ci := 10) (v := .ref (a 11)) (C := RX11) (T := TX11) (N := 49) hx hb hts hin hown hK hP 0 rfl rfl 11 (by decide) (hts (.fieldLink RX11 28 "SocietyBookModel" "toldOn" "[I") (by decide +kernel)) (fun _ h9 => h9) rfl dX11_whenOf_41 ?_
          refine lv_iload_n hx hb dX11_whenOf_44 rfl (lv_at hl 1 rfl) ?_
          refine va_iald (f := M 11) hx hb hK hP 7 0 rfl rfl hp dX11_whenOf_45 ?_
          exact W.iret (v := (M 11) p0.toNatClampNeg) hx hb hr (fun t ht hW => ⟨(M 11) p0.toNatClampNeg, rfl, by unfold s_X11_whenOf; rw [if_neg c1, if_pos c7, if_neg c13, if_neg c19], ht⟩) (fun _ h => by cases h) dX11_whenOf_46

def s_X11_when (F : Nat → Int32) (M : Nat → Nat → Int32) (p0 : Int32) (p1 : Int32) (p2 : Int32) (p3 : Int32) : Int32 :=
  if 0 ≤ p0 ∧ p0 ≤ ((F 7) - 1) then (if 0 ≤ p1 ∧ p1 ≤ ((F 21) - 1) then (if 0 ≤ p2 ∧ p2 ≤ 30000 then s_X11_whenOf F M p0 p1 p2 p3 else
      (-1)) else
    (-1)) else
  (-1)
set_option maxHeartbeats 4000000 in
set_option maxRecDepth 100000 in
theorem c_X11_when (l : Launch) (dC : Nat → ClassId) (dI : Nat → Nat → Nat) (h : Nat) (a : Nat → Nat) (cI cB cZ : ClassId) (F : Nat → Int32) (M : Nat → Nat → Int32) (p0 : Int32) (p1 : Int32) (p2 : Int32) (p3 : Int32) (hI : iv F M) : Met l yX11_when wsX11_when ({ frames := 2, cells := 0, slots := 0, locals := 50 } : Room) (va_Pc [.ref h, .int p0, .int p1, .int p2, .int p3] (pM dC dI h a cI cB cZ F M)) (vp_Si (fun r => r = s_X11_when F M p0 p1 p2 p3)) 0 0 (fun _ => False) := by
  refine Met.ofW (cc := cX11_when) (maxL := 5) (ret := (some .int)) (by decide) rfl ?_
  intro p e s m args below meth c s₁ B hml hv
  obtain ⟨rfl, hP, hK⟩ := hv
  have hx := B.exec
  have hb := B.bytes
  have hr := B.returns
  have hts := atoms_spec (ws := wsX11_when) B.pre
  have hown : s.vm.findClass RX11 = some m.cls := findClass_of_methodNamed B.named
  have hlocks := B.notSynchronized
  have hin : ∀ w ∈ wsX110, w ∈ wsX11_when := by decide +kernel
  have hl := lv_entry ([.ref h, .int p0, .int p1, .int p2, .int p3]) (n := 5) (Nat.le_of_ble_eq_true rfl)
  rw [lg_entry_eq]
  generalize (lg_sl ([.ref h, .int p0, .int p1, .int p2, .int p3]) ++ List.replicate (5 - (lg_sl ([.ref h, .int p0, .int p1, .int p2, .int p3])).length) Slot.unset).toArray = ls at hl ⊢
  have hl : lv_has ls 5 [(0, .ref h), (1, .int p0), (2, .int p1), (3, .int p2), (4, .int p3)] := hl
  refine lv_aload_n hx hb dX11_when_0 rfl (lv_at hl 0 rfl) ?_
  refine lv_iload_n hx hb dX11_when_1 rfl (lv_at hl 1 rfl) ?_
  refine vp_callSi (W.runV (As := [.int p0]) (rest := []) ⟨hx, hb, hml, hown, hts⟩ (c_X11_isPaper l dC dI h a cI cB cZ F M p0) (cwV 1 hts gX11_when_X11_isPaper rfl rfl rfl (by decide +kernel) ⟨Nat.le_of_ble_eq_true rfl, Nat.le_of_ble_eq_true rfl⟩) ⟨pm_blind, va_recv hK hP (ci := 10) (q0 := 0) rfl rfl, fun U hU hW => ⟨rfl, by rw [hU]; exact hP, va_K.moved hW.alike hK⟩⟩ rfl rfl hl.1 rfl (lv_room (Nat.le_of_ble_eq_true rfl)) dX11_when_2 ⟨Nat.zero_le _, Nat.zero_le _⟩) (fun r hr9 => ?_)
  subst hr9
  refine lv_if_eq (tgt := 41) hx hb dX11_when_5 (by decide) (fun c1 => ?_) (fun c1 => ?_)
  · replace c1 := bo_f c1
    refine lv_iconst (v := (-1)) hx hb dX11_when_41 (by decide) ?_
    exact W.iret (v := (-1)) hx hb hr (fun t ht hW => ⟨(-1), rfl, by unfold s_X11_when; rw [if_neg c1], ht⟩) (fun _ h => by cases h) dX11_when_42
  · replace c1 := bo_t c1
    refine lv_iload_n hx hb dX11_when_8 rfl (lv_at hl 2 rfl) ?_
    refine lv_iconst (v := 0) hx hb dX11_when_9 (by decide) ?_
    refine lv_aload_n hx hb dX11_when_10 rfl (lv_at hl 0 rfl) ?_
    refine va_get (D := (dC, dI)) (ci := 10) (v := .int (F 21)) (C := RX11) (T := TX11) (N := 49) hx hb hts hin hown hK hP 0 rfl rfl 21 (by decide) (hts (.fieldLink RX11 181 "SocietyBookModel" "statutes" "I") (by decide +kernel)) (fun _ h9 => h9) rfl dX11_when_11 ?_
    refine lv_iconst (v := 1) hx hb dX11_when_14 (by decide) ?_
    refine lv_isub hx hb dX11_when_15 ?_
    refine vp_callSi (W.runS (As := [.int p1, .int 0, .int ((F 21) - 1)]) (rest := []) ⟨hx, hb, hml, hown, hts⟩ (c_X11_in l p1 0 ((F 21) - 1)) (va_cwS 3 hts gX11_when_X11_in rfl rfl rfl (by decide +kernel) ⟨Nat.le_of_ble_eq_true rfl, Nat.le_of_ble_eq_true rfl⟩) ⟨fun _ _ _ _ q => q, fun U hU hW => ⟨rfl, trivial⟩⟩ rfl rfl hl.1 rfl (lv_room (Nat.le_of_ble_eq_true rfl)) dX11_when_16 ⟨Nat.zero_le _, Nat.zero_le _⟩) (fun r hr9 => ?_)
    subst hr9
    refine lv_if_eq (tgt := 41) hx hb dX11_when_19 (by decide) (fun c2 => ?_) (fun c2 => ?_)
    · replace c2 := bo_f c2
      refine lv_iconst (v := (-1)) hx hb dX11_when_41 (by decide) ?_
      exact W.iret (v := (-1)) hx hb hr (fun t ht hW => ⟨(-1), rfl, by unfold s_X11_when; rw [if_pos c1, if_neg c2], ht⟩) (fun _ h => by cases h) dX11_when_42
    · replace c2 := bo_t c2
      refine lv_iload_n hx hb dX11_when_22 rfl (lv_at hl 3 rfl) ?_
      refine vp_callSi (W.runS (As := [.int p2]) (rest := []) ⟨hx, hb, hml, hown, hts⟩ (c_X11_isDay l p2) (va_cwS 1 hts gX11_when_X11_isDay rfl rfl rfl (by decide +kernel) ⟨Nat.le_of_ble_eq_true rfl, Nat.le_of_ble_eq_true rfl⟩) ⟨fun _ _ _ _ q => q, fun U hU hW => ⟨rfl, trivial⟩⟩ rfl rfl hl.1 rfl (lv_room (Nat.le_of_ble_eq_true rfl)) dX11_when_23 ⟨Nat.zero_le _, Nat.zero_le _⟩) (fun r hr9 => ?_)
      subst hr9
      refine lv_if_eq (tgt := 41) hx hb dX11_when_26 (by decide) (fun c3 => ?_) (fun c3 => ?_)
      · replace c3 := bo_f c3
        refine lv_iconst (v := (-1)) hx hb dX11_when_41 (by decide) ?_
        exact W.iret (v := (-1)) hx hb hr (fun t ht hW => ⟨(-1), rfl, by unfold s_X11_when; rw [if_pos c1, if_pos c2, if_neg c3], ht⟩) (fun _ h => by cases h) dX11_when_42
      · replace c3 := bo_t c3
        refine lv_aload_n hx hb dX11_when_29 rfl (lv_at hl 0 rfl) ?_
        refine lv_iload_n hx hb dX11_when_30 rfl (lv_at hl 1 rfl) ?_
        refine lv_iload_n hx hb dX11_when_31 rfl (lv_at hl 2 rfl) ?_
        refine lv_iload_n hx hb dX11_when_32 rfl (lv_at hl 3 rfl) ?_
        refine lv_iload hx hb dX11_when_33 (lv_at hl 4 rfl) ?_
        refine vp_callSi (W.runV (As := [.int p0, .int p1, .int p2, .int p3]) (rest := []) ⟨hx, hb, hml, hown, hts⟩ (c_X11_whenOf l dC dI h a cI cB cZ F M p0 p1 p2 p3 hI (ib_cn c1 (iv_7 hI) (by decide)) (ib_cn c2 (iv_21 hI) (by decide))) (cwV 4 hts gX11_when_X11_whenOf rfl rfl rfl (by decide +kernel) ⟨Nat.le_of_ble_eq_true rfl, Nat.le_of_ble_eq_true rfl⟩) ⟨pm_blind, va_recv hK hP (ci := 10) (q0 := 0) rfl rfl, fun U hU hW => ⟨rfl, by rw [hU]; exact hP, va_K.moved hW.alike hK⟩⟩ rfl rfl hl.1 rfl (lv_room (Nat.le_of_ble_eq_true rfl)) dX11_when_35 ⟨Nat.zero_le _, Nat.zero_le _⟩) (fun r hr9 => ?_)
        subst hr9
        refine lv_goto (tgt := 42) hx hb dX11_when_38 (by decide) ?_
        exact W.iret (v := s_X11_whenOf F M p0 p1 p2 p3) hx hb hr (fun t ht hW => ⟨s_X11_whenOf F M p0 p1 p2 p3, rfl, by unfold s_X11_when; rw [if_pos c1, if_pos c2, if_pos c3], ht⟩) (fun _ h => by cases h) dX11_when_42

def L_first1 (F : Nat → Int32) (M : Nat → Nat → Int32) (p0 : Int32) (p1 : Int32) (p2 : Int32) : Nat → Int32
  | 0 => (-9)
  | i1 + 1 =>
    if ((((M 10) i1) >>> (p0 &&& 31)) &&& 1) = 1 then (if (s_X11_whenOf F M (nI i1) (s_X11_inForce22 F M (F 21) p1) p2 1) = (-9) then (L_first1 F M p0 p1 p2 i1) else
      if (L_first1 F M p0 p1 p2 i1) = (-9) then s_X11_whenOf F M (nI i1) (s_X11_inForce22 F M (F 21) p1) p2 1 else
      if (L_first1 F M p0 p1 p2 i1) ≤ (s_X11_whenOf F M (nI i1) (s_X11_inForce22 F M (F 21) p1) p2 1) then (L_first1 F M p0 p1 p2 i1) else
      s_X11_whenOf F M (nI i1) (s_X11_inForce22 F M (F 21) p1) p2 1) else
    (L_first1 F M p0 p1 p2 i1)
def L_first2 (F : Nat → Int32) (M : Nat → Nat → Int32) (p0 : Int32) (p1 : Int32) (p2 : Int32) : Nat → Int32
  | 0 => 0
  | i1 + 1 =>
    if ((((M 10) i1) >>> (p0 &&& 31)) &&& 1) = 1 then (if (s_X11_whenOf F M (nI i1) (s_X11_inForce22 F M (F 21) p1) p2 0) = (-9) then (L_first2 F M p0 p1 p2 i1) ||| 0 else
      if (L_first1 F M p0 p1 p2 (F 7).toNatClampNeg) < (s_X11_whenOf F M (nI i1) (s_X11_inForce22 F M (F 21) p1) p2 0) then (L_first2 F M p0 p1 p2 i1) ||| 0 else
      (L_first2 F M p0 p1 p2 i1) ||| (1 <<< ((nI i1) &&& 31))) else
    (L_first2 F M p0 p1 p2 i1) ||| 0
def s_X11_first (F : Nat → Int32) (M : Nat → Nat → Int32) (p0 : Int32) (p1 : Int32) (p2 : Int32) : Int32 × ((Nat → Int32) × (Nat → Nat → Int32)) :=
  if 0 ≤ p0 ∧ p0 ≤ 15 then (if 0 ≤ p1 ∧ p1 ≤ 30000 then (if 0 ≤ p2 ∧ p2 ≤ 30000 then (if (s_X11_inForce22 F M (F 21) p1) = (-9) then ((-4), (F, M)) else
        (s_X11_bitsOf (L_first2 F M p0 p1 p2 (F 7).toNatClampNeg), (va_up F 2 (L_first2 F M p0 p1 p2 (F 7).toNatClampNeg), M))) else
      ((-1), (F, M))) else
    ((-1), (F, M))) else
  ((-1), (F, M))
set_option maxHeartbeats 4000000 in
set_option maxRecDepth 100000 in
theorem c_X11_first (l : Launch) (dC : Nat → ClassId) (dI : Nat → Nat → Nat) (h : Nat) (a : Nat → Nat) (cI cB cZ : ClassId) (F : Nat → Int32) (M : Nat → Nat → Int32) (p0 : Int32) (p1 : Int32) (p2 : Int32) (A : Nat → Prop) (hD : va_D A (wM h a cI cB cZ F M)) (hI : iv F M) : Met l yX11_first wsX11_first ({ frames := 2, cells := 0, slots := 0, locals := 50 } : Room) (va_Pc [.ref h, .int p0, .int p1, .int p2] (pM dC dI h a cI cB cZ F M)) (va_Qi (fun r u => (r, u) = s_X11_first F M p0 p1 p2) (qM A dC dI h a cI cB cZ) A) 0 0 A := by
  refine Met.ofW (cc := cX11_first) (maxL := 9) (ret := (some .int)) (by decide) rfl ?_
  intro p e s m args below meth c s₁ B hml hv
  obtain ⟨rfl, hP, hK⟩ := hv
  have hx := B.exec
  have hb := B.bytes
  have hr := B.returns
  have hts := atoms_spec (ws := wsX11_first) B.pre
  have hown : s.vm.findClass RX11 = some m.cls := findClass_of_methodNamed B.named
  have hlocks := B.notSynchronized
  have hin : ∀ w ∈ wsX110, w ∈ wsX11_first := by decide +kernel
  have hS : va_S A s.heap s.heap [] := va_S.rf
  have hl := lv_entry ([.ref h, .int p0, .int p1, .int p2]) (n := 9) (Nat.le_of_ble_eq_true rfl)
  rw [lg_entry_eq]
  generalize (lg_sl ([.ref h, .int p0, .int p1, .int p2]) ++ List.replicate (9 - (lg_sl ([.ref h, .int p0, .int p1, .int p2])).length) Slot.unset).toArray = ls at hl ⊢
  have hl : lv_has ls 9 [(0, .ref h), (1, .int p0), (2, .int p1), (3, .int p2)] := hl
  have hn7 : (F 7).toNatClampNeg ≤ 24 := lb_le (iv_7 hI) (by decide)
  have hn21 : (F 21).toNatClampNeg ≤ 12 := lb_le (iv_21 hI) (by decide)
  refine lv_iload_n hx hb dX11_first_0 rfl (lv_at hl 1 rfl) ?_
  refine lv_iconst (v := 0) hx hb dX11_first_1 (by decide) ?_
  refine lv_bipush (v := 15) hx hb dX11_first_2 (by decide) ?_
  refine vp_callSi (W.runS (As := [.int p0, .int 0, .int 15]) (rest := []) ⟨hx, hb, hml, hown, hts⟩ (c_X11_in l p0 0 15) (va_cwS 3 hts gX11_first_X11_in rfl rfl rfl (by decide +kernel) ⟨Nat.le_of_ble_eq_true rfl, Nat.le_of_ble_eq_true rfl⟩) ⟨fun _ _ _ _ q => q, fun U hU hW => ⟨rfl, trivial⟩⟩ rfl rfl hl.1 rfl (lv_room (Nat.le_of_ble_eq_true rfl)) dX11_first_4 ⟨Nat.zero_le _, Nat.zero_le _⟩) (fun r hr9 => ?_)
  subst hr9
  refine lv_if_eq (tgt := 24) hx hb dX11_first_7 (by decide) (fun c1 => ?_) (fun c1 => ?_)
  · replace c1 := bo_f c1
    refine lv_iconst (v := (-1)) hx hb dX11_first_24 (by decide) ?_
    exact W.iret (v := (-1)) hx hb hr (fun t ht hW => ⟨⟨(-1), (F, M), rfl, by unfold s_X11_first; rw [if_neg c1], ⟨by rw [ht]; exact hP, va_K.moved hW.alike hK⟩, hD⟩, hS.F ht⟩) hS.2.2 dX11_first_25
  · replace c1 := bo_t c1
    refine lv_iload_n hx hb dX11_first_10 rfl (lv_at hl 2 rfl) ?_
    refine vp_callSi (W.runS (As := [.int p1]) (rest := []) ⟨hx, hb, hml, hown, hts⟩ (c_X11_isDay l p1) (va_cwS 1 hts gX11_first_X11_isDay rfl rfl rfl (by decide +kernel) ⟨Nat.le_of_ble_eq_true rfl, Nat.le_of_ble_eq_true rfl⟩) ⟨fun _ _ _ _ q => q, fun U hU hW => ⟨rfl, trivial⟩⟩ rfl rfl hl.1 rfl (lv_room (Nat.le_of_ble_eq_true rfl)) dX11_first_11 ⟨Nat.zero_le _, Nat.zero_le _⟩) (fun r hr9 => ?_)
    subst hr9
    refine lv_if_eq (tgt := 24) hx hb dX11_first_14 (by decide) (fun c2 => ?_) (fun c2 => ?_)
    · replace c2 := bo_f c2
      refine lv_iconst (v := (-1)) hx hb dX11_first_24 (by decide) ?_
      exact W.iret (v := (-1)) hx hb hr (fun t ht hW => ⟨⟨(-1), (F, M), rfl, by unfold s_X11_first; rw [if_pos c1, if_neg c2], ⟨by rw [ht]; exact hP, va_K.moved hW.alike hK⟩, hD⟩, hS.F ht⟩) hS.2.2 dX11_first_25
    · replace c2 := bo_t c2
      refine lv_iload_n hx hb dX11_first_17 rfl (lv_at hl 3 rfl) ?_
      refine vp_callSi (W.runS (As := [.int p2]) (rest := []) ⟨hx, hb, hml, hown, hts⟩ (c_X11_isDay l p2) (va_cwS 1 hts gX11_first_X11_isDay rfl rfl rfl (by decide +kernel) ⟨Nat.le_of_ble_eq_true rfl, Nat.le_of_ble_eq_true rfl⟩) ⟨fun _ _ _ _ q => q, fun U hU hW => ⟨rfl, trivial⟩⟩ rfl rfl hl.1 rfl (lv_room (Nat.le_of_ble_eq_true rfl)) dX11_first_18 ⟨Nat.zero_le _, Nat.zero_le _⟩) (fun r hr9 => ?_)
      subst hr9
      refine lv_if_ne (tgt := 26) hx hb dX11_first_21 (by decide) (fun c3 => ?_) (fun c3 => ?_)
      · replace c3 := bo_t c3
        refine lv_aload_n hx hb dX11_first_26 rfl (lv_at hl 0 rfl) ?_
        refine va_get (D := (dC, dI)) (ci := 10) (v := .ref (a 22)) (C := RX11) (T := TX11) (N := 49) hx hb hts hin hown hK hP 0 rfl rfl 22 (by decide) (hts (.fieldLink RX11 55 "SocietyBookModel" "statuteDay" "[I") (by decide +kernel)) (fun _ h9 => h9) rfl dX11_first_27 ?_
        refine lv_aload_n hx hb dX11_first_30 rfl (lv_at hl 0 rfl) ?_
        refine va_get (D := (dC, dI)) (ci := 10) (v := .int (F 21)) (C := RX11) (T := TX11) (N := 49) hx hb hts hin hown hK hP 0 rfl rfl 21 (by decide) (hts (.fieldLink RX11 181 "SocietyBookModel" "statutes" "I") (by decide +kernel)) (fun _ h9 => h9) rfl dX11_first_31 ?_
        refine lv_iload_n hx hb dX11_first_34 rfl (lv_at hl 2 rfl) ?_
        refine vp_callSi (W.runS (As := [.ref (a 22), .int (F 21), .int p1]) (rest := []) ⟨hx, hb, hml, hown, hts⟩ (c_X11_inForce22 l dC dI h a cI cB cZ F M (F 21) p1 (iv_21 hI)) (va_cwS 3 hts gX11_first_X11_inForce rfl rfl rfl (by decide +kernel) ⟨Nat.le_of_ble_eq_true rfl, Nat.le_of_ble_eq_true rfl⟩) ⟨pm_blind, fun U hU hW => ⟨rfl, by rw [hU]; exact hP, va_K.moved hW.alike hK⟩⟩ rfl rfl hl.1 rfl (lv_room (Nat.le_of_ble_eq_true rfl)) dX11_first_35 ⟨Nat.zero_le _, Nat.zero_le _⟩) (fun r hr9 => ?_)
        subst hr9
        refine lv_istore (lv' := [(4, .int (s_X11_inForce22 F M (F 21) p1)), (0, .ref h), (1, .int p0), (2, .int p1), (3, .int p2)]) hx hb dX11_first_38 hl (by decide) rfl (fun ls hl => ?_)
        refine lv_iload hx hb dX11_first_40 (lv_at hl 0 rfl) ?_
        refine lv_bipush (v := (-9)) hx hb dX11_first_42 (by decide) ?_
        refine lv_icmp_ne (tgt := 50) hx hb dX11_first_44 (by decide) (fun c4 => ?_) (fun c4 => ?_)
        · refine lv_bipush (v := (-9)) hx hb dX11_first_50 (by decide) ?_
          refine lv_istore (lv' := [(5, .int (-9)), (4, .int (s_X11_inForce22 F M (F 21) p1)), (0, .ref h), (1, .int p0), (2, .int p1), (3, .int p2)]) hx hb dX11_first_52 hl (by decide) rfl (fun ls hl => ?_)
          refine lv_iconst (v := 0) hx hb dX11_first_54 (by decide) ?_
          refine lv_istore (lv' := [(6, .int 0), (5, .int (-9)), (4, .int (s_X11_inForce22 F M (F 21) p1)), (0, .ref h), (1, .int p0), (2, .int p1), (3, .int p2)]) hx hb dX11_first_55 hl (by decide) rfl (fun ls hl => ?_)
          refine lp_for (N := (F 7).toNatClampNeg) (lv := fun i1 => [(6, .int (nI i1)), (5, .int (L_first1 F M p0 p1 p2 i1)), (4, .int (s_X11_inForce22 F M (F 21) p1)), (0, .ref h), (1, .int p0), (2, .int p1), (3, .int p2)]) (lv_sub hl [0, 1, 2, 3, 4, 5, 6] rfl) (fun i1 hi1 ls hl kk1 => ?_) (fun ls hl => ?_)
          · replace hl : lv_has ls 9 [(6, .int (nI i1)), (5, .int (L_first1 F M p0 p1 p2 i1)), (4, .int (s_X11_inForce22 F M (F 21) p1)), (0, .ref h), (1, .int p0), (2, .int p1), (3, .int p2)] := hl
            refine lv_iload hx hb dX11_first_57 (lv_at hl 0 rfl) ?_
            refine lv_aload_n hx hb dX11_first_59 rfl (lv_at hl 3 rfl) ?_
            refine va_get (D := (dC, dI)) (ci := 10) (v := .int (F 7)) (C := RX11) (T := TX11) (N := 49) hx hb hts hin hown hK hP 0 rfl rfl 7 (by decide) (hts (.fieldLink RX11 146 "SocietyBookModel" "papers" "I") (by decide +kernel)) (fun _ h9 => h9) rfl dX11_first_60 ?_
            refine lv_icmp_ge (tgt := 133) hx hb dX11_first_63 (by decide) (fun c => absurd c (lb_nc hi1)) (fun _ => ?_)
            refine lv_aload_n hx hb dX11_first_66 rfl (lv_at hl 3 rfl) ?_
            refine va_get (D := (dC, dI)) (ci := 10) (v := .ref (a 10)) (C := RX11) (T := TX11) (N := 49) hx hb hts hin hown hK hP 0 rfl rfl 10 (by decide) (hts (.fieldLink RX11 25 "SocietyBookModel" "claimsOf" "[I") (by decide +kernel)) (fun _ h9 => h9) rfl dX11_first_67 ?_
            refine lv_iload hx hb dX11_first_70 (lv_at hl 0 rfl) ?_
            refine va_iald (f := M 10) hx hb hK hP 6 0 rfl rfl (vp_in_nI (show i1 < 24 by omega) (by decide)) dX11_first_72 ?_
            rw [nI_clamp (show i1 < 2 ^ 31 by omega)]
            refine lv_iload_n hx hb dX11_first_73 rfl (lv_at hl 4 rfl) ?_
            refine vp_callSi (W.runS (As := [.int ((M 10) i1), .int p0]) (rest := []) ⟨hx, hb, hml, hown, hts⟩ (c_X11_has l ((M 10) i1) p0) (va_cwS 2 hts gX11_first_X11_has rfl rfl rfl (by decide +kernel) ⟨Nat.le_of_ble_eq_true rfl, Nat.le_of_ble_eq_true rfl⟩) ⟨fun _ _ _ _ q => q, fun U hU hW => ⟨rfl, trivial⟩⟩ rfl rfl hl.1 rfl (lv_room (Nat.le_of_ble_eq_true rfl)) dX11_first_74 ⟨Nat.zero_le _, Nat.zero_le _⟩) (fun r hr9 => ?_)
            subst hr9
            refine lv_if_eq (tgt := 93) hx hb dX11_first_77 (by decide) (fun c5 => ?_) (fun c5 => ?_)
            · replace c5 := bo_f c5
              refine lv_bipush (v := (-9)) hx hb dX11_first_93 (by decide) ?_
              refine lv_istore (lv' := [(7, .int (-9)), (6, .int (nI i1)), (5, .int (L_first1 F M p0 p1 p2 i1)), (4, .int (s_X11_inForce22 F M (F 21) p1)), (0, .ref h), (1, .int p0), (2, .int p1), (3, .int p2)]) hx hb dX11_first_95 hl (by decide) rfl (fun ls hl => ?_)
              refine lv_iload hx hb dX11_first_97 (lv_at hl 0 rfl) ?_
              refine lv_bipush (v := (-9)) hx hb dX11_first_99 (by decide) ?_
              refine lv_icmp_eq (tgt := 123) hx hb dX11_first_101 (by decide) (fun _ => ?_) (fun c => absurd c (by decide))
              refine lv_iload hx hb dX11_first_123 (lv_at hl 2 rfl) ?_
              refine lv_istore (lv' := [(5, .int (L_first1 F M p0 p1 p2 i1)), (7, .int (-9)), (6, .int (nI i1)), (4, .int (s_X11_inForce22 F M (F 21) p1)), (0, .ref h), (1, .int p0), (2, .int p1), (3, .int p2)]) hx hb dX11_first_125 hl (by decide) rfl (fun ls hl => ?_)
              refine lv_iinc (v := nI (i1 + 1)) (lv' := [(6, .int (nI (i1 + 1))), (5, .int (L_first1 F M p0 p1 p2 i1)), (7, .int (-9)), (4, .int (s_X11_inForce22 F M (F 21) p1)), (0, .ref h), (1, .int p0), (2, .int p1), (3, .int p2)]) hx hb dX11_first_127 hl (k := 2) rfl (nI_1 i1) (by decide) rfl (fun ls hl => ?_)
              refine lv_goto (tgt := 57) hx hb dX11_first_130 (by decide) ?_
              have e9 : L_first1 F M p0 p1 p2 (i1 + 1) = (L_first1 F M p0 p1 p2 i1) := by rw [L_first1]; rw [if_neg c5]
              refine kk1 ls (show lv_has ls 9 [(6, .int (nI (i1 + 1))), (5, .int (L_first1 F M p0 p1 p2 (i1 + 1))), (4, .int (s_X11_inForce22 F M (F 21) p1)), (0, .ref h), (1, .int p0), (2, .int p1), (3, .int p2)] from ?_)
              rw [e9]; exact lv_sub hl [0, 1, 3, 4, 5, 6, 7] rfl
            · replace c5 := bo_t c5
              refine lv_aload_n hx hb dX11_first_80 rfl (lv_at hl 3 rfl) ?_
              refine lv_iload hx hb dX11_first_81 (lv_at hl 0 rfl) ?_
              refine lv_iload hx hb dX11_first_83 (lv_at hl 2 rfl) ?_
              refine lv_iload_n hx hb dX11_first_85 rfl (lv_at hl 6 rfl) ?_
              refine lv_iconst (v := 1) hx hb dX11_first_86 (by decide) ?_
              refine vp_callSi (W.runV (As := [.int (nI i1), .int (s_X11_inForce22 F M (F 21) p1), .int p2, .int 1]) (rest := []) ⟨hx, hb, hml, hown, hts⟩ (c_X11_whenOf l dC dI h a cI cB cZ F M (nI i1) (s_X11_inForce22 F M (F 21) p1) p2 1 hI (vp_in_nI (show i1 < 24 by omega) (by decide)) (ib_inF (l_inForce22 F M (F 21) p1 (F 21).toNatClampNeg (by omega)) c4 ⟨by omega, by decide⟩)) (cwV 4 hts gX11_first_X11_whenOf rfl rfl rfl (by decide +kernel) ⟨Nat.le_of_ble_eq_true rfl, Nat.le_of_ble_eq_true rfl⟩) ⟨pm_blind, va_recv hK hP (ci := 10) (q0 := 0) rfl rfl, fun U hU hW => ⟨rfl, by rw [hU]; exact hP, va_K.moved hW.alike hK⟩⟩ rfl rfl hl.1 rfl (lv_room (Nat.le_of_ble_eq_true rfl)) dX11_first_87 ⟨Nat.zero_le _, Nat.zero_le _⟩) (fun r hr9 => ?_)
              subst hr9
              refine lv_goto (tgt := 95) hx hb dX11_first_90 (by decide) ?_
              refine lv_istore (lv' := [(7, .int (s_X11_whenOf F M (nI i1) (s_X11_inForce22 F M (F 21) p1) p2 1)), (6, .int (nI i1)), (5, .int (L_first1 F M p0 p1 p2 i1)), (4, .int (s_X11_inForce22 F M (F 21) p1)), (0, .ref h), (1, .int p0), (2, .int p1), (3, .int p2)]) hx hb dX11_first_95 hl (by decide) rfl (fun ls hl => ?_)
              refine lv_iload hx hb dX11_first_97 (lv_at hl 0 rfl) ?_
              refine lv_bipush (v := (-9)) hx hb dX11_first_99 (by decide) ?_
              refine lv_icmp_eq (tgt := 123) hx hb dX11_first_101 (by decide) (fun c6 => ?_) (fun c6 => ?_)
              · refine lv_iload hx hb dX11_first_123 (lv_at hl 2 rfl) ?_
                refine lv_istore (lv' := [(5, .int (L_first1 F M p0 p1 p2 i1)), (7, .int (s_X11_whenOf F M (nI i1) (s_X11_inForce22 F M (F 21) p1) p2 1)), (6, .int (nI i1)), (4, .int (s_X11_inForce22 F M (F 21) p1)), (0, .ref h), (1, .int p0), (2, .int p1), (3, .int p2)]) hx hb dX11_first_125 hl (by decide) rfl (fun ls hl => ?_)
                refine lv_iinc (v := nI (i1 + 1)) (lv' := [(6, .int (nI (i1 + 1))), (5, .int (L_first1 F M p0 p1 p2 i1)), (7, .int (s_X11_whenOf F M (nI i1) (s_X11_inForce22 F M (F 21) p1) p2 1)), (4, .int (s_X11_inForce22 F M (F 21) p1)), (0, .ref h), (1, .int p0), (2, .int p1), (3, .int p2)]) hx hb dX11_first_127 hl (k := 2) rfl (nI_1 i1) (by decide) rfl (fun ls hl => ?_)
                refine lv_goto (tgt := 57) hx hb dX11_first_130 (by decide) ?_
                have e9 : L_first1 F M p0 p1 p2 (i1 + 1) = (L_first1 F M p0 p1 p2 i1) := by rw [L_first1]; rw [if_pos c5, if_pos c6]
                refine kk1 ls (show lv_has ls 9 [(6, .int (nI (i1 + 1))), (5, .int (L_first1 F M p0 p1 p2 (i1 + 1))), (4, .int (s_X11_inForce22 F M (F 21) p1)), (0, .ref h), (1, .int p0), (2, .int p1), (3, .int p2)] from ?_)
                rw [e9]; exact lv_sub hl [0, 1, 3, 4, 5, 6, 7] rfl
              · refine lv_iload hx hb dX11_first_104 (lv_at hl 2 rfl) ?_
                refine lv_bipush (v := (-9)) hx hb dX11_first_106 (by decide) ?_
                refine lv_icmp_eq (tgt := 118) hx hb dX11_first_108 (by decide) (fun c7 => ?_) (fun c7 => ?_)
                · refine lv_iload hx hb dX11_first_118 (lv_at hl 0 rfl) ?_
                  refine lv_goto (tgt := 125) hx hb dX11_first_120 (by decide) ?_
                  refine lv_istore (lv' := [(5, .int (s_X11_whenOf F M (nI i1) (s_X11_inForce22 F M (F 21) p1) p2 1)), (7, .int (s_X11_whenOf F M (nI i1) (s_X11_inForce22 F M (F 21) p1) p2 1)), (6, .int (nI i1)), (4, .int (s_X11_inForce22 F M (F 21) p1)), (0, .ref h), (1, .int p0), (2, .int p1), (3, .int p2)]) hx hb dX11_first_125 hl (by decide) rfl (fun ls hl => ?_)
                  refine lv_iinc (v := nI (i1 + 1)) (lv' := [(6, .int (nI (i1 + 1))), (5, .int (s_X11_whenOf F M (nI i1) (s_X11_inForce22 F M (F 21) p1) p2 1)), (7, .int (s_X11_whenOf F M (nI i1) (s_X11_inForce22 F M (F 21) p1) p2 1)), (4, .int (s_X11_inForce22 F M (F 21) p1)), (0, .ref h), (1, .int p0), (2, .int p1), (3, .int p2)]) hx hb dX11_first_127 hl (k := 2) rfl (nI_1 i1) (by decide) rfl (fun ls hl => ?_)
                  refine lv_goto (tgt := 57) hx hb dX11_first_130 (by decide) ?_
                  have e9 : L_first1 F M p0 p1 p2 (i1 + 1) = s_X11_whenOf F M (nI i1) (s_X11_inForce22 F M (F 21) p1) p2 1 := by rw [L_first1]; rw [if_pos c5, if_neg c6, if_pos c7]
                  refine kk1 ls (show lv_has ls 9 [(6, .int (nI (i1 + 1))), (5, .int (L_first1 F M p0 p1 p2 (i1 + 1))), (4, .int (s_X11_inForce22 F M (F 21) p1)), (0, .ref h), (1, .int p0), (2, .int p1), (3, .int p2)] from ?_)
                  rw [e9]; exact lv_sub hl [0, 1, 3, 4, 5, 6, 7] rfl
                · refine lv_iload hx hb dX11_first_111 (lv_at hl 0 rfl) ?_
                  refine lv_iload hx hb dX11_first_113 (lv_at hl 2 rfl) ?_
                  refine lv_icmp_ge (tgt := 123) hx hb dX11_first_115 (by decide) (fun c8 => ?_) (fun c8 => ?_)
                  · refine lv_iload hx hb dX11_first_123 (lv_at hl 2 rfl) ?_
                    refine lv_istore (lv' := [(5, .int (L_first1 F M p0 p1 p2 i1)), (7, .int (s_X11_whenOf F M (nI i1) (s_X11_inForce22 F M (F 21) p1) p2 1)), (6, .int (nI i1)), (4, .int (s_X11_inForce22 F M (F 21) p1)), (0, .ref h), (1, .int p0), (2, .int p1), (3, .int p2)]) hx hb dX11_first_125 hl (by decide) rfl (fun ls hl => ?_)
                    refine lv_iinc (v := nI (i1 + 1)) (lv' := [(6, .int (nI (i1 + 1))), (5, .int (L_first1 F M p0 p1 p2 i1)), (7, .int (s_X11_whenOf F M (nI i1) (s_X11_inForce22 F M (F 21) p1) p2 1)), (4, .int (s_X11_inForce22 F M (F 21) p1)), (0, .ref h), (1, .int p0), (2, .int p1), (3, .int p2)]) hx hb dX11_first_127 hl (k := 2) rfl (nI_1 i1) (by decide) rfl (fun ls hl => ?_)
                    refine lv_goto (tgt := 57) hx hb dX11_first_130 (by decide) ?_
                    have e9 : L_first1 F M p0 p1 p2 (i1 + 1) = (L_first1 F M p0 p1 p2 i1) := by rw [L_first1]; rw [if_pos c5, if_neg c6, if_neg c7, if_pos c8]
                    refine kk1 ls (show lv_has ls 9 [(6, .int (nI (i1 + 1))), (5, .int (L_first1 F M p0 p1 p2 (i1 + 1))), (4, .int (s_X11_inForce22 F M (F 21) p1)), (0, .ref h), (1, .int p0), (2, .int p1), (3, .int p2)] from ?_)
                    rw [e9]; exact lv_sub hl [0, 1, 3, 4, 5, 6, 7] rfl
                  · refine lv_iload hx hb dX11_first_118 (lv_at hl 0 rfl) ?_
                    refine lv_goto (tgt := 125) hx hb dX11_first_120 (by decide) ?_
                    refine lv_istore (lv' := [(5, .int (s_X11_whenOf F M (nI i1) (s_X11_inForce22 F M (F 21) p1) p2 1)), (7, .int (s_X11_whenOf F M (nI i1) (s_X11_inForce22 F M (F 21) p1) p2 1)), (6, .int (nI i1)), (4, .int (s_X11_inForce22 F M (F 21) p1)), (0, .ref h), (1, .int p0), (2, .int p1), (3, .int p2)]) hx hb dX11_first_125 hl (by decide) rfl (fun ls hl => ?_)
                    refine lv_iinc (v := nI (i1 + 1)) (lv' := [(6, .int (nI (i1 + 1))), (5, .int (s_X11_whenOf F M (nI i1) (s_X11_inForce22 F M (F 21) p1) p2 1)), (7, .int (s_X11_whenOf F M (nI i1) (s_X11_inForce22 F M (F 21) p1) p2 1)), (4, .int (s_X11_inForce22 F M (F 21) p1)), (0, .ref h), (1, .int p0), (2, .int p1), (3, .int p2)]) hx hb dX11_first_127 hl (k := 2) rfl (nI_1 i1) (by decide) rfl (fun ls hl => ?_)
                    refine lv_goto (tgt := 57) hx hb dX11_first_130 (by decide) ?_
                    have e9 : L_first1 F M p0 p1 p2 (i1 + 1) = s_X11_whenOf F M (nI i1) (s_X11_inForce22 F M (F 21) p1) p2 1 := by rw [L_first1]; rw [if_pos c5, if_neg c6, if_neg c7, if_neg c8]
                    refine kk1 ls (show lv_has ls 9 [(6, .int (nI (i1 + 1))), (5, .int (L_first1 F M p0 p1 p2 (i1 + 1))), (4, .int (s_X11_inForce22 F M (F 21) p1)), (0, .ref h), (1, .int p0), (2, .int p1), (3, .int p2)] from ?_)
                    rw [e9]; exact lv_sub hl [0, 1, 3, 4, 5, 6, 7] rfl
          · replace hl : lv_has ls 9 [(6, .int (nI (F 7).toNatClampNeg)), (5, .int (L_first1 F M p0 p1 p2 (F 7).toNatClampNeg)), (4, .int (s_X11_inForce22 F M (F 21) p1)), (0, .ref h), (1, .int p0), (2, .int p1), (3, .int p2)] := hl
            refine lv_iload hx hb dX11_first_57 (lv_at hl 0 rfl) ?_
            refine lv_aload_n hx hb dX11_first_59 rfl (lv_at hl 3 rfl) ?_
            refine va_get (D := (dC, dI)) (ci := 10) (v := .int (F 7)) (C := RX11) (T := TX11) (N := 49) hx hb hts hin hown hK hP 0 rfl rfl 7 (by decide) (hts (.fieldLink RX11 146 "SocietyBookModel" "papers" "I") (by decide +kernel)) (fun _ h9 => h9) rfl dX11_first_60 ?_
            refine lv_icmp_ge (tgt := 133) hx hb dX11_first_63 (by decide) (fun _ => ?_) (fun c => absurd lb_yc c)
            refine lv_iconst (v := 0) hx hb dX11_first_133 (by decide) ?_
            refine lv_istore (lv' := [(6, .int 0), (5, .int (L_first1 F M p0 p1 p2 (F 7).toNatClampNeg)), (4, .int (s_X11_inForce22 F M (F 21) p1)), (0, .ref h), (1, .int p0), (2, .int p1), (3, .int p2)]) hx hb dX11_first_134 hl (by decide) rfl (fun ls hl => ?_)
            refine lv_iconst (v := 0) hx hb dX11_first_136 (by decide) ?_
            refine lv_istore (lv' := [(7, .int 0), (6, .int 0), (5, .int (L_first1 F M p0 p1 p2 (F 7).toNatClampNeg)), (4, .int (s_X11_inForce22 F M (F 21) p1)), (0, .ref h), (1, .int p0), (2, .int p1), (3, .int p2)]) hx hb dX11_first_137 hl (by decide) rfl (fun ls hl => ?_)
            refine lp_for (N := (F 7).toNatClampNeg) (lv := fun i1 => [(7, .int (nI i1)), (6, .int (L_first2 F M p0 p1 p2 i1)), (5, .int (L_first1 F M p0 p1 p2 (F 7).toNatClampNeg)), (4, .int (s_X11_inForce22 F M (F 21) p1)), (0, .ref h), (1, .int p0), (2, .int p1), (3, .int p2)]) (lv_sub hl [0, 1, 2, 3, 4, 5, 6, 7] rfl) (fun i1 hi1 ls hl kk1 => ?_) (fun ls hl => ?_)
            · replace hl : lv_has ls 9 [(7, .int (nI i1)), (6, .int (L_first2 F M p0 p1 p2 i1)), (5, .int (L_first1 F M p0 p1 p2 (F 7).toNatClampNeg)), (4, .int (s_X11_inForce22 F M (F 21) p1)), (0, .ref h), (1, .int p0), (2, .int p1), (3, .int p2)] := hl
              refine lv_iload hx hb dX11_first_139 (lv_at hl 0 rfl) ?_
              refine lv_aload_n hx hb dX11_first_141 rfl (lv_at hl 4 rfl) ?_
              refine va_get (D := (dC, dI)) (ci := 10) (v := .int (F 7)) (C := RX11) (T := TX11) (N := 49) hx hb hts hin hown hK hP 0 rfl rfl 7 (by decide) (hts (.fieldLink RX11 146 "SocietyBookModel" "papers" "I") (by decide +kernel)) (fun _ h9 => h9) rfl dX11_first_142 ?_
              refine lv_icmp_ge (tgt := 212) hx hb dX11_first_145 (by decide) (fun c => absurd c (lb_nc hi1)) (fun _ => ?_)
              refine lv_aload_n hx hb dX11_first_148 rfl (lv_at hl 4 rfl) ?_
              refine va_get (D := (dC, dI)) (ci := 10) (v := .ref (a 10)) (C := RX11) (T := TX11) (N := 49) hx hb hts hin hown hK hP 0 rfl rfl 10 (by decide) (hts (.fieldLink RX11 25 "SocietyBookModel" "claimsOf" "[I") (by decide +kernel)) (fun _ h9 => h9) rfl dX11_first_149 ?_
              refine lv_iload hx hb dX11_first_152 (lv_at hl 0 rfl) ?_
              refine va_iald (f := M 10) hx hb hK hP 6 0 rfl rfl (vp_in_nI (show i1 < 24 by omega) (by decide)) dX11_first_154 ?_
              rw [nI_clamp (show i1 < 2 ^ 31 by omega)]
              refine lv_iload_n hx hb dX11_first_155 rfl (lv_at hl 5 rfl) ?_
              refine vp_callSi (W.runS (As := [.int ((M 10) i1), .int p0]) (rest := []) ⟨hx, hb, hml, hown, hts⟩ (c_X11_has l ((M 10) i1) p0) (va_cwS 2 hts gX11_first_X11_has rfl rfl rfl (by decide +kernel) ⟨Nat.le_of_ble_eq_true rfl, Nat.le_of_ble_eq_true rfl⟩) ⟨fun _ _ _ _ q => q, fun U hU hW => ⟨rfl, trivial⟩⟩ rfl rfl hl.1 rfl (lv_room (Nat.le_of_ble_eq_true rfl)) dX11_first_156 ⟨Nat.zero_le _, Nat.zero_le _⟩) (fun r hr9 => ?_)
              subst hr9
              refine lv_if_eq (tgt := 175) hx hb dX11_first_159 (by decide) (fun c9 => ?_) (fun c9 => ?_)
              · replace c9 := bo_f c9
                refine lv_bipush (v := (-9)) hx hb dX11_first_175 (by decide) ?_
                refine lv_istore (lv' := [(8, .int (-9)), (7, .int (nI i1)), (6, .int (L_first2 F M p0 p1 p2 i1)), (5, .int (L_first1 F M p0 p1 p2 (F 7).toNatClampNeg)), (4, .int (s_X11_inForce22 F M (F 21) p1)), (0, .ref h), (1, .int p0), (2, .int p1), (3, .int p2)]) hx hb dX11_first_177 hl (by decide) rfl (fun ls hl => ?_)
                refine lv_iload hx hb dX11_first_179 (lv_at hl 2 rfl) ?_
                refine lv_iload hx hb dX11_first_181 (lv_at hl 0 rfl) ?_
                refine lv_bipush (v := (-9)) hx hb dX11_first_183 (by decide) ?_
                refine lv_icmp_eq (tgt := 202) hx hb dX11_first_185 (by decide) (fun _ => ?_) (fun c => absurd c (by decide))
                refine lv_iconst (v := 0) hx hb dX11_first_202 (by decide) ?_
                refine lv_ior hx hb dX11_first_203 ?_
                refine lv_istore (lv' := [(6, .int ((L_first2 F M p0 p1 p2 i1) ||| 0)), (8, .int (-9)), (7, .int (nI i1)), (5, .int (L_first1 F M p0 p1 p2 (F 7).toNatClampNeg)), (4, .int (s_X11_inForce22 F M (F 21) p1)), (0, .ref h), (1, .int p0), (2, .int p1), (3, .int p2)]) hx hb dX11_first_204 hl (by decide) rfl (fun ls hl => ?_)
                refine lv_iinc (v := nI (i1 + 1)) (lv' := [(7, .int (nI (i1 + 1))), (6, .int ((L_first2 F M p0 p1 p2 i1) ||| 0)), (8, .int (-9)), (5, .int (L_first1 F M p0 p1 p2 (F 7).toNatClampNeg)), (4, .int (s_X11_inForce22 F M (F 21) p1)), (0, .ref h), (1, .int p0), (2, .int p1), (3, .int p2)]) hx hb dX11_first_206 hl (k := 2) rfl (nI_1 i1) (by decide) rfl (fun ls hl => ?_)
                refine lv_goto (tgt := 139) hx hb dX11_first_209 (by decide) ?_
                have e9 : L_first2 F M p0 p1 p2 (i1 + 1) = (L_first2 F M p0 p1 p2 i1) ||| 0 := by rw [L_first2]; rw [if_neg c9]
                refine kk1 ls (show lv_has ls 9 [(7, .int (nI (i1 + 1))), (6, .int (L_first2 F M p0 p1 p2 (i1 + 1))), (5, .int (L_first1 F M p0 p1 p2 (F 7).toNatClampNeg)), (4, .int (s_X11_inForce22 F M (F 21) p1)), (0, .ref h), (1, .int p0), (2, .int p1), (3, .int p2)] from ?_)
                rw [e9]; exact lv_sub hl [0, 1, 3, 4, 5, 6, 7, 8] rfl
              · replace c9 := bo_t c9
                refine lv_aload_n hx hb dX11_first_162 rfl (lv_at hl 4 rfl) ?_
                refine lv_iload hx hb dX11_first_163 (lv_at hl 0 rfl) ?_
                refine lv_iload hx hb dX11_first_165 (lv_at hl 3 rfl) ?_
                refine lv_iload_n hx hb dX11_first_167 rfl (lv_at hl 7 rfl) ?_
                refine lv_iconst (v := 0) hx hb dX11_first_168 (by decide) ?_
                refine vp_callSi (W.runV (As := [.int (nI i1), .int (s_X11_inForce22 F M (F 21) p1), .int p2, .int 0]) (rest := []) ⟨hx, hb, hml, hown, hts⟩ (c_X11_whenOf l dC dI h a cI cB cZ F M (nI i1) (s_X11_inForce22 F M (F 21) p1) p2 0 hI (vp_in_nI (show i1 < 24 by omega) (by decide)) (ib_inF (l_inForce22 F M (F 21) p1 (F 21).toNatClampNeg (by omega)) c4 ⟨by omega, by decide⟩)) (cwV 4 hts gX11_first_X11_whenOf rfl rfl rfl (by decide +kernel) ⟨Nat.le_of_ble_eq_true rfl, Nat.le_of_ble_eq_true rfl⟩) ⟨pm_blind, va_recv hK hP (ci := 10) (q0 := 0) rfl rfl, fun U hU hW => ⟨rfl, by rw [hU]; exact hP, va_K.moved hW.alike hK⟩⟩ rfl rfl hl.1 rfl (lv_room (Nat.le_of_ble_eq_true rfl)) dX11_first_169 ⟨Nat.zero_le _, Nat.zero_le _⟩) (fun r hr9 => ?_)
                subst hr9
                refine lv_goto (tgt := 177) hx hb dX11_first_172 (by decide) ?_
                refine lv_istore (lv' := [(8, .int (s_X11_whenOf F M (nI i1) (s_X11_inForce22 F M (F 21) p1) p2 0)), (7, .int (nI i1)), (6, .int (L_first2 F M p0 p1 p2 i1)), (5, .int (L_first1 F M p0 p1 p2 (F 7).toNatClampNeg)), (4, .int (s_X11_inForce22 F M (F 21) p1)), (0, .ref h), (1, .int p0), (2, .int p1), (3, .int p2)]) hx hb dX11_first_177 hl (by decide) rfl (fun ls hl => ?_)
                refine lv_iload hx hb dX11_first_179 (lv_at hl 2 rfl) ?_
                refine lv_iload hx hb dX11_first_181 (lv_at hl 0 rfl) ?_
                refine lv_bipush (v := (-9)) hx hb dX11_first_183 (by decide) ?_
                refine lv_icmp_eq (tgt := 202) hx hb dX11_first_185 (by decide) (fun c10 => ?_) (fun c10 => ?_)
                · refine lv_iconst (v := 0) hx hb dX11_first_202 (by decide) ?_
                  refine lv_ior hx hb dX11_first_203 ?_
                  refine lv_istore (lv' := [(6, .int ((L_first2 F M p0 p1 p2 i1) ||| 0)), (8, .int (s_X11_whenOf F M (nI i1) (s_X11_inForce22 F M (F 21) p1) p2 0)), (7, .int (nI i1)), (5, .int (L_first1 F M p0 p1 p2 (F 7).toNatClampNeg)), (4, .int (s_X11_inForce22 F M (F 21) p1)), (0, .ref h), (1, .int p0), (2, .int p1), (3, .int p2)]) hx hb dX11_first_204 hl (by decide) rfl (fun ls hl => ?_)
                  refine lv_iinc (v := nI (i1 + 1)) (lv' := [(7, .int (nI (i1 + 1))), (6, .int ((L_first2 F M p0 p1 p2 i1) ||| 0)), (8, .int (s_X11_whenOf F M (nI i1) (s_X11_inForce22 F M (F 21) p1) p2 0)), (5, .int (L_first1 F M p0 p1 p2 (F 7).toNatClampNeg)), (4, .int (s_X11_inForce22 F M (F 21) p1)), (0, .ref h), (1, .int p0), (2, .int p1), (3, .int p2)]) hx hb dX11_first_206 hl (k := 2) rfl (nI_1 i1) (by decide) rfl (fun ls hl => ?_)
                  refine lv_goto (tgt := 139) hx hb dX11_first_209 (by decide) ?_
                  have e9 : L_first2 F M p0 p1 p2 (i1 + 1) = (L_first2 F M p0 p1 p2 i1) ||| 0 := by rw [L_first2]; rw [if_pos c9, if_pos c10]
                  refine kk1 ls (show lv_has ls 9 [(7, .int (nI (i1 + 1))), (6, .int (L_first2 F M p0 p1 p2 (i1 + 1))), (5, .int (L_first1 F M p0 p1 p2 (F 7).toNatClampNeg)), (4, .int (s_X11_inForce22 F M (F 21) p1)), (0, .ref h), (1, .int p0), (2, .int p1), (3, .int p2)] from ?_)
                  rw [e9]; exact lv_sub hl [0, 1, 3, 4, 5, 6, 7, 8] rfl
                · refine lv_iload hx hb dX11_first_188 (lv_at hl 0 rfl) ?_
                  refine lv_iload hx hb dX11_first_190 (lv_at hl 3 rfl) ?_
                  refine lv_icmp_gt (tgt := 202) hx hb dX11_first_192 (by decide) (fun c11 => ?_) (fun c11 => ?_)
                  · refine lv_iconst (v := 0) hx hb dX11_first_202 (by decide) ?_
                    refine lv_ior hx hb dX11_first_203 ?_
                    refine lv_istore (lv' := [(6, .int ((L_first2 F M p0 p1 p2 i1) ||| 0)), (8, .int (s_X11_whenOf F M (nI i1) (s_X11_inForce22 F M (F 21) p1) p2 0)), (7, .int (nI i1)), (5, .int (L_first1 F M p0 p1 p2 (F 7).toNatClampNeg)), (4, .int (s_X11_inForce22 F M (F 21) p1)), (0, .ref h), (1, .int p0), (2, .int p1), (3, .int p2)]) hx hb dX11_first_204 hl (by decide) rfl (fun ls hl => ?_)
                    refine lv_iinc (v := nI (i1 + 1)) (lv' := [(7, .int (nI (i1 + 1))), (6, .int ((L_first2 F M p0 p1 p2 i1) ||| 0)), (8, .int (s_X11_whenOf F M (nI i1) (s_X11_inForce22 F M (F 21) p1) p2 0)), (5, .int (L_first1 F M p0 p1 p2 (F 7).toNatClampNeg)), (4, .int (s_X11_inForce22 F M (F 21) p1)), (0, .ref h), (1, .int p0), (2, .int p1), (3, .int p2)]) hx hb dX11_first_206 hl (k := 2) rfl (nI_1 i1) (by decide) rfl (fun ls hl => ?_)
                    refine lv_goto (tgt := 139) hx hb dX11_first_209 (by decide) ?_
                    have e9 : L_first2 F M p0 p1 p2 (i1 + 1) = (L_first2 F M p0 p1 p2 i1) ||| 0 := by rw [L_first2]; rw [if_pos c9, if_neg c10, if_pos c11]
                    refine kk1 ls (show lv_has ls 9 [(7, .int (nI (i1 + 1))), (6, .int (L_first2 F M p0 p1 p2 (i1 + 1))), (5, .int (L_first1 F M p0 p1 p2 (F 7).toNatClampNeg)), (4, .int (s_X11_inForce22 F M (F 21) p1)), (0, .ref h), (1, .int p0), (2, .int p1), (3, .int p2)] from ?_)
                    rw [e9]; exact lv_sub hl [0, 1, 3, 4, 5, 6, 7, 8] rfl
                  · refine lv_iconst (v := 1) hx hb dX11_first_195 (by decide) ?_
                    refine lv_iload hx hb dX11_first_196 (lv_at hl 1 rfl) ?_
                    refine lv_ishl hx hb dX11_first_198 ?_
                    refine lv_goto (tgt := 203) hx hb dX11_first_199 (by decide) ?_
                    refine lv_ior hx hb dX11_first_203 ?_
                    refine lv_istore (lv' := [(6, .int ((L_first2 F M p0 p1 p2 i1) ||| (1 <<< ((nI i1) &&& 31)))), (8, .int (s_X11_whenOf F M (nI i1) (s_X11_inForce22 F M (F 21) p1) p2 0)), (7, .int (nI i1)), (5, .int (L_first1 F M p0 p1 p2 (F 7).toNatClampNeg)), (4, .int (s_X11_inForce22 F M (F 21) p1)), (0, .ref h), (1, .int p0), (2, .int p1), (3, .int p2)]) hx hb dX11_first_204 hl (by decide) rfl (fun ls hl => ?_)
                    refine lv_iinc (v := nI (i1 + 1)) (lv' := [(7, .int (nI (i1 + 1))), (6, .int ((L_first2 F M p0 p1 p2 i1) ||| (1 <<< ((nI i1) &&& 31)))), (8, .int (s_X11_whenOf F M (nI i1) (s_X11_inForce22 F M (F 21) p1) p2 0)), (5, .int (L_first1 F M p0 p1 p2 (F 7).toNatClampNeg)), (4, .int (s_X11_inForce22 F M (F 21) p1)), (0, .ref h), (1, .int p0), (2, .int p1), (3, .int p2)]) hx hb dX11_first_206 hl (k := 2) rfl (nI_1 i1) (by decide) rfl (fun ls hl => ?_)
                    refine lv_goto (tgt := 139) hx hb dX11_first_209 (by decide) ?_
                    have e9 : L_first2 F M p0 p1 p2 (i1 + 1) = (L_first2 F M p0 p1 p2 i1) ||| (1 <<< ((nI i1) &&& 31)) := by rw [L_first2]; rw [if_pos c9, if_neg c10, if_neg c11]
                    refine kk1 ls (show lv_has ls 9 [(7, .int (nI (i1 + 1))), (6, .int (L_first2 F M p0 p1 p2 (i1 + 1))), (5, .int (L_first1 F M p0 p1 p2 (F 7).toNatClampNeg)), (4, .int (s_X11_inForce22 F M (F 21) p1)), (0, .ref h), (1, .int p0), (2, .int p1), (3, .int p2)] from ?_)
                    rw [e9]; exact lv_sub hl [0, 1, 3, 4, 5, 6, 7, 8] rfl
            · replace hl : lv_has ls 9 [(7, .int (nI (F 7).toNatClampNeg)), (6, .int (L_first2 F M p0 p1 p2 (F 7).toNatClampNeg)), (5, .int (L_first1 F M p0 p1 p2 (F 7).toNatClampNeg)), (4, .int (s_X11_inForce22 F M (F 21) p1)), (0, .ref h), (1, .int p0), (2, .int p1), (3, .int p2)] := hl
              refine lv_iload hx hb dX11_first_139 (lv_at hl 0 rfl) ?_
              refine lv_aload_n hx hb dX11_first_141 rfl (lv_at hl 4 rfl) ?_
              refine va_get (D := (dC, dI)) (ci := 10) (v := .int (F 7)) (C := RX11) (T := TX11) (N := 49) hx hb hts hin hown hK hP 0 rfl rfl 7 (by decide) (hts (.fieldLink RX11 146 "SocietyBookModel" "papers" "I") (by decide +kernel)) (fun _ h9 => h9) rfl dX11_first_142 ?_
              refine lv_icmp_ge (tgt := 212) hx hb dX11_first_145 (by decide) (fun _ => ?_) (fun c => absurd lb_yc c)
              refine lv_aload_n hx hb dX11_first_212 rfl (lv_at hl 4 rfl) ?_
              refine lv_iload hx hb dX11_first_213 (lv_at hl 1 rfl) ?_
              refine va_put (D := (dC, dI)) (ci := 10) (v := .int (L_first2 F M p0 p1 p2 (F 7).toNatClampNeg)) (ty := .int) (C := RX11) (T := TX11) (N := 49) hx hb hts hin tyX11 tyX11_ok nmX11 hown hK hP hD hS 0 rfl rfl 2 (by decide) (hts (.fieldLink RX11 137 "SocietyBookModel" "asked" "I") (by decide +kernel)) (fun _ h9 => h9) rfl (by decide +kernel) rfl rfl (Nat.le_of_ble_eq_true rfl) dX11_first_215 (fun H locs hP hD hS => ?_)
              replace hP : va_P (dC, dI) vwCl (wM h a cI cB cZ (va_up F 2 (L_first2 F M p0 p1 p2 (F 7).toNatClampNeg)) M) H := hP
              replace hD : va_D A (wM h a cI cB cZ (va_up F 2 (L_first2 F M p0 p1 p2 (F 7).toNatClampNeg)) M) := hD
              refine lv_iload hx hb dX11_first_218 (lv_at hl 1 rfl) ?_
              refine vp_callSi (W.runS (As := [.int (L_first2 F M p0 p1 p2 (F 7).toNatClampNeg)]) (rest := []) ⟨hx, hb, hml, hown, hts⟩ (c_X11_bitsOf l (L_first2 F M p0 p1 p2 (F 7).toNatClampNeg)) (va_cwS 1 hts gX11_first_X11_bitsOf rfl rfl rfl (by decide +kernel) ⟨Nat.le_of_ble_eq_true rfl, Nat.le_of_ble_eq_true rfl⟩) ⟨fun _ _ _ _ q => q, fun U hU hW => ⟨rfl, trivial⟩⟩ rfl rfl hl.1 rfl (lv_room (Nat.le_of_ble_eq_true rfl)) dX11_first_220 ⟨Nat.zero_le _, Nat.zero_le _⟩) (fun r hr9 => ?_)
              subst hr9
              exact W.iret (v := s_X11_bitsOf (L_first2 F M p0 p1 p2 (F 7).toNatClampNeg)) hx hb hr (fun t ht hW => ⟨⟨s_X11_bitsOf (L_first2 F M p0 p1 p2 (F 7).toNatClampNeg), (va_up F 2 (L_first2 F M p0 p1 p2 (F 7).toNatClampNeg), M), rfl, by unfold s_X11_first; rw [if_pos c1, if_pos c2, if_pos c3, if_neg c4], ⟨by rw [ht]; exact hP, va_K.moved hW.alike hK⟩, hD⟩, hS.F ht⟩) hS.2.2 dX11_first_223
        · refine lv_bipush (v := (-4)) hx hb dX11_first_47 (by decide) ?_
          exact W.iret (v := (-4)) hx hb hr (fun t ht hW => ⟨⟨(-4), (F, M), rfl, by unfold s_X11_first; rw [if_pos c1, if_pos c2, if_pos c3, if_pos c4], ⟨by rw [ht]; exact hP, va_K.moved hW.alike hK⟩, hD⟩, hS.F ht⟩) hS.2.2 dX11_first_49
      · replace c3 := bo_f c3
        refine lv_iconst (v := (-1)) hx hb dX11_first_24 (by decide) ?_
        exact W.iret (v := (-1)) hx hb hr (fun t ht hW => ⟨⟨(-1), (F, M), rfl, by unfold s_X11_first; rw [if_pos c1, if_pos c2, if_neg c3], ⟨by rw [ht]; exact hP, va_K.moved hW.alike hK⟩, hD⟩, hS.F ht⟩) hS.2.2 dX11_first_25

def L_mean (F : Nat → Int32) (M : Nat → Nat → Int32)  : Nat → Int32 × Int32
  | 0 => (0, 0)
  | i1 + 1 =>
    if (s_X11_lastOf F M (nI i1) 0 30000) = (-9) then (((L_mean F M i1).1) + 0, ((L_mean F M i1).2) + 0) else
    if (s_X11_lastOf F M (nI i1) 1 30000) = (-9) then (((L_mean F M i1).1) + 0, ((L_mean F M i1).2) + 0) else
    (((L_mean F M i1).1) + ((s_X11_lastOf F M (nI i1) 1 30000) - (s_X11_lastOf F M (nI i1) 0 30000)), ((L_mean F M i1).2) + 1)
def s_X11_mean (F : Nat → Int32) (M : Nat → Nat → Int32)  : Int32 × ((Nat → Int32) × (Nat → Nat → Int32)) :=
  if ((L_mean F M (F 7).toNatClampNeg).2) = 0 then ((s_X11_meets F M 4).1, ((s_X11_meets F M 4).2.1, (s_X11_meets F M 4).2.2)) else
  (((L_mean F M (F 7).toNatClampNeg).1) / ((L_mean F M (F 7).toNatClampNeg).2), (F, M))
set_option maxHeartbeats 4000000 in
set_option maxRecDepth 100000 in
theorem c_X11_mean (l : Launch) (dC : Nat → ClassId) (dI : Nat → Nat → Nat) (h : Nat) (a : Nat → Nat) (cI cB cZ : ClassId) (F : Nat → Int32) (M : Nat → Nat → Int32)  (A : Nat → Prop) (hD : va_D A (wM h a cI cB cZ F M)) (hI : iv F M) : Met l yX11_mean wsX11_mean ({ frames := 1, cells := 0, slots := 0, locals := 25 } : Room) (va_Pc [.ref h] (pM dC dI h a cI cB cZ F M)) (va_Qi (fun r u => (r, u) = s_X11_mean F M) (qM A dC dI h a cI cB cZ) A) 0 0 A := by
  refine Met.ofW (cc := cX11_mean) (maxL := 6) (ret := (some .int)) (by decide) rfl ?_
  intro p e s m args below meth c s₁ B hml hv
  obtain ⟨rfl, hP, hK⟩ := hv
  have hx := B.exec
  have hb := B.bytes
  have hr := B.returns
  have hts := atoms_spec (ws := wsX11_mean) B.pre
  have hown : s.vm.findClass RX11 = some m.cls := findClass_of_methodNamed B.named
  have hlocks := B.notSynchronized
  have hin : ∀ w ∈ wsX110, w ∈ wsX11_mean := by decide +kernel
  have hS : va_S A s.heap s.heap [] := va_S.rf
  have hl := lv_entry ([.ref h]) (n := 6) (Nat.le_of_ble_eq_true rfl)
  rw [lg_entry_eq]
  generalize (lg_sl ([.ref h]) ++ List.replicate (6 - (lg_sl ([.ref h])).length) Slot.unset).toArray = ls at hl ⊢
  have hl : lv_has ls 6 [(0, .ref h)] := hl
  have hn7 : (F 7).toNatClampNeg ≤ 24 := lb_le (iv_7 hI) (by decide)
  refine lv_iconst (v := 0) hx hb dX11_mean_0 (by decide) ?_
  refine lv_istore_n (lv' := [(1, .int 0), (0, .ref h)]) hx hb dX11_mean_1 rfl hl (by decide) rfl (fun ls hl => ?_)
  refine lv_iconst (v := 0) hx hb dX11_mean_2 (by decide) ?_
  refine lv_istore_n (lv' := [(2, .int 0), (1, .int 0), (0, .ref h)]) hx hb dX11_mean_3 rfl hl (by decide) rfl (fun ls hl => ?_)
  refine lv_iconst (v := 0) hx hb dX11_mean_4 (by decide) ?_
  refine lv_istore_n (lv' := [(3, .int 0), (2, .int 0), (1, .int 0), (0, .ref h)]) hx hb dX11_mean_5 rfl hl (by decide) rfl (fun ls hl => ?_)
  refine lp_for (N := (F 7).toNatClampNeg) (lv := fun i1 => [(3, .int (nI i1)), (2, .int ((L_mean F M i1).2)), (1, .int ((L_mean F M i1).1)), (0, .ref h)]) (lv_sub hl [0, 1, 2, 3] rfl) (fun i1 hi1 ls hl kk1 => ?_) (fun ls hl => ?_)
  · replace hl : lv_has ls 6 [(3, .int (nI i1)), (2, .int ((L_mean F M i1).2)), (1, .int ((L_mean F M i1).1)), (0, .ref h)] := hl
    refine lv_iload_n hx hb dX11_mean_6 rfl (lv_at hl 0 rfl) ?_
    refine lv_aload_n hx hb dX11_mean_7 rfl (lv_at hl 3 rfl) ?_
    refine va_get (D := (dC, dI)) (ci := 10) (v := .int (F 7)) (C := RX11) (T := TX11) (N := 49) hx hb hts hin hown hK hP 0 rfl rfl 7 (by decide) (hts (.fieldLink RX11 146 "SocietyBookModel" "papers" "I") (by decide +kernel)) (fun _ h9 => h9) rfl dX11_mean_8 ?_
    refine lv_icmp_ge (tgt := 90) hx hb dX11_mean_11 (by decide) (fun c => absurd c (lb_nc hi1)) (fun _ => ?_)
    refine lv_aload_n hx hb dX11_mean_14 rfl (lv_at hl 3 rfl) ?_
    refine lv_iload_n hx hb dX11_mean_15 rfl (lv_at hl 0 rfl) ?_
    refine lv_iconst (v := 0) hx hb dX11_mean_16 (by decide) ?_
    refine lv_sipush (v := 30000) hx hb dX11_mean_17 (by decide) ?_
    refine vp_callSi (W.runV (As := [.int (nI i1), .int 0, .int 30000]) (rest := []) ⟨hx, hb, hml, hown, hts⟩ (c_X11_lastOf l dC dI h a cI cB cZ F M (nI i1) 0 30000 hI) (cwV 3 hts gX11_mean_X11_lastOf rfl rfl rfl (by decide +kernel) ⟨Nat.le_of_ble_eq_true rfl, Nat.le_of_ble_eq_true rfl⟩) ⟨pm_blind, va_recv hK hP (ci := 10) (q0 := 0) rfl rfl, fun U hU hW => ⟨rfl, by rw [hU]; exact hP, va_K.moved hW.alike hK⟩⟩ rfl rfl hl.1 rfl (lv_room (Nat.le_of_ble_eq_true rfl)) dX11_mean_20 ⟨Nat.zero_le _, Nat.zero_le _⟩) (fun r hr9 => ?_)
    subst hr9
    refine lv_istore (lv' := [(4, .int (s_X11_lastOf F M (nI i1) 0 30000)), (3, .int (nI i1)), (2, .int ((L_mean F M i1).2)), (1, .int ((L_mean F M i1).1)), (0, .ref h)]) hx hb dX11_mean_23 hl (by decide) rfl (fun ls hl => ?_)
    refine lv_aload_n hx hb dX11_mean_25 rfl (lv_at hl 4 rfl) ?_
    refine lv_iload_n hx hb dX11_mean_26 rfl (lv_at hl 1 rfl) ?_
    refine lv_iconst (v := 1) hx hb dX11_mean_27 (by decide) ?_
    refine lv_sipush (v := 30000) hx hb dX11_mean_28 (by decide) ?_
    refine vp_callSi (W.runV (As := [.int (nI i1), .int 1, .int 30000]) (rest := []) ⟨hx, hb, hml, hown, hts⟩ (c_X11_lastOf l dC dI h a cI cB cZ F M (nI i1) 1 30000 hI) (cwV 3 hts gX11_mean_X11_lastOf rfl rfl rfl (by decide +kernel) ⟨Nat.le_of_ble_eq_true rfl, Nat.le_of_ble_eq_true rfl⟩) ⟨pm_blind, va_recv hK hP (ci := 10) (q0 := 0) rfl rfl, fun U hU hW => ⟨rfl, by rw [hU]; exact hP, va_K.moved hW.alike hK⟩⟩ rfl rfl hl.1 rfl (lv_room (Nat.le_of_ble_eq_true rfl)) dX11_mean_31 ⟨Nat.zero_le _, Nat.zero_le _⟩) (fun r hr9 => ?_)
    subst hr9
    refine lv_istore (lv' := [(5, .int (s_X11_lastOf F M (nI i1) 1 30000)), (4, .int (s_X11_lastOf F M (nI i1) 0 30000)), (3, .int (nI i1)), (2, .int ((L_mean F M i1).2)), (1, .int ((L_mean F M i1).1)), (0, .ref h)]) hx hb dX11_mean_34 hl (by decide) rfl (fun ls hl => ?_)
    refine lv_iload_n hx hb dX11_mean_36 rfl (lv_at hl 4 rfl) ?_
    refine lv_iload hx hb dX11_mean_37 (lv_at hl 1 rfl) ?_
    refine lv_bipush (v := (-9)) hx hb dX11_mean_39 (by decide) ?_
    refine lv_icmp_eq (tgt := 59) hx hb dX11_mean_41 (by decide) (fun c1 => ?_) (fun c1 => ?_)
    · refine lv_iconst (v := 0) hx hb dX11_mean_59 (by decide) ?_
      refine lv_iadd hx hb dX11_mean_60 ?_
      refine lv_istore_n (lv' := [(1, .int (((L_mean F M i1).1) + 0)), (5, .int (s_X11_lastOf F M (nI i1) 1 30000)), (4, .int (s_X11_lastOf F M (nI i1) 0 30000)), (3, .int (nI i1)), (2, .int ((L_mean F M i1).2)), (0, .ref h)]) hx hb dX11_mean_61 rfl hl (by decide) rfl (fun ls hl => ?_)
      refine lv_iload_n hx hb dX11_mean_62 rfl (lv_at hl 4 rfl) ?_
      refine lv_iload hx hb dX11_mean_63 (lv_at hl 2 rfl) ?_
      refine lv_bipush (v := (-9)) hx hb dX11_mean_65 (by decide) ?_
      refine lv_icmp_eq (tgt := 81) hx hb dX11_mean_67 (by decide) (fun _ => ?_) (fun c => absurd c1 c)
      refine lv_iconst (v := 0) hx hb dX11_mean_81 (by decide) ?_
      refine lv_iadd hx hb dX11_mean_82 ?_
      refine lv_istore_n (lv' := [(2, .int (((L_mean F M i1).2) + 0)), (1, .int (((L_mean F M i1).1) + 0)), (5, .int (s_X11_lastOf F M (nI i1) 1 30000)), (4, .int (s_X11_lastOf F M (nI i1) 0 30000)), (3, .int (nI i1)), (0, .ref h)]) hx hb dX11_mean_83 rfl hl (by decide) rfl (fun ls hl => ?_)
      refine lv_iinc (v := nI (i1 + 1)) (lv' := [(3, .int (nI (i1 + 1))), (2, .int (((L_mean F M i1).2) + 0)), (1, .int (((L_mean F M i1).1) + 0)), (5, .int (s_X11_lastOf F M (nI i1) 1 30000)), (4, .int (s_X11_lastOf F M (nI i1) 0 30000)), (0, .ref h)]) hx hb dX11_mean_84 hl (k := 4) rfl (nI_1 i1) (by decide) rfl (fun ls hl => ?_)
      refine lv_goto (tgt := 6) hx hb dX11_mean_87 (by decide) ?_
      have e9 : L_mean F M (i1 + 1) = (((L_mean F M i1).1) + 0, ((L_mean F M i1).2) + 0) := by rw [L_mean]; rw [if_pos c1]
      refine kk1 ls (show lv_has ls 6 [(3, .int (nI (i1 + 1))), (2, .int ((L_mean F M (i1 + 1)).2)), (1, .int ((L_mean F M (i1 + 1)).1)), (0, .ref h)] from ?_)
      rw [e9]; exact lv_sub hl [0, 1, 2, 5] rfl
    · refine lv_iload hx hb dX11_mean_44 (lv_at hl 0 rfl) ?_
      refine lv_bipush (v := (-9)) hx hb dX11_mean_46 (by decide) ?_
      refine lv_icmp_eq (tgt := 59) hx hb dX11_mean_48 (by decide) (fun c2 => ?_) (fun c2 => ?_)
      · refine lv_iconst (v := 0) hx hb dX11_mean_59 (by decide) ?_
        refine lv_iadd hx hb dX11_mean_60 ?_
        refine lv_istore_n (lv' := [(1, .int (((L_mean F M i1).1) + 0)), (5, .int (s_X11_lastOf F M (nI i1) 1 30000)), (4, .int (s_X11_lastOf F M (nI i1) 0 30000)), (3, .int (nI i1)), (2, .int ((L_mean F M i1).2)), (0, .ref h)]) hx hb dX11_mean_61 rfl hl (by decide) rfl (fun ls hl => ?_)
        refine lv_iload_n hx hb dX11_mean_62 rfl (lv_at hl 4 rfl) ?_
        refine lv_iload hx hb dX11_mean_63 (lv_at hl 2 rfl) ?_
        refine lv_bipush (v := (-9)) hx hb dX11_mean_65 (by decide) ?_
        refine lv_icmp_eq (tgt := 81) hx hb dX11_mean_67 (by decide) (fun c => absurd c c1) (fun _ => ?_)
        refine lv_iload hx hb dX11_mean_70 (lv_at hl 1 rfl) ?_
        refine lv_bipush (v := (-9)) hx hb dX11_mean_72 (by decide) ?_
        refine lv_icmp_eq (tgt := 81) hx hb dX11_mean_74 (by decide) (fun _ => ?_) (fun c => absurd c2 c)
        refine lv_iconst (v := 0) hx hb dX11_mean_81 (by decide) ?_
        refine lv_iadd hx hb dX11_mean_82 ?_
        refine lv_istore_n (lv' := [(2, .int (((L_mean F M i1).2) + 0)), (1, .int (((L_mean F M i1).1) + 0)), (5, .int (s_X11_lastOf F M (nI i1) 1 30000)), (4, .int (s_X11_lastOf F M (nI i1) 0 30000)), (3, .int (nI i1)), (0, .ref h)]) hx hb dX11_mean_83 rfl hl (by decide) rfl (fun ls hl => ?_)
        refine lv_iinc (v := nI (i1 + 1)) (lv' := [(3, .int (nI (i1 + 1))), (2, .int (((L_mean F M i1).2) + 0)), (1, .int (((L_mean F M i1).1) + 0)), (5, .int (s_X11_lastOf F M (nI i1) 1 30000)), (4, .int (s_X11_lastOf F M (nI i1) 0 30000)), (0, .ref h)]) hx hb dX11_mean_84 hl (k := 4) rfl (nI_1 i1) (by decide) rfl (fun ls hl => ?_)
        refine lv_goto (tgt := 6) hx hb dX11_mean_87 (by decide) ?_
        have e9 : L_mean F M (i1 + 1) = (((L_mean F M i1).1) + 0, ((L_mean F M i1).2) + 0) := by rw [L_mean]; rw [if_neg c1, if_pos c2]
        refine kk1 ls (show lv_has ls 6 [(3, .int (nI (i1 + 1))), (2, .int ((L_mean F M (i1 + 1)).2)), (1, .int ((L_mean F M (i1 + 1)).1)), (0, .ref h)] from ?_)
        rw [e9]; exact lv_sub hl [0, 1, 2, 5] rfl
      · refine lv_iload hx hb dX11_mean_51 (lv_at hl 0 rfl) ?_
        refine lv_iload hx hb dX11_mean_53 (lv_at hl 1 rfl) ?_
        refine lv_isub hx hb dX11_mean_55 ?_
        refine lv_goto (tgt := 60) hx hb dX11_mean_56 (by decide) ?_
        refine lv_iadd hx hb dX11_mean_60 ?_
        refine lv_istore_n (lv' := [(1, .int (((L_mean F M i1).1) + ((s_X11_lastOf F M (nI i1) 1 30000) - (s_X11_lastOf F M (nI i1) 0 30000)))), (5, .int (s_X11_lastOf F M (nI i1) 1 30000)), (4, .int (s_X11_lastOf F M (nI i1) 0 30000)), (3, .int (nI i1)), (2, .int ((L_mean F M i1).2)), (0, .ref h)]) hx hb dX11_mean_61 rfl hl (by decide) rfl (fun ls hl => ?_)
        refine lv_iload_n hx hb dX11_mean_62 rfl (lv_at hl 4 rfl) ?_
        refine lv_iload hx hb dX11_mean_63 (lv_at hl 2 rfl) ?_
        refine lv_bipush (v := (-9)) hx hb dX11_mean_65 (by decide) ?_
        refine lv_icmp_eq (tgt := 81) hx hb dX11_mean_67 (by decide) (fun c => absurd c c1) (fun _ => ?_)
        refine lv_iload hx hb dX11_mean_70 (lv_at hl 1 rfl) ?_
        refine lv_bipush (v := (-9)) hx hb dX11_mean_72 (by decide) ?_
        refine lv_icmp_eq (tgt := 81) hx hb dX11_mean_74 (by decide) (fun c => absurd c c2) (fun _ => ?_)
        refine lv_iconst (v := 1) hx hb dX11_mean_77 (by decide) ?_
        refine lv_goto (tgt := 82) hx hb dX11_mean_78 (by decide) ?_
        refine lv_iadd hx hb dX11_mean_82 ?_
        refine lv_istore_n (lv' := [(2, .int (((L_mean F M i1).2) + 1)), (1, .int (((L_mean F M i1).1) + ((s_X11_lastOf F M (nI i1) 1 30000) - (s_X11_lastOf F M (nI i1) 0 30000)))), (5, .int (s_X11_lastOf F M (nI i1) 1 30000)), (4, .int (s_X11_lastOf F M (nI i1) 0 30000)), (3, .int (nI i1)), (0, .ref h)]) hx hb dX11_mean_83 rfl hl (by decide) rfl (fun ls hl => ?_)
        refine lv_iinc (v := nI (i1 + 1)) (lv' := [(3, .int (nI (i1 + 1))), (2, .int (((L_mean F M i1).2) + 1)), (1, .int (((L_mean F M i1).1) + ((s_X11_lastOf F M (nI i1) 1 30000) - (s_X11_lastOf F M (nI i1) 0 30000)))), (5, .int (s_X11_lastOf F M (nI i1) 1 30000)), (4, .int (s_X11_lastOf F M (nI i1) 0 30000)), (0, .ref h)]) hx hb dX11_mean_84 hl (k := 4) rfl (nI_1 i1) (by decide) rfl (fun ls hl => ?_)
        refine lv_goto (tgt := 6) hx hb dX11_mean_87 (by decide) ?_
        have e9 : L_mean F M (i1 + 1) = (((L_mean F M i1).1) + ((s_X11_lastOf F M (nI i1) 1 30000) - (s_X11_lastOf F M (nI i1) 0 30000)), ((L_mean F M i1).2) + 1) := by rw [L_mean]; rw [if_neg c1, if_neg c2]
        refine kk1 ls (show lv_has ls 6 [(3, .int (nI (i1 + 1))), (2, .int ((L_mean F M (i1 + 1)).2)), (1, .int ((L_mean F M (i1 + 1)).1)), (0, .ref h)] from ?_)
        rw [e9]; exact lv_sub hl [0, 1, 2, 5] rfl
  · replace hl : lv_has ls 6 [(3, .int (nI (F 7).toNatClampNeg)), (2, .int ((L_mean F M (F 7).toNatClampNeg).2)), (1, .int ((L_mean F M (F 7).toNatClampNeg).1)), (0, .ref h)] := hl
    refine lv_iload_n hx hb dX11_mean_6 rfl (lv_at hl 0 rfl) ?_
    refine lv_aload_n hx hb dX11_mean_7 rfl (lv_at hl 3 rfl) ?_
    refine va_get (D := (dC, dI)) (ci := 10) (v := .int (F 7)) (C := RX11) (T := TX11) (N := 49) hx hb hts hin hown hK hP 0 rfl rfl 7 (by decide) (hts (.fieldLink RX11 146 "SocietyBookModel" "papers" "I") (by decide +kernel)) (fun _ h9 => h9) rfl dX11_mean_8 ?_
    refine lv_icmp_ge (tgt := 90) hx hb dX11_mean_11 (by decide) (fun _ => ?_) (fun c => absurd lb_yc c)
    refine lv_iload_n hx hb dX11_mean_90 rfl (lv_at hl 1 rfl) ?_
    refine lv_if_ne (tgt := 102) hx hb dX11_mean_91 (by decide) (fun c3 => ?_) (fun c3 => ?_)
    · refine lv_iload_n hx hb dX11_mean_102 rfl (lv_at hl 2 rfl) ?_
      refine lv_iload_n hx hb dX11_mean_103 rfl (lv_at hl 1 rfl) ?_
      refine lv_idiv hx hb dX11_mean_104 c3 ?_
      exact W.iret (v := ((L_mean F M (F 7).toNatClampNeg).1) / ((L_mean F M (F 7).toNatClampNeg).2)) hx hb hr (fun t ht hW => ⟨⟨((L_mean F M (F 7).toNatClampNeg).1) / ((L_mean F M (F 7).toNatClampNeg).2), (F, M), rfl, by unfold s_X11_mean; rw [if_neg c3], ⟨by rw [ht]; exact hP, va_K.moved hW.alike hK⟩, hD⟩, hS.F ht⟩) hS.2.2 dX11_mean_105
    · refine lv_aload_n hx hb dX11_mean_94 rfl (lv_at hl 3 rfl) ?_
      refine lv_iconst (v := 4) hx hb dX11_mean_95 (by decide) ?_
      refine va_calli (va_runV (As := [.int 4]) (rest := []) ⟨hx, hb, hml, hown, hts⟩ (c_X11_meets l dC dI h a cI cB cZ F M 4 A hD (ib_lit (by decide))) (cwV 1 hts gX11_mean_X11_meets rfl rfl rfl (by decide +kernel) ⟨Nat.le_of_ble_eq_true rfl, Nat.le_of_ble_eq_true rfl⟩) ⟨pm_blind, va_recv hK hP (ci := 10) (q0 := 0) rfl rfl, fun U hU hW => ⟨rfl, by rw [hU]; exact hP, va_K.moved hW.alike hK⟩⟩ rfl rfl hl.1 rfl (lv_room (Nat.le_of_ble_eq_true rfl)) dX11_mean_96 ⟨Nat.zero_le _, Nat.zero_le _⟩) hS (fun q _ h => h) (fun q h => h) (fun r u t H1 locs ht hvm hw hB hz1 hk1 hS => ?_)
      obtain ⟨hr9, hu9⟩ : r = (s_X11_meets F M 4).1 ∧ u = (s_X11_meets F M 4).2 := ⟨congrArg Prod.fst hw, congrArg Prod.snd hw⟩
      subst hr9; subst hu9
      obtain ⟨⟨hP, -⟩, hD⟩ := hB
      rw [ht] at hP
      clear hw hz1 hk1 ht hvm; generalize H1 = H at hP hS ⊢
      refine lv_goto (tgt := 105) hx hb dX11_mean_99 (by decide) ?_
      exact W.iret (v := (s_X11_meets F M 4).1) hx hb hr (fun t ht hW => ⟨⟨(s_X11_meets F M 4).1, ((s_X11_meets F M 4).2.1, (s_X11_meets F M 4).2.2), rfl, by unfold s_X11_mean; rw [if_pos c3], ⟨by rw [ht]; exact hP, va_K.moved hW.alike hK⟩, hD⟩, hS.F ht⟩) hS.2.2 dX11_mean_105
