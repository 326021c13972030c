def L_lastOf (F : Nat → Int32) (M : Nat → Nat → Int32) (p0 : Int32) (p1 : Int32) (p2 : Int32) : Nat → Int32
  | 0 => (-9)
  | i1 + 1 =>
    if ((M 17) i1) = p0 then (if ((M 18) i1) = p1 then (if p2 < ((M 20) i1) then (L_lastOf F M p0 p1 p2 i1) else
        (M 19) i1) else
      (L_lastOf F M p0 p1 p2 i1)) else
    (L_lastOf F M p0 p1 p2 i1)
def s_X11_lastOf (F : Nat → Int32) (M : Nat → Nat → Int32) (p0 : Int32) (p1 : Int32) (p2 : Int32) : Int32 :=
  (L_lastOf F M p0 p1 p2 (F 16).toNatClampNeg)
set_option maxHeartbeats 4000000 in
set_option maxRecDepth 100000 in
theorem c_X11_lastOf (l : Launch) (dC : Nat → ClassId) (dI : Nat → Nat → Nat) (h : Nat) (a : Nat → Nat) (cI cB cZ : ClassId) (F : Nat → Int32) (M : Nat → Nat → Int32) (p0 : Int32) (p1 : Int32) (p2 : Int32) (hI : iv F M) : Met l yX11_lastOf wsX11_lastOf ({ frames := 0, cells := 0, slots := 0, locals := 0 } : Room) (va_Pc [.ref h, .int p0, .int p1, .int p2] (pM dC dI h a cI cB cZ F M)) (vp_Si (fun r => r = s_X11_lastOf F M p0 p1 p2)) 0 0 (fun _ => False) := by
  refine Met.ofW (cc := cX11_lastOf) (maxL := 6) (ret := (some .int)) (by decide) rfl ?_
  intro p e s m args below meth c s₁ B hml hv
  obtain ⟨rfl, hP, hK⟩ := hv
  have hx := B.exec
  have hb := B.bytes
  have hr := B.returns
  have hts := atoms_spec (ws := wsX11_lastOf) B.pre
  have hown : s.vm.findClass RX11 = some m.cls := findClass_of_methodNamed B.named
  have hlocks := B.notSynchronized
  have hin : ∀ w ∈ wsX110, w ∈ wsX11_lastOf := by decide +kernel
  have hl := lv_entry ([.ref h, .int p0, .int p1, .int p2]) (n := 6) (Nat.le_of_ble_eq_true rfl)
  rw [lg_entry_eq]
  generalize (lg_sl ([.ref h, .int p0, .int p1, .int p2]) ++ List.replicate (6 - (lg_sl ([.ref h, .int p0, .int p1, .int p2])).length) Slot.unset).toArray = ls at hl ⊢
  have hl : lv_has ls 6 [(0, .ref h), (1, .int p0), (2, .int p1), (3, .int p2)] := hl
  have hn16 : (F 16).toNatClampNeg ≤ 100 := lb_le (iv_16 hI) (by decide)
  refine lv_bipush (v := (-9)) hx hb dX11_lastOf_0 (by decide) ?_
  refine lv_istore (lv' := [(4, .int (-9)), (0, .ref h), (1, .int p0), (2, .int p1), (3, .int p2)]) hx hb dX11_lastOf_2 hl (by decide) rfl (fun ls hl => ?_)
  refine lv_iconst (v := 0) hx hb dX11_lastOf_4 (by decide) ?_
  refine lv_istore (lv' := [(5, .int 0), (4, .int (-9)), (0, .ref h), (1, .int p0), (2, .int p1), (3, .int p2)]) hx hb dX11_lastOf_5 hl (by decide) rfl (fun ls hl => ?_)
  refine lp_for (N := (F 16).toNatClampNeg) (lv := fun i1 => [(5, .int (nI i1)), (4, .int (L_lastOf F M p0 p1 p2 i1)), (0, .ref h), (1, .int p0), (2, .int p1), (3, .int p2)]) (lv_sub hl [0, 1, 2, 3, 4, 5] rfl) (fun i1 hi1 ls hl kk1 => ?_) (fun ls hl => ?_)
  · replace hl : lv_has ls 6 [(5, .int (nI i1)), (4, .int (L_lastOf F M p0 p1 p2 i1)), (0, .ref h), (1, .int p0), (2, .int p1), (3, .int p2)] := hl
    refine lv_iload hx hb dX11_lastOf_7 (lv_at hl 0 rfl) ?_
    refine lv_aload_n hx hb dX11_lastOf_9 rfl (lv_at hl 2 rfl) ?_
    refine va_get (D := (dC, dI)) (ci := 10) (v := .int (F 16)) (C := RX11) (T := TX11) (N := 49) hx hb hts hin hown hK hP 0 rfl rfl 16 (by decide) (hts (.fieldLink RX11 154 "SocietyBookModel" "notes" "I") (by decide +kernel)) (fun _ h9 => h9) rfl dX11_lastOf_10 ?_
    refine lv_icmp_ge (tgt := 69) hx hb dX11_lastOf_13 (by decide) (fun c => absurd c (lb_nc hi1)) (fun _ => ?_)
    refine lv_aload_n hx hb dX11_lastOf_16 rfl (lv_at hl 2 rfl) ?_
    refine va_get (D := (dC, dI)) (ci := 10) (v := .ref (a 17)) (C := RX11) (T := TX11) (N := 49) hx hb hts hin hown hK hP 0 rfl rfl 17 (by decide) (hts (.fieldLink RX11 43 "SocietyBookModel" "notePaper" "[I") (by decide +kernel)) (fun _ h9 => h9) rfl dX11_lastOf_17 ?_
    refine lv_iload hx hb dX11_lastOf_20 (lv_at hl 0 rfl) ?_
    refine va_iald (f := M 17) hx hb hK hP 12 0 rfl rfl (vp_in_nI (show i1 < 100 by omega) (by decide)) dX11_lastOf_22 ?_
    rw [nI_clamp (show i1 < 2 ^ 31 by omega)]
    refine lv_iload_n hx hb dX11_lastOf_23 rfl (lv_at hl 3 rfl) ?_
    refine lv_icmp_ne (tgt := 59) hx hb dX11_lastOf_24 (by decide) (fun c1 => ?_) (fun c1 => ?_)
    · refine lv_iload hx hb dX11_lastOf_59 (lv_at hl 1 rfl) ?_
      refine lv_istore (lv' := [(4, .int (L_lastOf F M p0 p1 p2 i1)), (5, .int (nI i1)), (0, .ref h), (1, .int p0), (2, .int p1), (3, .int p2)]) hx hb dX11_lastOf_61 hl (by decide) rfl (fun ls hl => ?_)
      refine lv_iinc (v := nI (i1 + 1)) (lv' := [(5, .int (nI (i1 + 1))), (4, .int (L_lastOf F M p0 p1 p2 i1)), (0, .ref h), (1, .int p0), (2, .int p1), (3, .int p2)]) hx hb dX11_lastOf_63 hl (k := 1) rfl (nI_1 i1) (by decide) rfl (fun ls hl => ?_)
      refine lv_goto (tgt := 7) hx hb dX11_lastOf_66 (by decide) ?_
      have e9 : L_lastOf F M p0 p1 p2 (i1 + 1) = (L_lastOf F M p0 p1 p2 i1) := by rw [L_lastOf]; rw [if_neg c1]
      refine kk1 ls (show lv_has ls 6 [(5, .int (nI (i1 + 1))), (4, .int (L_lastOf F M p0 p1 p2 (i1 + 1))), (0, .ref h), (1, .int p0), (2, .int p1), (3, .int p2)] from ?_)
      rw [e9]; exact lv_sub hl [0, 1, 2, 3, 4, 5] rfl
    · refine lv_aload_n hx hb dX11_lastOf_27 rfl (lv_at hl 2 rfl) ?_
      refine va_get (D := (dC, dI)) (ci := 10) (v := .ref (a 18)) (C := RX11) (T := TX11) (N := 49) hx hb hts hin hown hK hP 0 rfl rfl 18 (by decide) (hts (.fieldLink RX11 46 "SocietyBookModel" "noteWhat" "[I") (by decide +kernel)) (fun _ h9 => h9) rfl dX11_lastOf_28 ?_
      refine lv_iload hx hb dX11_lastOf_31 (lv_at hl 0 rfl) ?_
      refine va_iald (f := M 18) hx hb hK hP 13 0 rfl rfl (vp_in_nI (show i1 < 100 by omega) (by decide)) dX11_lastOf_33 ?_
      rw [nI_clamp (show i1 < 2 ^ 31 by omega)]
      refine lv_iload_n hx hb dX11_lastOf_34 rfl (lv_at hl 4 rfl) ?_
      refine lv_icmp_ne (tgt := 59) hx hb dX11_lastOf_35 (by decide) (fun c2 => ?_) (fun c2 => ?_)
      · refine lv_iload hx hb dX11_lastOf_59 (lv_at hl 1 rfl) ?_
        refine lv_istore (lv' := [(4, .int (L_lastOf F M p0 p1 p2 i1)), (5, .int (nI i1)), (0, .ref h), (1, .int p0), (2, .int p1), (3, .int p2)]) hx hb dX11_lastOf_61 hl (by decide) rfl (fun ls hl => ?_)
        refine lv_iinc (v := nI (i1 + 1)) (lv' := [(5, .int (nI (i1 + 1))), (4, .int (L_lastOf F M p0 p1 p2 i1)), (0, .ref h), (1, .int p0), (2, .int p1), (3, .int p2)]) hx hb dX11_lastOf_63 hl (k := 1) rfl (nI_1 i1) (by decide) rfl (fun ls hl => ?_)
        refine lv_goto (tgt := 7) hx hb dX11_lastOf_66 (by decide) ?_
        have e9 : L_lastOf F M p0 p1 p2 (i1 + 1) = (L_lastOf F M p0 p1 p2 i1) := by rw [L_lastOf]; rw [if_pos c1, if_neg c2]
        refine kk1 ls (show lv_has ls 6 [(5, .int (nI (i1 + 1))), (4, .int (L_lastOf F M p0 p1 p2 (i1 + 1))), (0, .ref h), (1, .int p0), (2, .int p1), (3, .int p2)] from ?_)
        rw [e9]; exact lv_sub hl [0, 1, 2, 3, 4, 5] rfl
      · refine lv_aload_n hx hb dX11_lastOf_38 rfl (lv_at hl 2 rfl) ?_
        refine va_get (D := (dC, dI)) (ci := 10) (v := .ref (a 20)) (C := RX11) (T := TX11) (N := 49) hx hb hts hin hown hK hP 0 rfl rfl 20 (by decide) (hts (.fieldLink RX11 52 "SocietyBookModel" "noteTold" "[I") (by decide +kernel)) (fun _ h9 => h9) rfl dX11_lastOf_39 ?_
        refine lv_iload hx hb dX11_lastOf_42 (lv_at hl 0 rfl) ?_
        refine va_iald (f := M 20) hx hb hK hP 15 0 rfl rfl (vp_in_nI (show i1 < 100 by omega) (by decide)) dX11_lastOf_44 ?_
        rw [nI_clamp (show i1 < 2 ^ 31 by omega)]
        refine lv_iload_n hx hb dX11_lastOf_45 rfl (lv_at hl 5 rfl) ?_
        refine lv_icmp_gt (tgt := 59) hx hb dX11_lastOf_46 (by decide) (fun c3 => ?_) (fun c3 => ?_)
        · refine lv_iload hx hb dX11_lastOf_59 (lv_at hl 1 rfl) ?_
          refine lv_istore (lv' := [(4, .int (L_lastOf F M p0 p1 p2 i1)), (5, .int (nI i1)), (0, .ref h), (1, .int p0), (2, .int p1), (3, .int p2)]) hx hb dX11_lastOf_61 hl (by decide) rfl (fun ls hl => ?_)
          refine lv_iinc (v := nI (i1 + 1)) (lv' := [(5, .int (nI (i1 + 1))), (4, .int (L_lastOf F M p0 p1 p2 i1)), (0, .ref h), (1, .int p0), (2, .int p1), (3, .int p2)]) hx hb dX11_lastOf_63 hl (k := 1) rfl (nI_1 i1) (by decide) rfl (fun ls hl => ?_)
          refine lv_goto (tgt := 7) hx hb dX11_lastOf_66 (by decide) ?_
          have e9 : L_lastOf F M p0 p1 p2 (i1 + 1) = (L_lastOf F M p0 p1 p2 i1) := by rw [L_lastOf]; rw [if_pos c1, if_pos c2, if_pos c3]
          refine kk1 ls (show lv_has ls 6 [(5, .int (nI (i1 + 1))), (4, .int (L_lastOf F M p0 p1 p2 (i1 + 1))), (0, .ref h), (1, .int p0), (2, .int p1), (3, .int p2)] from ?_)
          rw [e9]; exact lv_sub hl [0, 1, 2, 3, 4, 5] rfl
        · refine lv_aload_n hx hb dX11_lastOf_49 rfl (lv_at hl 2 rfl) ?_
          refine va_get (D := (dC, dI)) (ci := 10) (v := .ref (a 19)) (C := RX11) (T := TX11) (N := 49) hx hb hts hin hown hK hP 0 rfl rfl 19 (by decide) (hts (.fieldLink RX11 49 "SocietyBookModel" "noteDay" "[I") (by decide +kernel)) (fun _ h9 => h9) rfl dX11_lastOf_50 ?_
          refine lv_iload hx hb dX11_lastOf_53 (lv_at hl 0 rfl) ?_
          refine va_iald (f := M 19) hx hb hK hP 14 0 rfl rfl (vp_in_nI (show i1 < 100 by omega) (by decide)) dX11_lastOf_55 ?_
          rw [nI_clamp (show i1 < 2 ^ 31 by omega)]
          refine lv_goto (tgt := 61) hx hb dX11_lastOf_56 (by decide) ?_
          refine lv_istore (lv' := [(4, .int ((M 19) i1)), (5, .int (nI i1)), (0, .ref h), (1, .int p0), (2, .int p1), (3, .int p2)]) hx hb dX11_lastOf_61 hl (by decide) rfl (fun ls hl => ?_)
          refine lv_iinc (v := nI (i1 + 1)) (lv' := [(5, .int (nI (i1 + 1))), (4, .int ((M 19) i1)), (0, .ref h), (1, .int p0), (2, .int p1), (3, .int p2)]) hx hb dX11_lastOf_63 hl (k := 1) rfl (nI_1 i1) (by decide) rfl (fun ls hl => ?_)
          refine lv_goto (tgt := 7) hx hb dX11_lastOf_66 (by decide) ?_
          have e9 : L_lastOf F M p0 p1 p2 (i1 + 1) = (M 19) i1 := by rw [L_lastOf]; rw [if_pos c1, if_pos c2, if_neg c3]
          refine kk1 ls (show lv_has ls 6 [(5, .int (nI (i1 + 1))), (4, .int (L_lastOf F M p0 p1 p2 (i1 + 1))), (0, .ref h), (1, .int p0), (2, .int p1), (3, .int p2)] from ?_)
          rw [e9]; exact lv_sub hl [0, 1, 2, 3, 4, 5] rfl
  · replace hl : lv_has ls 6 [(5, .int (nI (F 16).toNatClampNeg)), (4, .int (L_lastOf F M p0 p1 p2 (F 16).toNatClampNeg)), (0, .ref h), (1, .int p0), (2, .int p1), (3, .int p2)] := hl
    refine lv_iload hx hb dX11_lastOf_7 (lv_at hl 0 rfl) ?_
    refine lv_aload_n hx hb dX11_lastOf_9 rfl (lv_at hl 2 rfl) ?_
    refine va_get (D := (dC, dI)) (ci := 10) (v := .int (F 16)) (C := RX11) (T := TX11) (N := 49) hx hb hts hin hown hK hP 0 rfl rfl 16 (by decide) (hts (.fieldLink RX11 154 "SocietyBookModel" "notes" "I") (by decide +kernel)) (fun _ h9 => h9) rfl dX11_lastOf_10 ?_
    refine lv_icmp_ge (tgt := 69) hx hb dX11_lastOf_13 (by decide) (fun _ => ?_) (fun c => absurd lb_yc c)
    refine lv_iload hx hb dX11_lastOf_69 (lv_at hl 1 rfl) ?_
    exact W.iret (v := (L_lastOf F M p0 p1 p2 (F 16).toNatClampNeg)) hx hb hr (fun t ht hW => ⟨(L_lastOf F M p0 p1 p2 (F 16).toNatClampNeg), rfl, by unfold s_X11_lastOf; rfl, ht⟩) (fun _ h => by cases h) dX11_lastOf_71

def s_X11_mayNote (F : Nat → Int32) (M : Nat → Nat → Int32) (p0 : Int32) (p1 : Int32) (p2 : Int32) : Int32 :=
  if p1 = 0 then (if p1 = 2 then (if 0 < p1 then 1 else
      if ((M 8) p0.toNatClampNeg) = 2 then (if ((M 13) p0.toNatClampNeg) ≤ p2 ∧ p2 ≤ ((M 14) p0.toNatClampNeg) then 1 else
        0) else
      1) else
    if 0 < p1 then (if (s_X11_lastOf F M p0 (p1 + 1) 30000) = (-9) then 1 else
      if (s_X11_lastOf F M p0 (p1 + 1) 30000) < p2 then 0 else
      1) else
    if ((M 8) p0.toNatClampNeg) = 2 then (if ((M 13) p0.toNatClampNeg) ≤ p2 ∧ p2 ≤ ((M 14) p0.toNatClampNeg) then (if (s_X11_lastOf F M p0 (p1 + 1) 30000) = (-9) then 1 else
        if (s_X11_lastOf F M p0 (p1 + 1) 30000) < p2 then 0 else
        1) else
      0) else
    if (s_X11_lastOf F M p0 (p1 + 1) 30000) = (-9) then 1 else
    if (s_X11_lastOf F M p0 (p1 + 1) 30000) < p2 then 0 else
    1) else
  if p1 = 2 then (if 0 < p1 then (if (s_X11_lastOf F M p0 (p1 - 1) 30000) = (-9) then 0 else
      if p2 < (s_X11_lastOf F M p0 (p1 - 1) 30000) then 0 else
      1) else
    if ((M 8) p0.toNatClampNeg) = 2 then (if ((M 13) p0.toNatClampNeg) ≤ p2 ∧ p2 ≤ ((M 14) p0.toNatClampNeg) then (if (s_X11_lastOf F M p0 (p1 - 1) 30000) = (-9) then 0 else
        if p2 < (s_X11_lastOf F M p0 (p1 - 1) 30000) then 0 else
        1) else
      0) else
    if (s_X11_lastOf F M p0 (p1 - 1) 30000) = (-9) then 0 else
    if p2 < (s_X11_lastOf F M p0 (p1 - 1) 30000) then 0 else
    1) else
  if 0 < p1 then (if (s_X11_lastOf F M p0 (p1 - 1) 30000) = (-9) then 0 else
    if p2 < (s_X11_lastOf F M p0 (p1 - 1) 30000) then 0 else
    if (s_X11_lastOf F M p0 (p1 + 1) 30000) = (-9) then 1 else
    if (s_X11_lastOf F M p0 (p1 + 1) 30000) < p2 then 0 else
    1) else
  if ((M 8) p0.toNatClampNeg) = 2 then (if ((M 13) p0.toNatClampNeg) ≤ p2 ∧ p2 ≤ ((M 14) p0.toNatClampNeg) then (if (s_X11_lastOf F M p0 (p1 - 1) 30000) = (-9) then 0 else
      if p2 < (s_X11_lastOf F M p0 (p1 - 1) 30000) then 0 else
      if (s_X11_lastOf F M p0 (p1 + 1) 30000) = (-9) then 1 else
      if (s_X11_lastOf F M p0 (p1 + 1) 30000) < p2 then 0 else
      1) else
    0) else
  if (s_X11_lastOf F M p0 (p1 - 1) 30000) = (-9) then 0 else
  if p2 < (s_X11_lastOf F M p0 (p1 - 1) 30000) then 0 else
  if (s_X11_lastOf F M p0 (p1 + 1) 30000) = (-9) then 1 else
  if (s_X11_lastOf F M p0 (p1 + 1) 30000) < p2 then 0 else
  1
set_option maxHeartbeats 4000000 in
set_option maxRecDepth 100000 in
theorem c_X11_mayNote (l : Launch) (dC : Nat → ClassId) (dI : Nat → Nat → Nat) (h : Nat) (a : Nat → Nat) (cI cB cZ : ClassId) (F : Nat → Int32) (M : Nat → Nat → Int32) (p0 : Int32) (p1 : Int32) (p2 : Int32) (hI : iv F M) (hp : vp_in p0 24) : Met l yX11_mayNote wsX11_mayNote ({ frames := 1, cells := 0, slots := 0, locals := 25 } : Room) (va_Pc [.ref h, .int p0, .int p1, .int p2] (pM dC dI h a cI cB cZ F M)) (vp_Si (fun r => r = s_X11_mayNote F M p0 p1 p2)) 0 0 (fun _ => False) := by
  refine Met.ofW (cc := cX11_mayNote) (maxL := 7) (ret := (some .boolean)) (by decide) rfl ?_
  intro p e s m args below meth c s₁ B hml hv
  obtain ⟨rfl, hP, hK⟩ := hv
  have hx := B.exec
  have hb := B.bytes
  have hr := B.returns
  have hts := atoms_spec (ws := wsX11_mayNote) B.pre
  have hown : s.vm.findClass RX11 = some m.cls := findClass_of_methodNamed B.named
  have hlocks := B.notSynchronized
  have hin : ∀ w ∈ wsX110, w ∈ wsX11_mayNote := by decide +kernel
  have hl := lv_entry ([.ref h, .int p0, .int p1, .int p2]) (n := 7) (Nat.le_of_ble_eq_true rfl)
  rw [lg_entry_eq]
  generalize (lg_sl ([.ref h, .int p0, .int p1, .int p2]) ++ List.replicate (7 - (lg_sl ([.ref h, .int p0, .int p1, .int p2])).length) Slot.unset).toArray = ls at hl ⊢
  have hl : lv_has ls 7 [(0, .ref h), (1, .int p0), (2, .int p1), (3, .int p2)] := hl
  refine lv_iload_n hx hb dX11_mayNote_0 rfl (lv_at hl 2 rfl) ?_
  refine lv_if_ne (tgt := 9) hx hb dX11_mayNote_1 (by decide) (fun c1 => ?_) (fun c1 => ?_)
  · refine lv_aload_n hx hb dX11_mayNote_9 rfl (lv_at hl 0 rfl) ?_
    refine lv_iload_n hx hb dX11_mayNote_10 rfl (lv_at hl 1 rfl) ?_
    refine lv_iload_n hx hb dX11_mayNote_11 rfl (lv_at hl 2 rfl) ?_
    refine lv_iconst (v := 1) hx hb dX11_mayNote_12 (by decide) ?_
    refine lv_isub hx hb dX11_mayNote_13 ?_
    refine lv_sipush (v := 30000) hx hb dX11_mayNote_14 (by decide) ?_
    refine vp_callSi (W.runV (As := [.int p0, .int (p1 - 1), .int 30000]) (rest := []) ⟨hx, hb, hml, hown, hts⟩ (c_X11_lastOf l dC dI h a cI cB cZ F M p0 (p1 - 1) 30000 hI) (cwV 3 hts gX11_mayNote_X11_lastOf rfl rfl rfl (by decide +kernel) ⟨Nat.le_of_ble_eq_true rfl, Nat.le_of_ble_eq_true rfl⟩) ⟨pm_blind, va_recv hK hP (ci := 10) (q0 := 0) rfl rfl, fun U hU hW => ⟨rfl, by rw [hU]; exact hP, va_K.moved hW.alike hK⟩⟩ rfl rfl hl.1 rfl (lv_room (Nat.le_of_ble_eq_true rfl)) dX11_mayNote_17 ⟨Nat.zero_le _, Nat.zero_le _⟩) (fun r hr9 => ?_)
    subst hr9
    refine lv_istore (lv' := [(4, .int (s_X11_lastOf F M p0 (p1 - 1) 30000)), (0, .ref h), (1, .int p0), (2, .int p1), (3, .int p2)]) hx hb dX11_mayNote_20 hl (by decide) rfl (fun ls hl => ?_)
    refine lv_iload_n hx hb dX11_mayNote_22 rfl (lv_at hl 3 rfl) ?_
    refine lv_iconst (v := 2) hx hb dX11_mayNote_23 (by decide) ?_
    refine lv_icmp_ne (tgt := 32) hx hb dX11_mayNote_24 (by decide) (fun c2 => ?_) (fun c2 => ?_)
    · refine lv_aload_n hx hb dX11_mayNote_32 rfl (lv_at hl 1 rfl) ?_
      refine lv_iload_n hx hb dX11_mayNote_33 rfl (lv_at hl 2 rfl) ?_
      refine lv_iload_n hx hb dX11_mayNote_34 rfl (lv_at hl 3 rfl) ?_
      refine lv_iconst (v := 1) hx hb dX11_mayNote_35 (by decide) ?_
      refine lv_iadd hx hb dX11_mayNote_36 ?_
      refine lv_sipush (v := 30000) hx hb dX11_mayNote_37 (by decide) ?_
      refine vp_callSi (W.runV (As := [.int p0, .int (p1 + 1), .int 30000]) (rest := []) ⟨hx, hb, hml, hown, hts⟩ (c_X11_lastOf l dC dI h a cI cB cZ F M p0 (p1 + 1) 30000 hI) (cwV 3 hts gX11_mayNote_X11_lastOf rfl rfl rfl (by decide +kernel) ⟨Nat.le_of_ble_eq_true rfl, Nat.le_of_ble_eq_true rfl⟩) ⟨pm_blind, va_recv hK hP (ci := 10) (q0 := 0) rfl rfl, fun U hU hW => ⟨rfl, by rw [hU]; exact hP, va_K.moved hW.alike hK⟩⟩ rfl rfl hl.1 rfl (lv_room (Nat.le_of_ble_eq_true rfl)) dX11_mayNote_40 ⟨Nat.zero_le _, Nat.zero_le _⟩) (fun r hr9 => ?_)
      subst hr9
      refine lv_istore (lv' := [(5, .int (s_X11_lastOf F M p0 (p1 + 1) 30000)), (4, .int (s_X11_lastOf F M p0 (p1 - 1) 30000)), (0, .ref h), (1, .int p0), (2, .int p1), (3, .int p2)]) hx hb dX11_mayNote_43 hl (by decide) rfl (fun ls hl => ?_)
      refine lv_iload_n hx hb dX11_mayNote_45 rfl (lv_at hl 4 rfl) ?_
      refine lv_if_gt (tgt := 78) hx hb dX11_mayNote_46 (by decide) (fun c3 => ?_) (fun c3 => ?_)
      · refine lv_iconst (v := 1) hx hb dX11_mayNote_78 (by decide) ?_
        refine lv_goto (tgt := 83) hx hb dX11_mayNote_79 (by decide) ?_
        refine lv_istore (lv' := [(6, .int 1), (5, .int (s_X11_lastOf F M p0 (p1 + 1) 30000)), (4, .int (s_X11_lastOf F M p0 (p1 - 1) 30000)), (0, .ref h), (1, .int p0), (2, .int p1), (3, .int p2)]) hx hb dX11_mayNote_83 hl (by decide) rfl (fun ls hl => ?_)
        refine lv_iload hx hb dX11_mayNote_85 (lv_at hl 0 rfl) ?_
        refine lv_if_eq (tgt := 124) hx hb dX11_mayNote_87 (by decide) (fun c => absurd c (by decide)) (fun _ => ?_)
        refine lv_iload_n hx hb dX11_mayNote_90 rfl (lv_at hl 5 rfl) ?_
        refine lv_if_eq (tgt := 107) hx hb dX11_mayNote_91 (by decide) (fun c => absurd c c1) (fun _ => ?_)
        refine lv_iload hx hb dX11_mayNote_94 (lv_at hl 2 rfl) ?_
        refine lv_bipush (v := (-9)) hx hb dX11_mayNote_96 (by decide) ?_
        refine lv_icmp_eq (tgt := 124) hx hb dX11_mayNote_98 (by decide) (fun c4 => ?_) (fun c4 => ?_)
        · refine lv_iconst (v := 0) hx hb dX11_mayNote_124 (by decide) ?_
          exact W.zret (v := 0) hx hb hr (rfl) (fun t ht hW => ⟨0, rfl, by unfold s_X11_mayNote; rw [if_neg c1, if_neg c2, if_pos c3, if_pos c4], ht⟩) (fun _ h => by cases h) dX11_mayNote_125
        · refine lv_iload hx hb dX11_mayNote_101 (lv_at hl 2 rfl) ?_
          refine lv_iload_n hx hb dX11_mayNote_103 rfl (lv_at hl 6 rfl) ?_
          refine lv_icmp_gt (tgt := 124) hx hb dX11_mayNote_104 (by decide) (fun c5 => ?_) (fun c5 => ?_)
          · refine lv_iconst (v := 0) hx hb dX11_mayNote_124 (by decide) ?_
            exact W.zret (v := 0) hx hb hr (rfl) (fun t ht hW => ⟨0, rfl, by unfold s_X11_mayNote; rw [if_neg c1, if_neg c2, if_pos c3, if_neg c4, if_pos c5], ht⟩) (fun _ h => by cases h) dX11_mayNote_125
          · refine lv_iload hx hb dX11_mayNote_107 (lv_at hl 1 rfl) ?_
            refine lv_bipush (v := (-9)) hx hb dX11_mayNote_109 (by decide) ?_
            refine lv_icmp_eq (tgt := 120) hx hb dX11_mayNote_111 (by decide) (fun c6 => ?_) (fun c6 => ?_)
            · refine lv_iconst (v := 1) hx hb dX11_mayNote_120 (by decide) ?_
              refine lv_goto (tgt := 125) hx hb dX11_mayNote_121 (by decide) ?_
              exact W.zret (v := 1) hx hb hr (rfl) (fun t ht hW => ⟨1, rfl, by unfold s_X11_mayNote; rw [if_neg c1, if_neg c2, if_pos c3, if_neg c4, if_neg c5, if_pos c6], ht⟩) (fun _ h => by cases h) dX11_mayNote_125
            · refine lv_iload_n hx hb dX11_mayNote_114 rfl (lv_at hl 6 rfl) ?_
              refine lv_iload hx hb dX11_mayNote_115 (lv_at hl 1 rfl) ?_
              refine lv_icmp_gt (tgt := 124) hx hb dX11_mayNote_117 (by decide) (fun c7 => ?_) (fun c7 => ?_)
              · refine lv_iconst (v := 0) hx hb dX11_mayNote_124 (by decide) ?_
                exact W.zret (v := 0) hx hb hr (rfl) (fun t ht hW => ⟨0, rfl, by unfold s_X11_mayNote; rw [if_neg c1, if_neg c2, if_pos c3, if_neg c4, if_neg c5, if_neg c6, if_pos c7], ht⟩) (fun _ h => by cases h) dX11_mayNote_125
              · refine lv_iconst (v := 1) hx hb dX11_mayNote_120 (by decide) ?_
                refine lv_goto (tgt := 125) hx hb dX11_mayNote_121 (by decide) ?_
                exact W.zret (v := 1) hx hb hr (rfl) (fun t ht hW => ⟨1, rfl, by unfold s_X11_mayNote; rw [if_neg c1, if_neg c2, if_pos c3, if_neg c4, if_neg c5, if_neg c6, if_neg c7], ht⟩) (fun _ h => by cases h) dX11_mayNote_125
      · refine lv_aload_n hx hb dX11_mayNote_49 rfl (lv_at hl 2 rfl) ?_
        refine va_get (D := (dC, dI)) (ci := 10) (v := .ref (a 8)) (C := RX11) (T := TX11) (N := 49) hx hb hts hin hown hK hP 0 rfl rfl 8 (by decide) (hts (.fieldLink RX11 19 "SocietyBookModel" "kindOf" "[I") (by decide +kernel)) (fun _ h9 => h9) rfl dX11_mayNote_50 ?_
        refine lv_iload_n hx hb dX11_mayNote_53 rfl (lv_at hl 3 rfl) ?_
        refine va_iald (f := M 8) hx hb hK hP 4 0 rfl rfl hp dX11_mayNote_54 ?_
        refine lv_iconst (v := 2) hx hb dX11_mayNote_55 (by decide) ?_
        refine lv_icmp_ne (tgt := 78) hx hb dX11_mayNote_56 (by decide) (fun c8 => ?_) (fun c8 => ?_)
        · refine lv_iconst (v := 1) hx hb dX11_mayNote_78 (by decide) ?_
          refine lv_goto (tgt := 83) hx hb dX11_mayNote_79 (by decide) ?_
          refine lv_istore (lv' := [(6, .int 1), (5, .int (s_X11_lastOf F M p0 (p1 + 1) 30000)), (4, .int (s_X11_lastOf F M p0 (p1 - 1) 30000)), (0, .ref h), (1, .int p0), (2, .int p1), (3, .int p2)]) hx hb dX11_mayNote_83 hl (by decide) rfl (fun ls hl => ?_)
          refine lv_iload hx hb dX11_mayNote_85 (lv_at hl 0 rfl) ?_
          refine lv_if_eq (tgt := 124) hx hb dX11_mayNote_87 (by decide) (fun c => absurd c (by decide)) (fun _ => ?_)
          refine lv_iload_n hx hb dX11_mayNote_90 rfl (lv_at hl 5 rfl) ?_
          refine lv_if_eq (tgt := 107) hx hb dX11_mayNote_91 (by decide) (fun c => absurd c c1) (fun _ => ?_)
          refine lv_iload hx hb dX11_mayNote_94 (lv_at hl 2 rfl) ?_
          refine lv_bipush (v := (-9)) hx hb dX11_mayNote_96 (by decide) ?_
          refine lv_icmp_eq (tgt := 124) hx hb dX11_mayNote_98 (by decide) (fun c9 => ?_) (fun c9 => ?_)
          · refine lv_iconst (v := 0) hx hb dX11_mayNote_124 (by decide) ?_
            exact W.zret (v := 0) hx hb hr (rfl) (fun t ht hW => ⟨0, rfl, by unfold s_X11_mayNote; rw [if_neg c1, if_neg c2, if_neg c3, if_neg c8, if_pos c9], ht⟩) (fun _ h => by cases h) dX11_mayNote_125
          · refine lv_iload hx hb dX11_mayNote_101 (lv_at hl 2 rfl) ?_
            refine lv_iload_n hx hb dX11_mayNote_103 rfl (lv_at hl 6 rfl) ?_
            refine lv_icmp_gt (tgt := 124) hx hb dX11_mayNote_104 (by decide) (fun c10 => ?_) (fun c10 => ?_)
            · refine lv_iconst (v := 0) hx hb dX11_mayNote_124 (by decide) ?_
              exact W.zret (v := 0) hx hb hr (rfl) (fun t ht hW => ⟨0, rfl, by unfold s_X11_mayNote; rw [if_neg c1, if_neg c2, if_neg c3, if_neg c8, if_neg c9, if_pos c10], ht⟩) (fun _ h => by cases h) dX11_mayNote_125
            · refine lv_iload hx hb dX11_mayNote_107 (lv_at hl 1 rfl) ?_
              refine lv_bipush (v := (-9)) hx hb dX11_mayNote_109 (by decide) ?_
              refine lv_icmp_eq (tgt := 120) hx hb dX11_mayNote_111 (by decide) (fun c11 => ?_) (fun c11 => ?_)
              · refine lv_iconst (v := 1) hx hb dX11_mayNote_120 (by decide) ?_
                refine lv_goto (tgt := 125) hx hb dX11_mayNote_121 (by decide) ?_
                exact W.zret (v := 1) hx hb hr (rfl) (fun t ht hW => ⟨1, rfl, by unfold s_X11_mayNote; rw [if_neg c1, if_neg c2, if_neg c3, if_neg c8, if_neg c9, if_neg c10, if_pos c11], ht⟩) (fun _ h => by cases h) dX11_mayNote_125
              · refine lv_iload_n hx hb dX11_mayNote_114 rfl (lv_at hl 6 rfl) ?_
                refine lv_iload hx hb dX11_mayNote_115 (lv_at hl 1 rfl) ?_
                refine lv_icmp_gt (tgt := 124) hx hb dX11_mayNote_117 (by decide) (fun c12 => ?_) (fun c12 => ?_)
                · refine lv_iconst (v := 0) hx hb dX11_mayNote_124 (by decide) ?_
                  exact W.zret (v := 0) hx hb hr (rfl) (fun t ht hW => ⟨0, rfl, by unfold s_X11_mayNote; rw [if_neg c1, if_neg c2, if_neg c3, if_neg c8, if_neg c9, if_neg c10, if_neg c11, if_pos c12], ht⟩) (fun _ h => by cases h) dX11_mayNote_125
                · refine lv_iconst (v := 1) hx hb dX11_mayNote_120 (by decide) ?_
                  refine lv_goto (tgt := 125) hx hb dX11_mayNote_121 (by decide) ?_
                  exact W.zret (v := 1) hx hb hr (rfl) (fun t ht hW => ⟨1, rfl, by unfold s_X11_mayNote; rw [if_neg c1, if_neg c2, if_neg c3, if_neg c8, if_neg c9, if_neg c10, if_neg c11, if_neg c12], ht⟩) (fun _ h => by cases h) dX11_mayNote_125
        · refine lv_iload_n hx hb dX11_mayNote_59 rfl (lv_at hl 5 rfl) ?_
          refine lv_aload_n hx hb dX11_mayNote_60 rfl (lv_at hl 2 rfl) ?_
          refine va_get (D := (dC, dI)) (ci := 10) (v := .ref (a 13)) (C := RX11) (T := TX11) (N := 49) hx hb hts hin hown hK hP 0 rfl rfl 13 (by decide) (hts (.fieldLink RX11 34 "SocietyBookModel" "spanFrom" "[I") (by decide +kernel)) (fun _ h9 => h9) rfl dX11_mayNote_61 ?_
          refine lv_iload_n hx hb dX11_mayNote_64 rfl (lv_at hl 3 rfl) ?_
          refine va_iald (f := M 13) hx hb hK hP 9 0 rfl rfl hp dX11_mayNote_65 ?_
          refine lv_aload_n hx hb dX11_mayNote_66 rfl (lv_at hl 2 rfl) ?_
          refine va_get (D := (dC, dI)) (ci := 10) (v := .ref (a 14)) (C := RX11) (T := TX11) (N := 49) hx hb hts hin hown hK hP 0 rfl rfl 14 (by decide) (hts (.fieldLink RX11 37 "SocietyBookModel" "spanTo" "[I") (by decide +kernel)) (fun _ h9 => h9) rfl dX11_mayNote_67 ?_
          refine lv_iload_n hx hb dX11_mayNote_70 rfl (lv_at hl 3 rfl) ?_
          refine va_iald (f := M 14) hx hb hK hP 10 0 rfl rfl hp dX11_mayNote_71 ?_
          refine vp_callSi (W.runS (As := [.int p2, .int ((M 13) p0.toNatClampNeg), .int ((M 14) p0.toNatClampNeg)]) (rest := []) ⟨hx, hb, hml, hown, hts⟩ (c_X11_in l p2 ((M 13) p0.toNatClampNeg) ((M 14) p0.toNatClampNeg)) (va_cwS 3 hts gX11_mayNote_X11_in rfl rfl rfl (by decide +kernel) ⟨Nat.le_of_ble_eq_true rfl, Nat.le_of_ble_eq_true rfl⟩) ⟨fun _ _ _ _ q => q, fun U hU hW => ⟨rfl, trivial⟩⟩ rfl rfl hl.1 rfl (lv_room (Nat.le_of_ble_eq_true rfl)) dX11_mayNote_72 ⟨Nat.zero_le _, Nat.zero_le _⟩) (fun r hr9 => ?_)
          subst hr9
          refine lv_if_eq (tgt := 82) hx hb dX11_mayNote_75 (by decide) (fun c13 => ?_) (fun c13 => ?_)
          · replace c13 := bo_f c13
            refine lv_iconst (v := 0) hx hb dX11_mayNote_82 (by decide) ?_
            refine lv_istore (lv' := [(6, .int 0), (5, .int (s_X11_lastOf F M p0 (p1 + 1) 30000)), (4, .int (s_X11_lastOf F M p0 (p1 - 1) 30000)), (0, .ref h), (1, .int p0), (2, .int p1), (3, .int p2)]) hx hb dX11_mayNote_83 hl (by decide) rfl (fun ls hl => ?_)
            refine lv_iload hx hb dX11_mayNote_85 (lv_at hl 0 rfl) ?_
            refine lv_if_eq (tgt := 124) hx hb dX11_mayNote_87 (by decide) (fun _ => ?_) (fun c => absurd c (by decide))
            refine lv_iconst (v := 0) hx hb dX11_mayNote_124 (by decide) ?_
            exact W.zret (v := 0) hx hb hr (rfl) (fun t ht hW => ⟨0, rfl, by unfold s_X11_mayNote; rw [if_neg c1, if_neg c2, if_neg c3, if_pos c8, if_neg c13], ht⟩) (fun _ h => by cases h) dX11_mayNote_125
          · replace c13 := bo_t c13
            refine lv_iconst (v := 1) hx hb dX11_mayNote_78 (by decide) ?_
            refine lv_goto (tgt := 83) hx hb dX11_mayNote_79 (by decide) ?_
            refine lv_istore (lv' := [(6, .int 1), (5, .int (s_X11_lastOf F M p0 (p1 + 1) 30000)), (4, .int (s_X11_lastOf F M p0 (p1 - 1) 30000)), (0, .ref h), (1, .int p0), (2, .int p1), (3, .int p2)]) hx hb dX11_mayNote_83 hl (by decide) rfl (fun ls hl => ?_)
            refine lv_iload hx hb dX11_mayNote_85 (lv_at hl 0 rfl) ?_
            refine lv_if_eq (tgt := 124) hx hb dX11_mayNote_87 (by decide) (fun c => absurd c (by decide)) (fun _ => ?_)
            refine lv_iload_n hx hb dX11_mayNote_90 rfl (lv_at hl 5 rfl) ?_
            refine lv_if_eq (tgt := 107) hx hb dX11_mayNote_91 (by decide) (fun c => absurd c c1) (fun _ => ?_)
            refine lv_iload hx hb dX11_mayNote_94 (lv_at hl 2 rfl) ?_
            refine lv_bipush (v := (-9)) hx hb dX11_mayNote_96 (by decide) ?_
            refine lv_icmp_eq (tgt := 124) hx hb dX11_mayNote_98 (by decide) (fun c14 => ?_) (fun c14 => ?_)
            · refine lv_iconst (v := 0) hx hb dX11_mayNote_124 (by decide) ?_
              exact W.zret (v := 0) hx hb hr (rfl) (fun t ht hW => ⟨0, rfl, by unfold s_X11_mayNote; rw [if_neg c1, if_neg c2, if_neg c3, if_pos c8, if_pos c13, if_pos c14], ht⟩) (fun _ h => by cases h) dX11_mayNote_125
            · refine lv_iload hx hb dX11_mayNote_101 (lv_at hl 2 rfl) ?_
              refine lv_iload_n hx hb dX11_mayNote_103 rfl (lv_at hl 6 rfl) ?_
              refine lv_icmp_gt (tgt := 124) hx hb dX11_mayNote_104 (by decide) (fun c15 => ?_) (fun c15 => ?_)
              · refine lv_iconst (v := 0) hx hb dX11_mayNote_124 (by decide) ?_
                exact W.zret (v := 0) hx hb hr (rfl) (fun t ht hW => ⟨0, rfl, by unfold s_X11_mayNote; rw [if_neg c1, if_neg c2, if_neg c3, if_pos c8, if_pos c13, if_neg c14, if_pos c15], ht⟩) (fun _ h => by cases h) dX11_mayNote_125
              · refine lv_iload hx hb dX11_mayNote_107 (lv_at hl 1 rfl) ?_
                refine lv_bipush (v := (-9)) hx hb dX11_mayNote_109 (by decide) ?_
                refine lv_icmp_eq (tgt := 120) hx hb dX11_mayNote_111 (by decide) (fun c16 => ?_) (fun c16 => ?_)
                · refine lv_iconst (v := 1) hx hb dX11_mayNote_120 (by decide) ?_
                  refine lv_goto (tgt := 125) hx hb dX11_mayNote_121 (by decide) ?_
                  exact W.zret (v := 1) hx hb hr (rfl) (fun t ht hW => ⟨1, rfl, by unfold s_X11_mayNote; rw [if_neg c1, if_neg c2, if_neg c3, if_pos c8, if_pos c13, if_neg c14, if_neg c15, if_pos c16], ht⟩) (fun _ h => by cases h) dX11_mayNote_125
                · refine lv_iload_n hx hb dX11_mayNote_114 rfl (lv_at hl 6 rfl) ?_
                  refine lv_iload hx hb dX11_mayNote_115 (lv_at hl 1 rfl) ?_
                  refine lv_icmp_gt (tgt := 124) hx hb dX11_mayNote_117 (by decide) (fun c17 => ?_) (fun c17 => ?_)
                  · refine lv_iconst (v := 0) hx hb dX11_mayNote_124 (by decide) ?_
                    exact W.zret (v := 0) hx hb hr (rfl) (fun t ht hW => ⟨0, rfl, by unfold s_X11_mayNote; rw [if_neg c1, if_neg c2, if_neg c3, if_pos c8, if_pos c13, if_neg c14, if_neg c15, if_neg c16, if_pos c17], ht⟩) (fun _ h => by cases h) dX11_mayNote_125
                  · refine lv_iconst (v := 1) hx hb dX11_mayNote_120 (by decide) ?_
                    refine lv_goto (tgt := 125) hx hb dX11_mayNote_121 (by decide) ?_
                    exact W.zret (v := 1) hx hb hr (rfl) (fun t ht hW => ⟨1, rfl, by unfold s_X11_mayNote; rw [if_neg c1, if_neg c2, if_neg c3, if_pos c8, if_pos c13, if_neg c14, if_neg c15, if_neg c16, if_neg c17], ht⟩) (fun _ h => by cases h) dX11_mayNote_125
    · refine lv_bipush (v := (-9)) hx hb dX11_mayNote_27 (by decide) ?_
      refine lv_goto (tgt := 43) hx hb dX11_mayNote_29 (by decide) ?_
      refine lv_istore (lv' := [(5, .int (-9)), (4, .int (s_X11_lastOf F M p0 (p1 - 1) 30000)), (0, .ref h), (1, .int p0), (2, .int p1), (3, .int p2)]) hx hb dX11_mayNote_43 hl (by decide) rfl (fun ls hl => ?_)
      refine lv_iload_n hx hb dX11_mayNote_45 rfl (lv_at hl 4 rfl) ?_
      refine lv_if_gt (tgt := 78) hx hb dX11_mayNote_46 (by decide) (fun c18 => ?_) (fun c18 => ?_)
      · refine lv_iconst (v := 1) hx hb dX11_mayNote_78 (by decide) ?_
        refine lv_goto (tgt := 83) hx hb dX11_mayNote_79 (by decide) ?_
        refine lv_istore (lv' := [(6, .int 1), (5, .int (-9)), (4, .int (s_X11_lastOf F M p0 (p1 - 1) 30000)), (0, .ref h), (1, .int p0), (2, .int p1), (3, .int p2)]) hx hb dX11_mayNote_83 hl (by decide) rfl (fun ls hl => ?_)
        refine lv_iload hx hb dX11_mayNote_85 (lv_at hl 0 rfl) ?_
        refine lv_if_eq (tgt := 124) hx hb dX11_mayNote_87 (by decide) (fun c => absurd c (by decide)) (fun _ => ?_)
        refine lv_iload_n hx hb dX11_mayNote_90 rfl (lv_at hl 5 rfl) ?_
        refine lv_if_eq (tgt := 107) hx hb dX11_mayNote_91 (by decide) (fun c => absurd c c1) (fun _ => ?_)
        refine lv_iload hx hb dX11_mayNote_94 (lv_at hl 2 rfl) ?_
        refine lv_bipush (v := (-9)) hx hb dX11_mayNote_96 (by decide) ?_
        refine lv_icmp_eq (tgt := 124) hx hb dX11_mayNote_98 (by decide) (fun c19 => ?_) (fun c19 => ?_)
        · refine lv_iconst (v := 0) hx hb dX11_mayNote_124 (by decide) ?_
          exact W.zret (v := 0) hx hb hr (rfl) (fun t ht hW => ⟨0, rfl, by unfold s_X11_mayNote; rw [if_neg c1, if_pos c2, if_pos c18, if_pos c19], ht⟩) (fun _ h => by cases h) dX11_mayNote_125
        · refine lv_iload hx hb dX11_mayNote_101 (lv_at hl 2 rfl) ?_
          refine lv_iload_n hx hb dX11_mayNote_103 rfl (lv_at hl 6 rfl) ?_
          refine lv_icmp_gt (tgt := 124) hx hb dX11_mayNote_104 (by decide) (fun c20 => ?_) (fun c20 => ?_)
          · refine lv_iconst (v := 0) hx hb dX11_mayNote_124 (by decide) ?_
            exact W.zret (v := 0) hx hb hr (rfl) (fun t ht hW => ⟨0, rfl, by unfold s_X11_mayNote; rw [if_neg c1, if_pos c2, if_pos c18, if_neg c19, if_pos c20], ht⟩) (fun _ h => by cases h) dX11_mayNote_125
          · refine lv_iload hx hb dX11_mayNote_107 (lv_at hl 1 rfl) ?_
            refine lv_bipush (v := (-9)) hx hb dX11_mayNote_109 (by decide) ?_
            refine lv_icmp_eq (tgt := 120) hx hb dX11_mayNote_111 (by decide) (fun _ => ?_) (fun c => absurd c (by decide))
            refine lv_iconst (v := 1) hx hb dX11_mayNote_120 (by decide) ?_
            refine lv_goto (tgt := 125) hx hb dX11_mayNote_121 (by decide) ?_
            exact W.zret (v := 1) hx hb hr (rfl) (fun t ht hW => ⟨1, rfl, by unfold s_X11_mayNote; rw [if_neg c1, if_pos c2, if_pos c18, if_neg c19, if_neg c20], ht⟩) (fun _ h => by cases h) dX11_mayNote_125
      · refine lv_aload_n hx hb dX11_mayNote_49 rfl (lv_at hl 2 rfl) ?_
        refine va_get (D := (dC, dI)) (ci := 10) (v := .ref (a 8)) (C := RX11) (T := TX11) (N := 49) hx hb hts hin hown hK hP 0 rfl rfl 8 (by decide) (hts (.fieldLink RX11 19 "SocietyBookModel" "kindOf" "[I") (by decide +kernel)) (fun _ h9 => h9) rfl dX11_mayNote_50 ?_
        refine lv_iload_n hx hb dX11_mayNote_53 rfl (lv_at hl 3 rfl) ?_
        refine va_iald (f := M 8) hx hb hK hP 4 0 rfl rfl hp dX11_mayNote_54 ?_
        refine lv_iconst (v := 2) hx hb dX11_mayNote_55 (by decide) ?_
        refine lv_icmp_ne (tgt := 78) hx hb dX11_mayNote_56 (by decide) (fun c21 => ?_) (fun c21 => ?_)
        · refine lv_iconst (v := 1) hx hb dX11_mayNote_78 (by decide) ?_
          refine lv_goto (tgt := 83) hx hb dX11_mayNote_79 (by decide) ?_
          refine lv_istore (lv' := [(6, .int 1), (5, .int (-9)), (4, .int (s_X11_lastOf F M p0 (p1 - 1) 30000)), (0, .ref h), (1, .int p0), (2, .int p1), (3, .int p2)]) hx hb dX11_mayNote_83 hl (by decide) rfl (fun ls hl => ?_)
          refine lv_iload hx hb dX11_mayNote_85 (lv_at hl 0 rfl) ?_
          refine lv_if_eq (tgt := 124) hx hb dX11_mayNote_87 (by decide) (fun c => absurd c (by decide)) (fun _ => ?_)
          refine lv_iload_n hx hb dX11_mayNote_90 rfl (lv_at hl 5 rfl) ?_
          refine lv_if_eq (tgt := 107) hx hb dX11_mayNote_91 (by decide) (fun c => absurd c c1) (fun _ => ?_)
          refine lv_iload hx hb dX11_mayNote_94 (lv_at hl 2 rfl) ?_
          refine lv_bipush (v := (-9)) hx hb dX11_mayNote_96 (by decide) ?_
          refine lv_icmp_eq (tgt := 124) hx hb dX11_mayNote_98 (by decide) (fun c22 => ?_) (fun c22 => ?_)
          · refine lv_iconst (v := 0) hx hb dX11_mayNote_124 (by decide) ?_
            exact W.zret (v := 0) hx hb hr (rfl) (fun t ht hW => ⟨0, rfl, by unfold s_X11_mayNote; rw [if_neg c1, if_pos c2, if_neg c18, if_neg c21, if_pos c22], ht⟩) (fun _ h => by cases h) dX11_mayNote_125
          · refine lv_iload hx hb dX11_mayNote_101 (lv_at hl 2 rfl) ?_
            refine lv_iload_n hx hb dX11_mayNote_103 rfl (lv_at hl 6 rfl) ?_
            refine lv_icmp_gt (tgt := 124) hx hb dX11_mayNote_104 (by decide) (fun c23 => ?_) (fun c23 => ?_)
            · refine lv_iconst (v := 0) hx hb dX11_mayNote_124 (by decide) ?_
              exact W.zret (v := 0) hx hb hr (rfl) (fun t ht hW => ⟨0, rfl, by unfold s_X11_mayNote; rw [if_neg c1, if_pos c2, if_neg c18, if_neg c21, if_neg c22, if_pos c23], ht⟩) (fun _ h => by cases h) dX11_mayNote_125
            · refine lv_iload hx hb dX11_mayNote_107 (lv_at hl 1 rfl) ?_
              refine lv_bipush (v := (-9)) hx hb dX11_mayNote_109 (by decide) ?_
              refine lv_icmp_eq (tgt := 120) hx hb dX11_mayNote_111 (by decide) (fun _ => ?_) (fun c => absurd c (by decide))
              refine lv_iconst (v := 1) hx hb dX11_mayNote_120 (by decide) ?_
              refine lv_goto (tgt := 125) hx hb dX11_mayNote_121 (by decide) ?_
              exact W.zret (v := 1) hx hb hr (rfl) (fun t ht hW => ⟨1, rfl, by unfold s_X11_mayNote; rw [if_neg c1, if_pos c2, if_neg c18, if_neg c21, if_neg c22, if_neg c23], ht⟩) (fun _ h => by cases h) dX11_mayNote_125
        · refine lv_iload_n hx hb dX11_mayNote_59 rfl (lv_at hl 5 rfl) ?_
          refine lv_aload_n hx hb dX11_mayNote_60 rfl (lv_at hl 2 rfl) ?_
          refine va_get (D := (dC, dI)) (ci := 10) (v := .ref (a 13)) (C := RX11) (T := TX11) (N := 49) hx hb hts hin hown hK hP 0 rfl rfl 13 (by decide) (hts (.fieldLink RX11 34 "SocietyBookModel" "spanFrom" "[I") (by decide +kernel)) (fun _ h9 => h9) rfl dX11_mayNote_61 ?_
          refine lv_iload_n hx hb dX11_mayNote_64 rfl (lv_at hl 3 rfl) ?_
          refine va_iald (f := M 13) hx hb hK hP 9 0 rfl rfl hp dX11_mayNote_65 ?_
          refine lv_aload_n hx hb dX11_mayNote_66 rfl (lv_at hl 2 rfl) ?_
          refine va_get (D := (dC, dI)) (ci := 10) (v := .ref (a 14)) (C := RX11) (T := TX11) (N := 49) hx hb hts hin hown hK hP 0 rfl rfl 14 (by decide) (hts (.fieldLink RX11 37 "SocietyBookModel" "spanTo" "[I") (by decide +kernel)) (fun _ h9 => h9) rfl dX11_mayNote_67 ?_
          refine lv_iload_n hx hb dX11_mayNote_70 rfl (lv_at hl 3 rfl) ?_
          refine va_iald (f := M 14) hx hb hK hP 10 0 rfl rfl hp dX11_mayNote_71 ?_
          refine vp_callSi (W.runS (As := [.int p2, .int ((M 13) p0.toNatClampNeg), .int ((M 14) p0.toNatClampNeg)]) (rest := []) ⟨hx, hb, hml, hown, hts⟩ (c_X11_in l p2 ((M 13) p0.toNatClampNeg) ((M 14) p0.toNatClampNeg)) (va_cwS 3 hts gX11_mayNote_X11_in rfl rfl rfl (by decide +kernel) ⟨Nat.le_of_ble_eq_true rfl, Nat.le_of_ble_eq_true rfl⟩) ⟨fun _ _ _ _ q => q, fun U hU hW => ⟨rfl, trivial⟩⟩ rfl rfl hl.1 rfl (lv_room (Nat.le_of_ble_eq_true rfl)) dX11_mayNote_72 ⟨Nat.zero_le _, Nat.zero_le _⟩) (fun r hr9 => ?_)
          subst hr9
          refine lv_if_eq (tgt := 82) hx hb dX11_mayNote_75 (by decide) (fun c24 => ?_) (fun c24 => ?_)
          · replace c24 := bo_f c24
            refine lv_iconst (v := 0) hx hb dX11_mayNote_82 (by decide) ?_
            refine lv_istore (lv' := [(6, .int 0), (5, .int (-9)), (4, .int (s_X11_lastOf F M p0 (p1 - 1) 30000)), (0, .ref h), (1, .int p0), (2, .int p1), (3, .int p2)]) hx hb dX11_mayNote_83 hl (by decide) rfl (fun ls hl => ?_)
            refine lv_iload hx hb dX11_mayNote_85 (lv_at hl 0 rfl) ?_
            refine lv_if_eq (tgt := 124) hx hb dX11_mayNote_87 (by decide) (fun _ => ?_) (fun c => absurd c (by decide))
            refine lv_iconst (v := 0) hx hb dX11_mayNote_124 (by decide) ?_
            exact W.zret (v := 0) hx hb hr (rfl) (fun t ht hW => ⟨0, rfl, by unfold s_X11_mayNote; rw [if_neg c1, if_pos c2, if_neg c18, if_pos c21, if_neg c24], ht⟩) (fun _ h => by cases h) dX11_mayNote_125
          · replace c24 := bo_t c24
            refine lv_iconst (v := 1) hx hb dX11_mayNote_78 (by decide) ?_
            refine lv_goto (tgt := 83) hx hb dX11_mayNote_79 (by decide) ?_
            refine lv_istore (lv' := [(6, .int 1), (5, .int (-9)), (4, .int (s_X11_lastOf F M p0 (p1 - 1) 30000)), (0, .ref h), (1, .int p0), (2, .int p1), (3, .int p2)]) hx hb dX11_mayNote_83 hl (by decide) rfl (fun ls hl => ?_)
            refine lv_iload hx hb dX11_mayNote_85 (lv_at hl 0 rfl) ?_
            refine lv_if_eq (tgt := 124) hx hb dX11_mayNote_87 (by decide) (fun c => absurd c (by decide)) (fun _ => ?_)
            refine lv_iload_n hx hb dX11_mayNote_90 rfl (lv_at hl 5 rfl) ?_
            refine lv_if_eq (tgt := 107) hx hb dX11_mayNote_91 (by decide) (fun c => absurd c c1) (fun _ => ?_)
            refine lv_iload hx hb dX11_mayNote_94 (lv_at hl 2 rfl) ?_
            refine lv_bipush (v := (-9)) hx hb dX11_mayNote_96 (by decide) ?_
            refine lv_icmp_eq (tgt := 124) hx hb dX11_mayNote_98 (by decide) (fun c25 => ?_) (fun c25 => ?_)
            · refine lv_iconst (v := 0) hx hb dX11_mayNote_124 (by decide) ?_
              exact W.zret (v := 0) hx hb hr (rfl) (fun t ht hW => ⟨0, rfl, by unfold s_X11_mayNote; rw [if_neg c1, if_pos c2, if_neg c18, if_pos c21, if_pos c24, if_pos c25], ht⟩) (fun _ h => by cases h) dX11_mayNote_125
            · refine lv_iload hx hb dX11_mayNote_101 (lv_at hl 2 rfl) ?_
              refine lv_iload_n hx hb dX11_mayNote_103 rfl (lv_at hl 6 rfl) ?_
              refine lv_icmp_gt (tgt := 124) hx hb dX11_mayNote_104 (by decide) (fun c26 => ?_) (fun c26 => ?_)
              · refine lv_iconst (v := 0) hx hb dX11_mayNote_124 (by decide) ?_
                exact W.zret (v := 0) hx hb hr (rfl) (fun t ht hW => ⟨0, rfl, by unfold s_X11_mayNote; rw [if_neg c1, if_pos c2, if_neg c18, if_pos c21, if_pos c24, if_neg c25, if_pos c26], ht⟩) (fun _ h => by cases h) dX11_mayNote_125
              · refine lv_iload hx hb dX11_mayNote_107 (lv_at hl 1 rfl) ?_
                refine lv_bipush (v := (-9)) hx hb dX11_mayNote_109 (by decide) ?_
                refine lv_icmp_eq (tgt := 120) hx hb dX11_mayNote_111 (by decide) (fun _ => ?_) (fun c => absurd c (by decide))
                refine lv_iconst (v := 1) hx hb dX11_mayNote_120 (by decide) ?_
                refine lv_goto (tgt := 125) hx hb dX11_mayNote_121 (by decide) ?_
                exact W.zret (v := 1) hx hb hr (rfl) (fun t ht hW => ⟨1, rfl, by unfold s_X11_mayNote; rw [if_neg c1, if_pos c2, if_neg c18, if_pos c21, if_pos c24, if_neg c25, if_neg c26], ht⟩) (fun _ h => by cases h) dX11_mayNote_125
  · refine lv_bipush (v := (-9)) hx hb dX11_mayNote_4 (by decide) ?_
    refine lv_goto (tgt := 20) hx hb dX11_mayNote_6 (by decide) ?_
    refine lv_istore (lv' := [(4, .int (-9)), (0, .ref h), (1, .int p0), (2, .int p1), (3, .int p2)]) hx hb dX11_mayNote_20 hl (by decide) rfl (fun ls hl => ?_)
    refine lv_iload_n hx hb dX11_mayNote_22 rfl (lv_at hl 3 rfl) ?_
    refine lv_iconst (v := 2) hx hb dX11_mayNote_23 (by decide) ?_
    refine lv_icmp_ne (tgt := 32) hx hb dX11_mayNote_24 (by decide) (fun c27 => ?_) (fun c27 => ?_)
    · refine lv_aload_n hx hb dX11_mayNote_32 rfl (lv_at hl 1 rfl) ?_
      refine lv_iload_n hx hb dX11_mayNote_33 rfl (lv_at hl 2 rfl) ?_
      refine lv_iload_n hx hb dX11_mayNote_34 rfl (lv_at hl 3 rfl) ?_
      refine lv_iconst (v := 1) hx hb dX11_mayNote_35 (by decide) ?_
      refine lv_iadd hx hb dX11_mayNote_36 ?_
      refine lv_sipush (v := 30000) hx hb dX11_mayNote_37 (by decide) ?_
      refine vp_callSi (W.runV (As := [.int p0, .int (p1 + 1), .int 30000]) (rest := []) ⟨hx, hb, hml, hown, hts⟩ (c_X11_lastOf l dC dI h a cI cB cZ F M p0 (p1 + 1) 30000 hI) (cwV 3 hts gX11_mayNote_X11_lastOf rfl rfl rfl (by decide +kernel) ⟨Nat.le_of_ble_eq_true rfl, Nat.le_of_ble_eq_true rfl⟩) ⟨pm_blind, va_recv hK hP (ci := 10) (q0 := 0) rfl rfl, fun U hU hW => ⟨rfl, by rw [hU]; exact hP, va_K.moved hW.alike hK⟩⟩ rfl rfl hl.1 rfl (lv_room (Nat.le_of_ble_eq_true rfl)) dX11_mayNote_40 ⟨Nat.zero_le _, Nat.zero_le _⟩) (fun r hr9 => ?_)
      subst hr9
      refine lv_istore (lv' := [(5, .int (s_X11_lastOf F M p0 (p1 + 1) 30000)), (4, .int (-9)), (0, .ref h), (1, .int p0), (2, .int p1), (3, .int p2)]) hx hb dX11_mayNote_43 hl (by decide) rfl (fun ls hl => ?_)
      refine lv_iload_n hx hb dX11_mayNote_45 rfl (lv_at hl 4 rfl) ?_
      refine lv_if_gt (tgt := 78) hx hb dX11_mayNote_46 (by decide) (fun c28 => ?_) (fun c28 => ?_)
      · refine lv_iconst (v := 1) hx hb dX11_mayNote_78 (by decide) ?_
        refine lv_goto (tgt := 83) hx hb dX11_mayNote_79 (by decide) ?_
        refine lv_istore (lv' := [(6, .int 1), (5, .int (s_X11_lastOf F M p0 (p1 + 1) 30000)), (4, .int (-9)), (0, .ref h), (1, .int p0), (2, .int p1), (3, .int p2)]) hx hb dX11_mayNote_83 hl (by decide) rfl (fun ls hl => ?_)
        refine lv_iload hx hb dX11_mayNote_85 (lv_at hl 0 rfl) ?_
        refine lv_if_eq (tgt := 124) hx hb dX11_mayNote_87 (by decide) (fun c => absurd c (by decide)) (fun _ => ?_)
        refine lv_iload_n hx hb dX11_mayNote_90 rfl (lv_at hl 5 rfl) ?_
        refine lv_if_eq (tgt := 107) hx hb dX11_mayNote_91 (by decide) (fun _ => ?_) (fun c => absurd c1 c)
        refine lv_iload hx hb dX11_mayNote_107 (lv_at hl 1 rfl) ?_
        refine lv_bipush (v := (-9)) hx hb dX11_mayNote_109 (by decide) ?_
        refine lv_icmp_eq (tgt := 120) hx hb dX11_mayNote_111 (by decide) (fun c29 => ?_) (fun c29 => ?_)
        · refine lv_iconst (v := 1) hx hb dX11_mayNote_120 (by decide) ?_
          refine lv_goto (tgt := 125) hx hb dX11_mayNote_121 (by decide) ?_
          exact W.zret (v := 1) hx hb hr (rfl) (fun t ht hW => ⟨1, rfl, by unfold s_X11_mayNote; rw [if_pos c1, if_neg c27, if_pos c28, if_pos c29], ht⟩) (fun _ h => by cases h) dX11_mayNote_125
        · refine lv_iload_n hx hb dX11_mayNote_114 rfl (lv_at hl 6 rfl) ?_
          refine lv_iload hx hb dX11_mayNote_115 (lv_at hl 1 rfl) ?_
          refine lv_icmp_gt (tgt := 124) hx hb dX11_mayNote_117 (by decide) (fun c30 => ?_) (fun c30 => ?_)
          · refine lv_iconst (v := 0) hx hb dX11_mayNote_124 (by decide) ?_
            exact W.zret (v := 0) hx hb hr (rfl) (fun t ht hW => ⟨0, rfl, by unfold s_X11_mayNote; rw [if_pos c1, if_neg c27, if_pos c28, if_neg c29, if_pos c30], ht⟩) (fun _ h => by cases h) dX11_mayNote_125
          · refine lv_iconst (v := 1) hx hb dX11_mayNote_120 (by decide) ?_
            refine lv_goto (tgt := 125) hx hb dX11_mayNote_121 (by decide) ?_
            exact W.zret (v := 1) hx hb hr (rfl) (fun t ht hW => ⟨1, rfl, by unfold s_X11_mayNote; rw [if_pos c1, if_neg c27, if_pos c28, if_neg c29, if_neg c30], ht⟩) (fun _ h => by cases h) dX11_mayNote_125
      · refine lv_aload_n hx hb dX11_mayNote_49 rfl (lv_at hl 2 rfl) ?_
        refine va_get (D := (dC, dI)) (ci := 10) (v := .ref (a 8)) (C := RX11) (T := TX11) (N := 49) hx hb hts hin hown hK hP 0 rfl rfl 8 (by decide) (hts (.fieldLink RX11 19 "SocietyBookModel" "kindOf" "[I") (by decide +kernel)) (fun _ h9 => h9) rfl dX11_mayNote_50 ?_
        refine lv_iload_n hx hb dX11_mayNote_53 rfl (lv_at hl 3 rfl) ?_
        refine va_iald (f := M 8) hx hb hK hP 4 0 rfl rfl hp dX11_mayNote_54 ?_
        refine lv_iconst (v := 2) hx hb dX11_mayNote_55 (by decide) ?_
        refine lv_icmp_ne (tgt := 78) hx hb dX11_mayNote_56 (by decide) (fun c31 => ?_) (fun c31 => ?_)
        · refine lv_iconst (v := 1) hx hb dX11_mayNote_78 (by decide) ?_
          refine lv_goto (tgt := 83) hx hb dX11_mayNote_79 (by decide) ?_
          refine lv_istore (lv' := [(6, .int 1), (5, .int (s_X11_lastOf F M p0 (p1 + 1) 30000)), (4, .int (-9)), (0, .ref h), (1, .int p0), (2, .int p1), (3, .int p2)]) hx hb dX11_mayNote_83 hl (by decide) rfl (fun ls hl => ?_)
          refine lv_iload hx hb dX11_mayNote_85 (lv_at hl 0 rfl) ?_
          refine lv_if_eq (tgt := 124) hx hb dX11_mayNote_87 (by decide) (fun c => absurd c (by decide)) (fun _ => ?_)
          refine lv_iload_n hx hb dX11_mayNote_90 rfl (lv_at hl 5 rfl) ?_
          refine lv_if_eq (tgt := 107) hx hb dX11_mayNote_91 (by decide) (fun _ => ?_) (fun c => absurd c1 c)
          refine lv_iload hx hb dX11_mayNote_107 (lv_at hl 1 rfl) ?_
          refine lv_bipush (v := (-9)) hx hb dX11_mayNote_109 (by decide) ?_
          refine lv_icmp_eq (tgt := 120) hx hb dX11_mayNote_111 (by decide) (fun c32 => ?_) (fun c32 => ?_)
          · refine lv_iconst (v := 1) hx hb dX11_mayNote_120 (by decide) ?_
            refine lv_goto (tgt := 125) hx hb dX11_mayNote_121 (by decide) ?_
            exact W.zret (v := 1) hx hb hr (rfl) (fun t ht hW => ⟨1, rfl, by unfold s_X11_mayNote; rw [if_pos c1, if_neg c27, if_neg c28, if_neg c31, if_pos c32], ht⟩) (fun _ h => by cases h) dX11_mayNote_125
          · refine lv_iload_n hx hb dX11_mayNote_114 rfl (lv_at hl 6 rfl) ?_
            refine lv_iload hx hb dX11_mayNote_115 (lv_at hl 1 rfl) ?_
            refine lv_icmp_gt (tgt := 124) hx hb dX11_mayNote_117 (by decide) (fun c33 => ?_) (fun c33 => ?_)
            · refine lv_iconst (v := 0) hx hb dX11_mayNote_124 (by decide) ?_
              exact W.zret (v := 0) hx hb hr (rfl) (fun t ht hW => ⟨0, rfl, by unfold s_X11_mayNote; rw [if_pos c1, if_neg c27, if_neg c28, if_neg c31, if_neg c32, if_pos c33], ht⟩) (fun _ h => by cases h) dX11_mayNote_125
            · refine lv_iconst (v := 1) hx hb dX11_mayNote_120 (by decide) ?_
              refine lv_goto (tgt := 125) hx hb dX11_mayNote_121 (by decide) ?_
              exact W.zret (v := 1) hx hb hr (rfl) (fun t ht hW => ⟨1, rfl, by unfold s_X11_mayNote; rw [if_pos c1, if_neg c27, if_neg c28, if_neg c31, if_neg c32, if_neg c33], ht⟩) (fun _ h => by cases h) dX11_mayNote_125
        · refine lv_iload_n hx hb dX11_mayNote_59 rfl (lv_at hl 5 rfl) ?_
          refine lv_aload_n hx hb dX11_mayNote_60 rfl (lv_at hl 2 rfl) ?_
          refine va_get (D := (dC, dI)) (ci := 10) (v := .ref (a 13)) (C := RX11) (T := TX11) (N := 49) hx hb hts hin hown hK hP 0 rfl rfl 13 (by decide) (hts (.fieldLink RX11 34 "SocietyBookModel" "spanFrom" "[I") (by decide +kernel)) (fun _ h9 => h9) rfl dX11_mayNote_61 ?_
          refine lv_iload_n hx hb dX11_mayNote_64 rfl (lv_at hl 3 rfl) ?_
          refine va_iald (f := M 13) hx hb hK hP 9 0 rfl rfl hp dX11_mayNote_65 ?_
          refine lv_aload_n hx hb dX11_mayNote_66 rfl (lv_at hl 2 rfl) ?_
          refine va_get (D := (dC, dI)) (ci := 10) (v := .ref (a 14)) (C := RX11) (T := TX11) (N := 49) hx hb hts hin hown hK hP 0 rfl rfl 14 (by decide) (hts (.fieldLink RX11 37 "SocietyBookModel" "spanTo" "[I") (by decide +kernel)) (fun _ h9 => h9) rfl dX11_mayNote_67 ?_
          refine lv_iload_n hx hb dX11_mayNote_70 rfl (lv_at hl 3 rfl) ?_
          refine va_iald (f := M 14) hx hb hK hP 10 0 rfl rfl hp dX11_mayNote_71 ?_
          refine vp_callSi (W.runS (As := [.int p2, .int ((M 13) p0.toNatClampNeg), .int ((M 14) p0.toNatClampNeg)]) (rest := []) ⟨hx, hb, hml, hown, hts⟩ (c_X11_in l p2 ((M 13) p0.toNatClampNeg) ((M 14) p0.toNatClampNeg)) (va_cwS 3 hts gX11_mayNote_X11_in rfl rfl rfl (by decide +kernel) ⟨Nat.le_of_ble_eq_true rfl, Nat.le_of_ble_eq_true rfl⟩) ⟨fun _ _ _ _ q => q, fun U hU hW => ⟨rfl, trivial⟩⟩ rfl rfl hl.1 rfl (lv_room (Nat.le_of_ble_eq_true rfl)) dX11_mayNote_72 ⟨Nat.zero_le _, Nat.zero_le _⟩) (fun r hr9 => ?_)
          subst hr9
          refine lv_if_eq (tgt := 82) hx hb dX11_mayNote_75 (by decide) (fun c34 => ?_) (fun c34 => ?_)
          · replace c34 := bo_f c34
            refine lv_iconst (v := 0) hx hb dX11_mayNote_82 (by decide) ?_
            refine lv_istore (lv' := [(6, .int 0), (5, .int (s_X11_lastOf F M p0 (p1 + 1) 30000)), (4, .int (-9)), (0, .ref h), (1, .int p0), (2, .int p1), (3, .int p2)]) hx hb dX11_mayNote_83 hl (by decide) rfl (fun ls hl => ?_)
            refine lv_iload hx hb dX11_mayNote_85 (lv_at hl 0 rfl) ?_
            refine lv_if_eq (tgt := 124) hx hb dX11_mayNote_87 (by decide) (fun _ => ?_) (fun c => absurd c (by decide))
            refine lv_iconst (v := 0) hx hb dX11_mayNote_124 (by decide) ?_
            exact W.zret (v := 0) hx hb hr (rfl) (fun t ht hW => ⟨0, rfl, by unfold s_X11_mayNote; rw [if_pos c1, if_neg c27, if_neg c28, if_pos c31, if_neg c34], ht⟩) (fun _ h => by cases h) dX11_mayNote_125
          · replace c34 := bo_t c34
            refine lv_iconst (v := 1) hx hb dX11_mayNote_78 (by decide) ?_
            refine lv_goto (tgt := 83) hx hb dX11_mayNote_79 (by decide) ?_
            refine lv_istore (lv' := [(6, .int 1), (5, .int (s_X11_lastOf F M p0 (p1 + 1) 30000)), (4, .int (-9)), (0, .ref h), (1, .int p0), (2, .int p1), (3, .int p2)]) hx hb dX11_mayNote_83 hl (by decide) rfl (fun ls hl => ?_)
            refine lv_iload hx hb dX11_mayNote_85 (lv_at hl 0 rfl) ?_
            refine lv_if_eq (tgt := 124) hx hb dX11_mayNote_87 (by decide) (fun c => absurd c (by decide)) (fun _ => ?_)
            refine lv_iload_n hx hb dX11_mayNote_90 rfl (lv_at hl 5 rfl) ?_
            refine lv_if_eq (tgt := 107) hx hb dX11_mayNote_91 (by decide) (fun _ => ?_) (fun c => absurd c1 c)
            refine lv_iload hx hb dX11_mayNote_107 (lv_at hl 1 rfl) ?_
            refine lv_bipush (v := (-9)) hx hb dX11_mayNote_109 (by decide) ?_
            refine lv_icmp_eq (tgt := 120) hx hb dX11_mayNote_111 (by decide) (fun c35 => ?_) (fun c35 => ?_)
            · refine lv_iconst (v := 1) hx hb dX11_mayNote_120 (by decide) ?_
              refine lv_goto (tgt := 125) hx hb dX11_mayNote_121 (by decide) ?_
              exact W.zret (v := 1) hx hb hr (rfl) (fun t ht hW => ⟨1, rfl, by unfold s_X11_mayNote; rw [if_pos c1, if_neg c27, if_neg c28, if_pos c31, if_pos c34, if_pos c35], ht⟩) (fun _ h => by cases h) dX11_mayNote_125
            · refine lv_iload_n hx hb dX11_mayNote_114 rfl (lv_at hl 6 rfl) ?_
              refine lv_iload hx hb dX11_mayNote_115 (lv_at hl 1 rfl) ?_
              refine lv_icmp_gt (tgt := 124) hx hb dX11_mayNote_117 (by decide) (fun c36 => ?_) (fun c36 => ?_)
              · refine lv_iconst (v := 0) hx hb dX11_mayNote_124 (by decide) ?_
                exact W.zret (v := 0) hx hb hr (rfl) (fun t ht hW => ⟨0, rfl, by unfold s_X11_mayNote; rw [if_pos c1, if_neg c27, if_neg c28, if_pos c31, if_pos c34, if_neg c35, if_pos c36], ht⟩) (fun _ h => by cases h) dX11_mayNote_125
              · refine lv_iconst (v := 1) hx hb dX11_mayNote_120 (by decide) ?_
                refine lv_goto (tgt := 125) hx hb dX11_mayNote_121 (by decide) ?_
                exact W.zret (v := 1) hx hb hr (rfl) (fun t ht hW => ⟨1, rfl, by unfold s_X11_mayNote; rw [if_pos c1, if_neg c27, if_neg c28, if_pos c31, if_pos c34, if_neg c35, if_neg c36], ht⟩) (fun _ h => by cases h) dX11_mayNote_125
    · refine lv_bipush (v := (-9)) hx hb dX11_mayNote_27 (by decide) ?_
      refine lv_goto (tgt := 43) hx hb dX11_mayNote_29 (by decide) ?_
      refine lv_istore (lv' := [(5, .int (-9)), (4, .int (-9)), (0, .ref h), (1, .int p0), (2, .int p1), (3, .int p2)]) hx hb dX11_mayNote_43 hl (by decide) rfl (fun ls hl => ?_)
      refine lv_iload_n hx hb dX11_mayNote_45 rfl (lv_at hl 4 rfl) ?_
      refine lv_if_gt (tgt := 78) hx hb dX11_mayNote_46 (by decide) (fun c37 => ?_) (fun c37 => ?_)
      · refine lv_iconst (v := 1) hx hb dX11_mayNote_78 (by decide) ?_
        refine lv_goto (tgt := 83) hx hb dX11_mayNote_79 (by decide) ?_
        refine lv_istore (lv' := [(6, .int 1), (5, .int (-9)), (4, .int (-9)), (0, .ref h), (1, .int p0), (2, .int p1), (3, .int p2)]) hx hb dX11_mayNote_83 hl (by decide) rfl (fun ls hl => ?_)
        refine lv_iload hx hb dX11_mayNote_85 (lv_at hl 0 rfl) ?_
        refine lv_if_eq (tgt := 124) hx hb dX11_mayNote_87 (by decide) (fun c => absurd c (by decide)) (fun _ => ?_)
        refine lv_iload_n hx hb dX11_mayNote_90 rfl (lv_at hl 5 rfl) ?_
        refine lv_if_eq (tgt := 107) hx hb dX11_mayNote_91 (by decide) (fun _ => ?_) (fun c => absurd c1 c)
        refine lv_iload hx hb dX11_mayNote_107 (lv_at hl 1 rfl) ?_
        refine lv_bipush (v := (-9)) hx hb dX11_mayNote_109 (by decide) ?_
        refine lv_icmp_eq (tgt := 120) hx hb dX11_mayNote_111 (by decide) (fun _ => ?_) (fun c => absurd c (by decide))
        refine lv_iconst (v := 1) hx hb dX11_mayNote_120 (by decide) ?_
        refine lv_goto (tgt := 125) hx hb dX11_mayNote_121 (by decide) ?_
        exact W.zret (v := 1) hx hb hr (rfl) (fun t ht hW => ⟨1, rfl, by unfold s_X11_mayNote; rw [if_pos c1, if_pos c27, if_pos c37], ht⟩) (fun _ h => by cases h) dX11_mayNote_125
      · refine lv_aload_n hx hb dX11_mayNote_49 rfl (lv_at hl 2 rfl) ?_
        refine va_get (D := (dC, dI)) (ci := 10) (v := .ref (a 8)) (C := RX11) (T := TX11) (N := 49) hx hb hts hin hown hK hP 0 rfl rfl 8 (by decide) (hts (.fieldLink RX11 19 "SocietyBookModel" "kindOf" "[I") (by decide +kernel)) (fun _ h9 => h9) rfl dX11_mayNote_50 ?_
        refine lv_iload_n hx hb dX11_mayNote_53 rfl (lv_at hl 3 rfl) ?_
        refine va_iald (f := M 8) hx hb hK hP 4 0 rfl rfl hp dX11_mayNote_54 ?_
        refine lv_iconst (v := 2) hx hb dX11_mayNote_55 (by decide) ?_
        refine lv_icmp_ne (tgt := 78) hx hb dX11_mayNote_56 (by decide) (fun c38 => ?_) (fun c38 => ?_)
        · refine lv_iconst (v := 1) hx hb dX11_mayNote_78 (by decide) ?_
          refine lv_goto (tgt := 83) hx hb dX11_mayNote_79 (by decide) ?_
          refine lv_istore (lv' := [(6, .int 1), (5, .int (-9)), (4, .int (-9)), (0, .ref h), (1, .int p0), (2, .int p1), (3, .int p2)]) hx hb dX11_mayNote_83 hl (by decide) rfl (fun ls hl => ?_)
          refine lv_iload hx hb dX11_mayNote_85 (lv_at hl 0 rfl) ?_
          refine lv_if_eq (tgt := 124) hx hb dX11_mayNote_87 (by decide) (fun c => absurd c (by decide)) (fun _ => ?_)
          refine lv_iload_n hx hb dX11_mayNote_90 rfl (lv_at hl 5 rfl) ?_
          refine lv_if_eq (tgt := 107) hx hb dX11_mayNote_91 (by decide) (fun _ => ?_) (fun c => absurd c1 c)
          refine lv_iload hx hb dX11_mayNote_107 (lv_at hl 1 rfl) ?_
          refine lv_bipush (v := (-9)) hx hb dX11_mayNote_109 (by decide) ?_
          refine lv_icmp_eq (tgt := 120) hx hb dX11_mayNote_111 (by decide) (fun _ => ?_) (fun c => absurd c (by decide))
          refine lv_iconst (v := 1) hx hb dX11_mayNote_120 (by decide) ?_
          refine lv_goto (tgt := 125) hx hb dX11_mayNote_121 (by decide) ?_
          exact W.zret (v := 1) hx hb hr (rfl) (fun t ht hW => ⟨1, rfl, by unfold s_X11_mayNote; rw [if_pos c1, if_pos c27, if_neg c37, if_neg c38], ht⟩) (fun _ h => by cases h) dX11_mayNote_125
        · refine lv_iload_n hx hb dX11_mayNote_59 rfl (lv_at hl 5 rfl) ?_
          refine lv_aload_n hx hb dX11_mayNote_60 rfl (lv_at hl 2 rfl) ?_
          refine va_get (D := (dC, dI)) (ci := 10) (v := .ref (a 13)) (C := RX11) (T := TX11) (N := 49) hx hb hts hin hown hK hP 0 rfl rfl 13 (by decide) (hts (.fieldLink RX11 34 "SocietyBookModel" "spanFrom" "[I") (by decide +kernel)) (fun _ h9 => h9) rfl dX11_mayNote_61 ?_
          refine lv_iload_n hx hb dX11_mayNote_64 rfl (lv_at hl 3 rfl) ?_
          refine va_iald (f := M 13) hx hb hK hP 9 0 rfl rfl hp dX11_mayNote_65 ?_
          refine lv_aload_n hx hb dX11_mayNote_66 rfl (lv_at hl 2 rfl) ?_
          refine va_get (D := (dC, dI)) (ci := 10) (v := .ref (a 14)) (C := RX11) (T := TX11) (N := 49) hx hb hts hin hown hK hP 0 rfl rfl 14 (by decide) (hts (.fieldLink RX11 37 "SocietyBookModel" "spanTo" "[I") (by decide +kernel)) (fun _ h9 => h9) rfl dX11_mayNote_67 ?_
          refine lv_iload_n hx hb dX11_mayNote_70 rfl (lv_at hl 3 rfl) ?_
          refine va_iald (f := M 14) hx hb hK hP 10 0 rfl rfl hp dX11_mayNote_71 ?_
          refine vp_callSi (W.runS (As := [.int p2, .int ((M 13) p0.toNatClampNeg), .int ((M 14) p0.toNatClampNeg)]) (rest := []) ⟨hx, hb, hml, hown, hts⟩ (c_X11_in l p2 ((M 13) p0.toNatClampNeg) ((M 14) p0.toNatClampNeg)) (va_cwS 3 hts gX11_mayNote_X11_in rfl rfl rfl (by decide +kernel) ⟨Nat.le_of_ble_eq_true rfl, Nat.le_of_ble_eq_true rfl⟩) ⟨fun _ _ _ _ q => q, fun U hU hW => ⟨rfl, trivial⟩⟩ rfl rfl hl.1 rfl (lv_room (Nat.le_of_ble_eq_true rfl)) dX11_mayNote_72 ⟨Nat.zero_le _, Nat.zero_le _⟩) (fun r hr9 => ?_)
          subst hr9
          refine lv_if_eq (tgt := 82) hx hb dX11_mayNote_75 (by decide) (fun c39 => ?_) (fun c39 => ?_)
          · replace c39 := bo_f c39
            refine lv_iconst (v := 0) hx hb dX11_mayNote_82 (by decide) ?_
            refine lv_istore (lv' := [(6, .int 0), (5, .int (-9)), (4, .int (-9)), (0, .ref h), (1, .int p0), (2, .int p1), (3, .int p2)]) hx hb dX11_mayNote_83 hl (by decide) rfl (fun ls hl => ?_)
            refine lv_iload hx hb dX11_mayNote_85 (lv_at hl 0 rfl) ?_
            refine lv_if_eq (tgt := 124) hx hb dX11_mayNote_87 (by decide) (fun _ => ?_) (fun c => absurd c (by decide))
            refine lv_iconst (v := 0) hx hb dX11_mayNote_124 (by decide) ?_
            exact W.zret (v := 0) hx hb hr (rfl) (fun t ht hW => ⟨0, rfl, by unfold s_X11_mayNote; rw [if_pos c1, if_pos c27, if_neg c37, if_pos c38, if_neg c39], ht⟩) (fun _ h => by cases h) dX11_mayNote_125
          · replace c39 := bo_t c39
            refine lv_iconst (v := 1) hx hb dX11_mayNote_78 (by decide) ?_
            refine lv_goto (tgt := 83) hx hb dX11_mayNote_79 (by decide) ?_
            refine lv_istore (lv' := [(6, .int 1), (5, .int (-9)), (4, .int (-9)), (0, .ref h), (1, .int p0), (2, .int p1), (3, .int p2)]) hx hb dX11_mayNote_83 hl (by decide) rfl (fun ls hl => ?_)
            refine lv_iload hx hb dX11_mayNote_85 (lv_at hl 0 rfl) ?_
            refine lv_if_eq (tgt := 124) hx hb dX11_mayNote_87 (by decide) (fun c => absurd c (by decide)) (fun _ => ?_)
            refine lv_iload_n hx hb dX11_mayNote_90 rfl (lv_at hl 5 rfl) ?_
            refine lv_if_eq (tgt := 107) hx hb dX11_mayNote_91 (by decide) (fun _ => ?_) (fun c => absurd c1 c)
            refine lv_iload hx hb dX11_mayNote_107 (lv_at hl 1 rfl) ?_
            refine lv_bipush (v := (-9)) hx hb dX11_mayNote_109 (by decide) ?_
            refine lv_icmp_eq (tgt := 120) hx hb dX11_mayNote_111 (by decide) (fun _ => ?_) (fun c => absurd c (by decide))
            refine lv_iconst (v := 1) hx hb dX11_mayNote_120 (by decide) ?_
            refine lv_goto (tgt := 125) hx hb dX11_mayNote_121 (by decide) ?_
            exact W.zret (v := 1) hx hb hr (rfl) (fun t ht hW => ⟨1, rfl, by unfold s_X11_mayNote; rw [if_pos c1, if_pos c27, if_neg c37, if_pos c38, if_pos c39], ht⟩) (fun _ h => by cases h) dX11_mayNote_125

def s_X11_note (F : Nat → Int32) (M : Nat → Nat → Int32) (p0 : Int32) (p1 : Int32) (p2 : Int32) : Int32 × ((Nat → Int32) × (Nat → Nat → Int32)) :=
  if 0 ≤ p0 ∧ p0 ≤ ((F 7) - 1) then (if 0 ≤ p1 ∧ p1 ≤ 2 then (if 0 ≤ p2 ∧ p2 ≤ (F 3) then (if (F 16) = 100 then ((-2), (F, M)) else
        if (s_X11_mayNote F M p0 p1 p2) = 0 then ((-4), (F, M)) else
        ((F 16) + 1, (va_up F 16 ((F 16) + 1), va_up (va_up (va_up (va_up M 17 (upd (M 17) ((F 16).toNatClampNeg) p0)) 18 (upd (M 18) ((F 16).toNatClampNeg) p1)) 19 (upd (M 19) ((F 16).toNatClampNeg) p2)) 20 (upd (M 20) ((F 16).toNatClampNeg) (F 3))))) else
      ((-1), (F, M))) else
    ((-1), (F, M))) else
  ((-1), (F, M))
set_option maxHeartbeats 4000000 in
set_option maxRecDepth 100000 in
theorem c_X11_note (l : Launch) (dC : Nat → ClassId) (dI : Nat → Nat → Nat) (h : Nat) (a : Nat → Nat) (cI cB cZ : ClassId) (F : Nat → Int32) (M : Nat → Nat → Int32) (p0 : Int32) (p1 : Int32) (p2 : Int32) (A : Nat → Prop) (hD : va_D A (wM h a cI cB cZ F M)) (hI : iv F M) : Met l yX11_note wsX11_note ({ frames := 2, cells := 0, slots := 0, locals := 51 } : Room) (va_Pc [.ref h, .int p0, .int p1, .int p2] (pM dC dI h a cI cB cZ F M)) (va_Qi (fun r u => (r, u) = s_X11_note F M p0 p1 p2) (qM A dC dI h a cI cB cZ) A) 0 0 A := by
  refine Met.ofW (cc := cX11_note) (maxL := 4) (ret := (some .int)) (by decide) rfl ?_
  intro p e s m args below meth c s₁ B hml hv
  obtain ⟨rfl, hP, hK⟩ := hv
  have hx := B.exec
  have hb := B.bytes
  have hr := B.returns
  have hts := atoms_spec (ws := wsX11_note) B.pre
  have hown : s.vm.findClass RX11 = some m.cls := findClass_of_methodNamed B.named
  have hlocks := B.notSynchronized
  have hin : ∀ w ∈ wsX110, w ∈ wsX11_note := by decide +kernel
  have hS : va_S A s.heap s.heap [] := va_S.rf
  have hl := lv_entry ([.ref h, .int p0, .int p1, .int p2]) (n := 4) (Nat.le_of_ble_eq_true rfl)
  rw [lg_entry_eq]
  generalize (lg_sl ([.ref h, .int p0, .int p1, .int p2]) ++ List.replicate (4 - (lg_sl ([.ref h, .int p0, .int p1, .int p2])).length) Slot.unset).toArray = ls at hl ⊢
  have hl : lv_has ls 4 [(0, .ref h), (1, .int p0), (2, .int p1), (3, .int p2)] := hl
  refine lv_aload_n hx hb dX11_note_0 rfl (lv_at hl 0 rfl) ?_
  refine lv_iload_n hx hb dX11_note_1 rfl (lv_at hl 1 rfl) ?_
  refine vp_callSi (W.runV (As := [.int p0]) (rest := []) ⟨hx, hb, hml, hown, hts⟩ (c_X11_isPaper l dC dI h a cI cB cZ F M p0) (cwV 1 hts gX11_note_X11_isPaper rfl rfl rfl (by decide +kernel) ⟨Nat.le_of_ble_eq_true rfl, Nat.le_of_ble_eq_true rfl⟩) ⟨pm_blind, va_recv hK hP (ci := 10) (q0 := 0) rfl rfl, fun U hU hW => ⟨rfl, by rw [hU]; exact hP, va_K.moved hW.alike hK⟩⟩ rfl rfl hl.1 rfl (lv_room (Nat.le_of_ble_eq_true rfl)) dX11_note_2 ⟨Nat.zero_le _, Nat.zero_le _⟩) (fun r hr9 => ?_)
  subst hr9
  refine lv_if_eq (tgt := 29) hx hb dX11_note_5 (by decide) (fun c1 => ?_) (fun c1 => ?_)
  · replace c1 := bo_f c1
    refine lv_iconst (v := (-1)) hx hb dX11_note_29 (by decide) ?_
    exact W.iret (v := (-1)) hx hb hr (fun t ht hW => ⟨⟨(-1), (F, M), rfl, by unfold s_X11_note; rw [if_neg c1], ⟨by rw [ht]; exact hP, va_K.moved hW.alike hK⟩, hD⟩, hS.F ht⟩) hS.2.2 dX11_note_30
  · replace c1 := bo_t c1
    refine lv_iload_n hx hb dX11_note_8 rfl (lv_at hl 2 rfl) ?_
    refine lv_iconst (v := 0) hx hb dX11_note_9 (by decide) ?_
    refine lv_iconst (v := 2) hx hb dX11_note_10 (by decide) ?_
    refine vp_callSi (W.runS (As := [.int p1, .int 0, .int 2]) (rest := []) ⟨hx, hb, hml, hown, hts⟩ (c_X11_in l p1 0 2) (va_cwS 3 hts gX11_note_X11_in rfl rfl rfl (by decide +kernel) ⟨Nat.le_of_ble_eq_true rfl, Nat.le_of_ble_eq_true rfl⟩) ⟨fun _ _ _ _ q => q, fun U hU hW => ⟨rfl, trivial⟩⟩ rfl rfl hl.1 rfl (lv_room (Nat.le_of_ble_eq_true rfl)) dX11_note_11 ⟨Nat.zero_le _, Nat.zero_le _⟩) (fun r hr9 => ?_)
    subst hr9
    refine lv_if_eq (tgt := 29) hx hb dX11_note_14 (by decide) (fun c2 => ?_) (fun c2 => ?_)
    · replace c2 := bo_f c2
      refine lv_iconst (v := (-1)) hx hb dX11_note_29 (by decide) ?_
      exact W.iret (v := (-1)) hx hb hr (fun t ht hW => ⟨⟨(-1), (F, M), rfl, by unfold s_X11_note; rw [if_pos c1, if_neg c2], ⟨by rw [ht]; exact hP, va_K.moved hW.alike hK⟩, hD⟩, hS.F ht⟩) hS.2.2 dX11_note_30
    · replace c2 := bo_t c2
      refine lv_iload_n hx hb dX11_note_17 rfl (lv_at hl 3 rfl) ?_
      refine lv_iconst (v := 0) hx hb dX11_note_18 (by decide) ?_
      refine lv_aload_n hx hb dX11_note_19 rfl (lv_at hl 0 rfl) ?_
      refine va_get (D := (dC, dI)) (ci := 10) (v := .int (F 3)) (C := RX11) (T := TX11) (N := 49) hx hb hts hin hown hK hP 0 rfl rfl 3 (by decide) (hts (.fieldLink RX11 140 "SocietyBookModel" "today" "I") (by decide +kernel)) (fun _ h9 => h9) rfl dX11_note_20 ?_
      refine vp_callSi (W.runS (As := [.int p2, .int 0, .int (F 3)]) (rest := []) ⟨hx, hb, hml, hown, hts⟩ (c_X11_in l p2 0 (F 3)) (va_cwS 3 hts gX11_note_X11_in rfl rfl rfl (by decide +kernel) ⟨Nat.le_of_ble_eq_true rfl, Nat.le_of_ble_eq_true rfl⟩) ⟨fun _ _ _ _ q => q, fun U hU hW => ⟨rfl, trivial⟩⟩ rfl rfl hl.1 rfl (lv_room (Nat.le_of_ble_eq_true rfl)) dX11_note_23 ⟨Nat.zero_le _, Nat.zero_le _⟩) (fun r hr9 => ?_)
      subst hr9
      refine lv_if_ne (tgt := 31) hx hb dX11_note_26 (by decide) (fun c3 => ?_) (fun c3 => ?_)
      · replace c3 := bo_t c3
        refine lv_aload_n hx hb dX11_note_31 rfl (lv_at hl 0 rfl) ?_
        refine va_get (D := (dC, dI)) (ci := 10) (v := .int (F 16)) (C := RX11) (T := TX11) (N := 49) hx hb hts hin hown hK hP 0 rfl rfl 16 (by decide) (hts (.fieldLink RX11 154 "SocietyBookModel" "notes" "I") (by decide +kernel)) (fun _ h9 => h9) rfl dX11_note_32 ?_
        refine lv_bipush (v := 100) hx hb dX11_note_35 (by decide) ?_
        refine lv_icmp_ne (tgt := 43) hx hb dX11_note_37 (by decide) (fun c4 => ?_) (fun c4 => ?_)
        · refine lv_aload_n hx hb dX11_note_43 rfl (lv_at hl 0 rfl) ?_
          refine lv_iload_n hx hb dX11_note_44 rfl (lv_at hl 1 rfl) ?_
          refine lv_iload_n hx hb dX11_note_45 rfl (lv_at hl 2 rfl) ?_
          refine lv_iload_n hx hb dX11_note_46 rfl (lv_at hl 3 rfl) ?_
          refine vp_callSi (W.runV (As := [.int p0, .int p1, .int p2]) (rest := []) ⟨hx, hb, hml, hown, hts⟩ (c_X11_mayNote l dC dI h a cI cB cZ F M p0 p1 p2 hI (ib_cn c1 (iv_7 hI) (by decide))) (cwV 3 hts gX11_note_X11_mayNote rfl rfl rfl (by decide +kernel) ⟨Nat.le_of_ble_eq_true rfl, Nat.le_of_ble_eq_true rfl⟩) ⟨pm_blind, va_recv hK hP (ci := 10) (q0 := 0) rfl rfl, fun U hU hW => ⟨rfl, by rw [hU]; exact hP, va_K.moved hW.alike hK⟩⟩ rfl rfl hl.1 rfl (lv_room (Nat.le_of_ble_eq_true rfl)) dX11_note_47 ⟨Nat.zero_le _, Nat.zero_le _⟩) (fun r hr9 => ?_)
          subst hr9
          refine lv_if_ne (tgt := 56) hx hb dX11_note_50 (by decide) (fun c5 => ?_) (fun c5 => ?_)
          · refine lv_aload_n hx hb dX11_note_56 rfl (lv_at hl 0 rfl) ?_
            refine va_get (D := (dC, dI)) (ci := 10) (v := .ref (a 17)) (C := RX11) (T := TX11) (N := 49) hx hb hts hin hown hK hP 0 rfl rfl 17 (by decide) (hts (.fieldLink RX11 43 "SocietyBookModel" "notePaper" "[I") (by decide +kernel)) (fun _ h9 => h9) rfl dX11_note_57 ?_
            refine lv_aload_n hx hb dX11_note_60 rfl (lv_at hl 0 rfl) ?_
            refine va_get (D := (dC, dI)) (ci := 10) (v := .int (F 16)) (C := RX11) (T := TX11) (N := 49) hx hb hts hin hown hK hP 0 rfl rfl 16 (by decide) (hts (.fieldLink RX11 154 "SocietyBookModel" "notes" "I") (by decide +kernel)) (fun _ h9 => h9) rfl dX11_note_61 ?_
            refine lv_iload_n hx hb dX11_note_64 rfl (lv_at hl 1 rfl) ?_
            refine va_iast (f := M 17) hx hb hK hP hD hS 12 0 rfl rfl (ib_ct (iv_16 hI) c4 (by decide)) dX11_note_65 (fun H locs hP hD hS => ?_)
            replace hP : va_P (dC, dI) vwCl (wM h a cI cB cZ F (va_up M 17 (upd (M 17) ((F 16).toNatClampNeg) p0))) H := hP
            replace hD : va_D A (wM h a cI cB cZ F (va_up M 17 (upd (M 17) ((F 16).toNatClampNeg) p0))) := hD
            refine lv_aload_n hx hb dX11_note_66 rfl (lv_at hl 0 rfl) ?_
            refine va_get (D := (dC, dI)) (ci := 10) (v := .ref (a 18)) (C := RX11) (T := TX11) (N := 49) hx hb hts hin hown hK hP 0 rfl rfl 18 (by decide) (hts (.fieldLink RX11 46 "SocietyBookModel" "noteWhat" "[I") (by decide +kernel)) (fun _ h9 => h9) rfl dX11_note_67 ?_
            refine lv_aload_n hx hb dX11_note_70 rfl (lv_at hl 0 rfl) ?_
            refine va_get (D := (dC, dI)) (ci := 10) (v := .int (F 16)) (C := RX11) (T := TX11) (N := 49) hx hb hts hin hown hK hP 0 rfl rfl 16 (by decide) (hts (.fieldLink RX11 154 "SocietyBookModel" "notes" "I") (by decide +kernel)) (fun _ h9 => h9) rfl dX11_note_71 ?_
            refine lv_iload_n hx hb dX11_note_74 rfl (lv_at hl 2 rfl) ?_
            refine va_iast (f := M 18) hx hb hK hP hD hS 13 0 rfl rfl (ib_ct (iv_16 hI) c4 (by decide)) dX11_note_75 (fun H locs hP hD hS => ?_)
            replace hP : va_P (dC, dI) vwCl (wM h a cI cB cZ F (va_up (va_up M 17 (upd (M 17) ((F 16).toNatClampNeg) p0)) 18 (upd (M 18) ((F 16).toNatClampNeg) p1))) H := hP
            replace hD : va_D A (wM h a cI cB cZ F (va_up (va_up M 17 (upd (M 17) ((F 16).toNatClampNeg) p0)) 18 (upd (M 18) ((F 16).toNatClampNeg) p1))) := hD
            refine lv_aload_n hx hb dX11_note_76 rfl (lv_at hl 0 rfl) ?_
            refine va_get (D := (dC, dI)) (ci := 10) (v := .ref (a 19)) (C := RX11) (T := TX11) (N := 49) hx hb hts hin hown hK hP 0 rfl rfl 19 (by decide) (hts (.fieldLink RX11 49 "SocietyBookModel" "noteDay" "[I") (by decide +kernel)) (fun _ h9 => h9) rfl dX11_note_77 ?_
            refine lv_aload_n hx hb dX11_note_80 rfl (lv_at hl 0 rfl) ?_
            refine va_get (D := (dC, dI)) (ci := 10) (v := .int (F 16)) (C := RX11) (T := TX11) (N := 49) hx hb hts hin hown hK hP 0 rfl rfl 16 (by decide) (hts (.fieldLink RX11 154 "SocietyBookModel" "notes" "I") (by decide +kernel)) (fun _ h9 => h9) rfl dX11_note_81 ?_
            refine lv_iload_n hx hb dX11_note_84 rfl (lv_at hl 3 rfl) ?_
            refine va_iast (f := M 19) hx hb hK hP hD hS 14 0 rfl rfl (ib_ct (iv_16 hI) c4 (by decide)) dX11_note_85 (fun H locs hP hD hS => ?_)
            replace hP : va_P (dC, dI) vwCl (wM h a cI cB cZ F (va_up (va_up (va_up M 17 (upd (M 17) ((F 16).toNatClampNeg) p0)) 18 (upd (M 18) ((F 16).toNatClampNeg) p1)) 19 (upd (M 19) ((F 16).toNatClampNeg) p2))) H := hP
            replace hD : va_D A (wM h a cI cB cZ F (va_up (va_up (va_up M 17 (upd (M 17) ((F 16).toNatClampNeg) p0)) 18 (upd (M 18) ((F 16).toNatClampNeg) p1)) 19 (upd (M 19) ((F 16).toNatClampNeg) p2))) := hD
            refine lv_aload_n hx hb dX11_note_86 rfl (lv_at hl 0 rfl) ?_
            refine va_get (D := (dC, dI)) (ci := 10) (v := .ref (a 20)) (C := RX11) (T := TX11) (N := 49) hx hb hts hin hown hK hP 0 rfl rfl 20 (by decide) (hts (.fieldLink RX11 52 "SocietyBookModel" "noteTold" "[I") (by decide +kernel)) (fun _ h9 => h9) rfl dX11_note_87 ?_
            refine lv_aload_n hx hb dX11_note_90 rfl (lv_at hl 0 rfl) ?_
            refine va_get (D := (dC, dI)) (ci := 10) (v := .int (F 16)) (C := RX11) (T := TX11) (N := 49) hx hb hts hin hown hK hP 0 rfl rfl 16 (by decide) (hts (.fieldLink RX11 154 "SocietyBookModel" "notes" "I") (by decide +kernel)) (fun _ h9 => h9) rfl dX11_note_91 ?_
            refine lv_aload_n hx hb dX11_note_94 rfl (lv_at hl 0 rfl) ?_
            refine va_get (D := (dC, dI)) (ci := 10) (v := .int (F 3)) (C := RX11) (T := TX11) (N := 49) hx hb hts hin hown hK hP 0 rfl rfl 3 (by decide) (hts (.fieldLink RX11 140 "SocietyBookModel" "today" "I") (by decide +kernel)) (fun _ h9 => h9) rfl dX11_note_95 ?_
            refine va_iast (f := M 20) hx hb hK hP hD hS 15 0 rfl rfl (ib_ct (iv_16 hI) c4 (by decide)) dX11_note_98 (fun H locs hP hD hS => ?_)
            replace hP : va_P (dC, dI) vwCl (wM h a cI cB cZ F (va_up (va_up (va_up (va_up M 17 (upd (M 17) ((F 16).toNatClampNeg) p0)) 18 (upd (M 18) ((F 16).toNatClampNeg) p1)) 19 (upd (M 19) ((F 16).toNatClampNeg) p2)) 20 (upd (M 20) ((F 16).toNatClampNeg) (F 3)))) H := hP
            replace hD : va_D A (wM h a cI cB cZ F (va_up (va_up (va_up (va_up M 17 (upd (M 17) ((F 16).toNatClampNeg) p0)) 18 (upd (M 18) ((F 16).toNatClampNeg) p1)) 19 (upd (M 19) ((F 16).toNatClampNeg) p2)) 20 (upd (M 20) ((F 16).toNatClampNeg) (F 3)))) := hD
            refine lv_aload_n hx hb dX11_note_99 rfl (lv_at hl 0 rfl) ?_
            refine lv_dup hx hb dX11_note_100 rfl ?_
            refine va_get (D := (dC, dI)) (ci := 10) (v := .int (F 16)) (C := RX11) (T := TX11) (N := 49) hx hb hts hin hown hK hP 0 rfl rfl 16 (by decide) (hts (.fieldLink RX11 154 "SocietyBookModel" "notes" "I") (by decide +kernel)) (fun _ h9 => h9) rfl dX11_note_101 ?_
            refine lv_iconst (v := 1) hx hb dX11_note_104 (by decide) ?_
            refine lv_iadd hx hb dX11_note_105 ?_
            refine va_put (D := (dC, dI)) (ci := 10) (v := .int ((F 16) + 1)) (ty := .int) (C := RX11) (T := TX11) (N := 49) hx hb hts hin tyX11 tyX11_ok nmX11 hown hK hP hD hS 0 rfl rfl 16 (by decide) (hts (.fieldLink RX11 154 "SocietyBookModel" "notes" "I") (by decide +kernel)) (fun _ h9 => h9) rfl (by decide +kernel) rfl rfl (Nat.le_of_ble_eq_true rfl) dX11_note_106 (fun H locs hP hD hS => ?_)
            replace hP : va_P (dC, dI) vwCl (wM h a cI cB cZ (va_up F 16 ((F 16) + 1)) (va_up (va_up (va_up (va_up M 17 (upd (M 17) ((F 16).toNatClampNeg) p0)) 18 (upd (M 18) ((F 16).toNatClampNeg) p1)) 19 (upd (M 19) ((F 16).toNatClampNeg) p2)) 20 (upd (M 20) ((F 16).toNatClampNeg) (F 3)))) H := hP
            replace hD : va_D A (wM h a cI cB cZ (va_up F 16 ((F 16) + 1)) (va_up (va_up (va_up (va_up M 17 (upd (M 17) ((F 16).toNatClampNeg) p0)) 18 (upd (M 18) ((F 16).toNatClampNeg) p1)) 19 (upd (M 19) ((F 16).toNatClampNeg) p2)) 20 (upd (M 20) ((F 16).toNatClampNeg) (F 3)))) := hD
            refine lv_aload_n hx hb dX11_note_109 rfl (lv_at hl 0 rfl) ?_
            refine va_get (D := (dC, dI)) (ci := 10) (v := .int ((F 16) + 1)) (C := RX11) (T := TX11) (N := 49) hx hb hts hin hown hK hP 0 rfl rfl 16 (by decide) (hts (.fieldLink RX11 154 "SocietyBookModel" "notes" "I") (by decide +kernel)) (fun _ h9 => h9) rfl dX11_note_110 ?_
            exact W.iret (v := (F 16) + 1) hx hb hr (fun t ht hW => ⟨⟨(F 16) + 1, (va_up F 16 ((F 16) + 1), va_up (va_up (va_up (va_up M 17 (upd (M 17) ((F 16).toNatClampNeg) p0)) 18 (upd (M 18) ((F 16).toNatClampNeg) p1)) 19 (upd (M 19) ((F 16).toNatClampNeg) p2)) 20 (upd (M 20) ((F 16).toNatClampNeg) (F 3))), rfl, by unfold s_X11_note; rw [if_pos c1, if_pos c2, if_pos c3, if_neg c4, if_neg c5], ⟨by rw [ht]; exact hP, va_K.moved hW.alike hK⟩, hD⟩, hS.F ht⟩) hS.2.2 dX11_note_113
          · refine lv_bipush (v := (-4)) hx hb dX11_note_53 (by decide) ?_
            exact W.iret (v := (-4)) hx hb hr (fun t ht hW => ⟨⟨(-4), (F, M), rfl, by unfold s_X11_note; rw [if_pos c1, if_pos c2, if_pos c3, if_neg c4, if_pos c5], ⟨by rw [ht]; exact hP, va_K.moved hW.alike hK⟩, hD⟩, hS.F ht⟩) hS.2.2 dX11_note_55
        · refine lv_bipush (v := (-2)) hx hb dX11_note_40 (by decide) ?_
          exact W.iret (v := (-2)) hx hb hr (fun t ht hW => ⟨⟨(-2), (F, M), rfl, by unfold s_X11_note; rw [if_pos c1, if_pos c2, if_pos c3, if_pos c4], ⟨by rw [ht]; exact hP, va_K.moved hW.alike hK⟩, hD⟩, hS.F ht⟩) hS.2.2 dX11_note_42
      · replace c3 := bo_f c3
        refine lv_iconst (v := (-1)) hx hb dX11_note_29 (by decide) ?_
        exact W.iret (v := (-1)) hx hb hr (fun t ht hW => ⟨⟨(-1), (F, M), rfl, by unfold s_X11_note; rw [if_pos c1, if_pos c2, if_neg c3], ⟨by rw [ht]; exact hP, va_K.moved hW.alike hK⟩, hD⟩, hS.F ht⟩) hS.2.2 dX11_note_30

def s_X11_open (F : Nat → Int32) (M : Nat → Nat → Int32) (p0 : Int32) (p1 : Int32) (p2 : Int32) : Int32 × ((Nat → Int32) × (Nat → Nat → Int32)) :=
  if 0 ≤ p0 ∧ p0 ≤ ((F 7) - 1) then (if 0 ≤ p1 ∧ p1 ≤ ((F 4) - 1) then (if 0 ≤ p2 ∧ p2 ≤ ((F 4) - 1) then (if p1 = p2 then ((-1), (F, M)) else
        if p1 = ((M 9) p0.toNatClampNeg) then ((-1), (F, M)) else
        if p2 = ((M 9) p0.toNatClampNeg) then ((-1), (F, M)) else
        if ((M 8) p0.toNatClampNeg) = 1 then (if ((M 15) p0.toNatClampNeg) = (-9) then (1, (F, va_up M 15 (upd (M 15) p0.toNatClampNeg (F 3)))) else
          ((-4), (F, M))) else
        ((s_X11_meets F M 3).1, ((s_X11_meets F M 3).2.1, (s_X11_meets F M 3).2.2))) else
      ((-1), (F, M))) else
    ((-1), (F, M))) else
  ((-1), (F, M))
set_option maxHeartbeats 4000000 in
set_option maxRecDepth 100000 in
theorem c_X11_open (l : Launch) (dC : Nat → ClassId) (dI : Nat → Nat → Nat) (h : Nat) (a : Nat → Nat) (cI cB cZ : ClassId) (F : Nat → Int32) (M : Nat → Nat → Int32) (p0 : Int32) (p1 : Int32) (p2 : Int32) (A : Nat → Prop) (hD : va_D A (wM h a cI cB cZ F M)) (hI : iv F M) : Met l yX11_open wsX11_open ({ frames := 2, cells := 0, slots := 0, locals := 43 } : Room) (va_Pc [.ref h, .int p0, .int p1, .int p2] (pM dC dI h a cI cB cZ F M)) (va_Qi (fun r u => (r, u) = s_X11_open F M p0 p1 p2) (qM A dC dI h a cI cB cZ) A) 0 0 A := by
  refine Met.ofW (cc := cX11_open) (maxL := 4) (ret := (some .int)) (by decide) rfl ?_
  intro p e s m args below meth c s₁ B hml hv
  obtain ⟨rfl, hP, hK⟩ := hv
  have hx := B.exec
  have hb := B.bytes
  have hr := B.returns
  have hts := atoms_spec (ws := wsX11_open) B.pre
  have hown : s.vm.findClass RX11 = some m.cls := findClass_of_methodNamed B.named
  have hlocks := B.notSynchronized
  have hin : ∀ w ∈ wsX110, w ∈ wsX11_open := by decide +kernel
  have hS : va_S A s.heap s.heap [] := va_S.rf
  have hl := lv_entry ([.ref h, .int p0, .int p1, .int p2]) (n := 4) (Nat.le_of_ble_eq_true rfl)
  rw [lg_entry_eq]
  generalize (lg_sl ([.ref h, .int p0, .int p1, .int p2]) ++ List.replicate (4 - (lg_sl ([.ref h, .int p0, .int p1, .int p2])).length) Slot.unset).toArray = ls at hl ⊢
  have hl : lv_has ls 4 [(0, .ref h), (1, .int p0), (2, .int p1), (3, .int p2)] := hl
  refine lv_aload_n hx hb dX11_open_0 rfl (lv_at hl 0 rfl) ?_
  refine lv_iload_n hx hb dX11_open_1 rfl (lv_at hl 1 rfl) ?_
  refine vp_callSi (W.runV (As := [.int p0]) (rest := []) ⟨hx, hb, hml, hown, hts⟩ (c_X11_isPaper l dC dI h a cI cB cZ F M p0) (cwV 1 hts gX11_open_X11_isPaper rfl rfl rfl (by decide +kernel) ⟨Nat.le_of_ble_eq_true rfl, Nat.le_of_ble_eq_true rfl⟩) ⟨pm_blind, va_recv hK hP (ci := 10) (q0 := 0) rfl rfl, fun U hU hW => ⟨rfl, by rw [hU]; exact hP, va_K.moved hW.alike hK⟩⟩ rfl rfl hl.1 rfl (lv_room (Nat.le_of_ble_eq_true rfl)) dX11_open_2 ⟨Nat.zero_le _, Nat.zero_le _⟩) (fun r hr9 => ?_)
  subst hr9
  refine lv_if_eq (tgt := 49) hx hb dX11_open_5 (by decide) (fun c1 => ?_) (fun c1 => ?_)
  · replace c1 := bo_f c1
    refine lv_iconst (v := (-1)) hx hb dX11_open_49 (by decide) ?_
    exact W.iret (v := (-1)) hx hb hr (fun t ht hW => ⟨⟨(-1), (F, M), rfl, by unfold s_X11_open; rw [if_neg c1], ⟨by rw [ht]; exact hP, va_K.moved hW.alike hK⟩, hD⟩, hS.F ht⟩) hS.2.2 dX11_open_50
  · replace c1 := bo_t c1
    refine lv_aload_n hx hb dX11_open_8 rfl (lv_at hl 0 rfl) ?_
    refine lv_iload_n hx hb dX11_open_9 rfl (lv_at hl 2 rfl) ?_
    refine vp_callSi (W.runV (As := [.int p1]) (rest := []) ⟨hx, hb, hml, hown, hts⟩ (c_X11_isFellow l dC dI h a cI cB cZ F M p1) (cwV 1 hts gX11_open_X11_isFellow rfl rfl rfl (by decide +kernel) ⟨Nat.le_of_ble_eq_true rfl, Nat.le_of_ble_eq_true rfl⟩) ⟨pm_blind, va_recv hK hP (ci := 10) (q0 := 0) rfl rfl, fun U hU hW => ⟨rfl, by rw [hU]; exact hP, va_K.moved hW.alike hK⟩⟩ rfl rfl hl.1 rfl (lv_room (Nat.le_of_ble_eq_true rfl)) dX11_open_10 ⟨Nat.zero_le _, Nat.zero_le _⟩) (fun r hr9 => ?_)
    subst hr9
    refine lv_if_eq (tgt := 49) hx hb dX11_open_13 (by decide) (fun c2 => ?_) (fun c2 => ?_)
    · replace c2 := bo_f c2
      refine lv_iconst (v := (-1)) hx hb dX11_open_49 (by decide) ?_
      exact W.iret (v := (-1)) hx hb hr (fun t ht hW => ⟨⟨(-1), (F, M), rfl, by unfold s_X11_open; rw [if_pos c1, if_neg c2], ⟨by rw [ht]; exact hP, va_K.moved hW.alike hK⟩, hD⟩, hS.F ht⟩) hS.2.2 dX11_open_50
    · replace c2 := bo_t c2
      refine lv_aload_n hx hb dX11_open_16 rfl (lv_at hl 0 rfl) ?_
      refine lv_iload_n hx hb dX11_open_17 rfl (lv_at hl 3 rfl) ?_
      refine vp_callSi (W.runV (As := [.int p2]) (rest := []) ⟨hx, hb, hml, hown, hts⟩ (c_X11_isFellow l dC dI h a cI cB cZ F M p2) (cwV 1 hts gX11_open_X11_isFellow rfl rfl rfl (by decide +kernel) ⟨Nat.le_of_ble_eq_true rfl, Nat.le_of_ble_eq_true rfl⟩) ⟨pm_blind, va_recv hK hP (ci := 10) (q0 := 0) rfl rfl, fun U hU hW => ⟨rfl, by rw [hU]; exact hP, va_K.moved hW.alike hK⟩⟩ rfl rfl hl.1 rfl (lv_room (Nat.le_of_ble_eq_true rfl)) dX11_open_18 ⟨Nat.zero_le _, Nat.zero_le _⟩) (fun r hr9 => ?_)
      subst hr9
      refine lv_if_eq (tgt := 49) hx hb dX11_open_21 (by decide) (fun c3 => ?_) (fun c3 => ?_)
      · replace c3 := bo_f c3
        refine lv_iconst (v := (-1)) hx hb dX11_open_49 (by decide) ?_
        exact W.iret (v := (-1)) hx hb hr (fun t ht hW => ⟨⟨(-1), (F, M), rfl, by unfold s_X11_open; rw [if_pos c1, if_pos c2, if_neg c3], ⟨by rw [ht]; exact hP, va_K.moved hW.alike hK⟩, hD⟩, hS.F ht⟩) hS.2.2 dX11_open_50
      · replace c3 := bo_t c3
        refine lv_iload_n hx hb dX11_open_24 rfl (lv_at hl 2 rfl) ?_
        refine lv_iload_n hx hb dX11_open_25 rfl (lv_at hl 3 rfl) ?_
        refine lv_icmp_eq (tgt := 49) hx hb dX11_open_26 (by decide) (fun c4 => ?_) (fun c4 => ?_)
        · refine lv_iconst (v := (-1)) hx hb dX11_open_49 (by decide) ?_
          exact W.iret (v := (-1)) hx hb hr (fun t ht hW => ⟨⟨(-1), (F, M), rfl, by unfold s_X11_open; rw [if_pos c1, if_pos c2, if_pos c3, if_pos c4], ⟨by rw [ht]; exact hP, va_K.moved hW.alike hK⟩, hD⟩, hS.F ht⟩) hS.2.2 dX11_open_50
        · refine lv_iload_n hx hb dX11_open_29 rfl (lv_at hl 2 rfl) ?_
          refine lv_aload_n hx hb dX11_open_30 rfl (lv_at hl 0 rfl) ?_
          refine va_get (D := (dC, dI)) (ci := 10) (v := .ref (a 9)) (C := RX11) (T := TX11) (N := 49) hx hb hts hin hown hK hP 0 rfl rfl 9 (by decide) (hts (.fieldLink RX11 22 "SocietyBookModel" "authorOf" "[I") (by decide +kernel)) (fun _ h9 => h9) rfl dX11_open_31 ?_
          refine lv_iload_n hx hb dX11_open_34 rfl (lv_at hl 1 rfl) ?_
          refine va_iald (f := M 9) hx hb hK hP 5 0 rfl rfl (ib_cn c1 (iv_7 hI) (by decide)) dX11_open_35 ?_
          refine lv_icmp_eq (tgt := 49) hx hb dX11_open_36 (by decide) (fun c5 => ?_) (fun c5 => ?_)
          · refine lv_iconst (v := (-1)) hx hb dX11_open_49 (by decide) ?_
            exact W.iret (v := (-1)) hx hb hr (fun t ht hW => ⟨⟨(-1), (F, M), rfl, by unfold s_X11_open; rw [if_pos c1, if_pos c2, if_pos c3, if_neg c4, if_pos c5], ⟨by rw [ht]; exact hP, va_K.moved hW.alike hK⟩, hD⟩, hS.F ht⟩) hS.2.2 dX11_open_50
          · refine lv_iload_n hx hb dX11_open_39 rfl (lv_at hl 3 rfl) ?_
            refine lv_aload_n hx hb dX11_open_40 rfl (lv_at hl 0 rfl) ?_
            refine va_get (D := (dC, dI)) (ci := 10) (v := .ref (a 9)) (C := RX11) (T := TX11) (N := 49) hx hb hts hin hown hK hP 0 rfl rfl 9 (by decide) (hts (.fieldLink RX11 22 "SocietyBookModel" "authorOf" "[I") (by decide +kernel)) (fun _ h9 => h9) rfl dX11_open_41 ?_
            refine lv_iload_n hx hb dX11_open_44 rfl (lv_at hl 1 rfl) ?_
            refine va_iald (f := M 9) hx hb hK hP 5 0 rfl rfl (ib_cn c1 (iv_7 hI) (by decide)) dX11_open_45 ?_
            refine lv_icmp_ne (tgt := 51) hx hb dX11_open_46 (by decide) (fun c6 => ?_) (fun c6 => ?_)
            · refine lv_aload_n hx hb dX11_open_51 rfl (lv_at hl 0 rfl) ?_
              refine va_get (D := (dC, dI)) (ci := 10) (v := .ref (a 8)) (C := RX11) (T := TX11) (N := 49) hx hb hts hin hown hK hP 0 rfl rfl 8 (by decide) (hts (.fieldLink RX11 19 "SocietyBookModel" "kindOf" "[I") (by decide +kernel)) (fun _ h9 => h9) rfl dX11_open_52 ?_
              refine lv_iload_n hx hb dX11_open_55 rfl (lv_at hl 1 rfl) ?_
              refine va_iald (f := M 8) hx hb hK hP 4 0 rfl rfl (ib_cn c1 (iv_7 hI) (by decide)) dX11_open_56 ?_
              refine lv_iconst (v := 1) hx hb dX11_open_57 (by decide) ?_
              refine lv_icmp_eq (tgt := 67) hx hb dX11_open_58 (by decide) (fun c7 => ?_) (fun c7 => ?_)
              · refine lv_aload_n hx hb dX11_open_67 rfl (lv_at hl 0 rfl) ?_
                refine va_get (D := (dC, dI)) (ci := 10) (v := .ref (a 15)) (C := RX11) (T := TX11) (N := 49) hx hb hts hin hown hK hP 0 rfl rfl 15 (by decide) (hts (.fieldLink RX11 40 "SocietyBookModel" "openedOn" "[I") (by decide +kernel)) (fun _ h9 => h9) rfl dX11_open_68 ?_
                refine lv_iload_n hx hb dX11_open_71 rfl (lv_at hl 1 rfl) ?_
                refine va_iald (f := M 15) hx hb hK hP 11 0 rfl rfl (ib_cn c1 (iv_7 hI) (by decide)) dX11_open_72 ?_
                refine lv_bipush (v := (-9)) hx hb dX11_open_73 (by decide) ?_
                refine lv_icmp_eq (tgt := 81) hx hb dX11_open_75 (by decide) (fun c8 => ?_) (fun c8 => ?_)
                · refine lv_aload_n hx hb dX11_open_81 rfl (lv_at hl 0 rfl) ?_
                  refine va_get (D := (dC, dI)) (ci := 10) (v := .ref (a 15)) (C := RX11) (T := TX11) (N := 49) hx hb hts hin hown hK hP 0 rfl rfl 15 (by decide) (hts (.fieldLink RX11 40 "SocietyBookModel" "openedOn" "[I") (by decide +kernel)) (fun _ h9 => h9) rfl dX11_open_82 ?_
                  refine lv_iload_n hx hb dX11_open_85 rfl (lv_at hl 1 rfl) ?_
                  refine lv_aload_n hx hb dX11_open_86 rfl (lv_at hl 0 rfl) ?_
                  refine va_get (D := (dC, dI)) (ci := 10) (v := .int (F 3)) (C := RX11) (T := TX11) (N := 49) hx hb hts hin hown hK hP 0 rfl rfl 3 (by decide) (hts (.fieldLink RX11 140 "SocietyBookModel" "today" "I") (by decide +kernel)) (fun _ h9 => h9) rfl dX11_open_87 ?_
                  refine va_iast (f := M 15) hx hb hK hP hD hS 11 0 rfl rfl (ib_cn c1 (iv_7 hI) (by decide)) dX11_open_90 (fun H locs hP hD hS => ?_)
                  replace hP : va_P (dC, dI) vwCl (wM h a cI cB cZ F (va_up M 15 (upd (M 15) p0.toNatClampNeg (F 3)))) H := hP
                  replace hD : va_D A (wM h a cI cB cZ F (va_up M 15 (upd (M 15) p0.toNatClampNeg (F 3)))) := hD
                  refine lv_iconst (v := 1) hx hb dX11_open_91 (by decide) ?_
                  exact W.iret (v := 1) hx hb hr (fun t ht hW => ⟨⟨1, (F, va_up M 15 (upd (M 15) p0.toNatClampNeg (F 3))), rfl, by unfold s_X11_open; rw [if_pos c1, if_pos c2, if_pos c3, if_neg c4, if_neg c5, if_neg c6, if_pos c7, if_pos c8], ⟨by rw [ht]; exact hP, va_K.moved hW.alike hK⟩, hD⟩, hS.F ht⟩) hS.2.2 dX11_open_92
                · refine lv_bipush (v := (-4)) hx hb dX11_open_78 (by decide) ?_
                  exact W.iret (v := (-4)) hx hb hr (fun t ht hW => ⟨⟨(-4), (F, M), rfl, by unfold s_X11_open; rw [if_pos c1, if_pos c2, if_pos c3, if_neg c4, if_neg c5, if_neg c6, if_pos c7, if_neg c8], ⟨by rw [ht]; exact hP, va_K.moved hW.alike hK⟩, hD⟩, hS.F ht⟩) hS.2.2 dX11_open_80
              · refine lv_aload_n hx hb dX11_open_61 rfl (lv_at hl 0 rfl) ?_
                refine lv_iconst (v := 3) hx hb dX11_open_62 (by decide) ?_
                refine va_calli (va_runV (As := [.int 3]) (rest := []) ⟨hx, hb, hml, hown, hts⟩ (c_X11_meets l dC dI h a cI cB cZ F M 3 A hD (ib_lit (by decide))) (cwV 1 hts gX11_open_X11_meets rfl rfl rfl (by decide +kernel) ⟨Nat.le_of_ble_eq_true rfl, Nat.le_of_ble_eq_true rfl⟩) ⟨pm_blind, va_recv hK hP (ci := 10) (q0 := 0) rfl rfl, fun U hU hW => ⟨rfl, by rw [hU]; exact hP, va_K.moved hW.alike hK⟩⟩ rfl rfl hl.1 rfl (lv_room (Nat.le_of_ble_eq_true rfl)) dX11_open_63 ⟨Nat.zero_le _, Nat.zero_le _⟩) hS (fun q _ h => h) (fun q h => h) (fun r u t H1 locs ht hvm hw hB hz1 hk1 hS => ?_)
                obtain ⟨hr9, hu9⟩ : r = (s_X11_meets F M 3).1 ∧ u = (s_X11_meets F M 3).2 := ⟨congrArg Prod.fst hw, congrArg Prod.snd hw⟩
                subst hr9; subst hu9
                obtain ⟨⟨hP, -⟩, hD⟩ := hB
                rw [ht] at hP
                clear hw hz1 hk1 ht hvm; generalize H1 = H at hP hS ⊢
                exact W.iret (v := (s_X11_meets F M 3).1) hx hb hr (fun t ht hW => ⟨⟨(s_X11_meets F M 3).1, ((s_X11_meets F M 3).2.1, (s_X11_meets F M 3).2.2), rfl, by unfold s_X11_open; rw [if_pos c1, if_pos c2, if_pos c3, if_neg c4, if_neg c5, if_neg c6, if_neg c7], ⟨by rw [ht]; exact hP, va_K.moved hW.alike hK⟩, hD⟩, hS.F ht⟩) hS.2.2 dX11_open_66
            · refine lv_iconst (v := (-1)) hx hb dX11_open_49 (by decide) ?_
              exact W.iret (v := (-1)) hx hb hr (fun t ht hW => ⟨⟨(-1), (F, M), rfl, by unfold s_X11_open; rw [if_pos c1, if_pos c2, if_pos c3, if_neg c4, if_neg c5, if_pos c6], ⟨by rw [ht]; exact hP, va_K.moved hW.alike hK⟩, hD⟩, hS.F ht⟩) hS.2.2 dX11_open_50

def s_X11_toldOf (F : Nat → Int32) (M : Nat → Nat → Int32) (p0 : Int32) (p1 : Int32) : Int32 :=
  if p1 = 0 then (M 8) p0.toNatClampNeg else
  if p1 = 1 then (M 9) p0.toNatClampNeg else
  if p1 = 2 then (M 10) p0.toNatClampNeg else
  if p1 = 3 then (M 11) p0.toNatClampNeg else
  s_X11_lastOf F M p0 (p1 - 4) 30000
set_option maxHeartbeats 4000000 in
set_option maxRecDepth 100000 in
theorem c_X11_toldOf (l : Launch) (dC : Nat → ClassId) (dI : Nat → Nat → Nat) (h : Nat) (a : Nat → Nat) (cI cB cZ : ClassId) (F : Nat → Int32) (M : Nat → Nat → Int32) (p0 : Int32) (p1 : Int32) (hI : iv F M) (hp : vp_in p0 24) : Met l yX11_toldOf wsX11_toldOf ({ frames := 1, cells := 0, slots := 0, locals := 25 } : Room) (va_Pc [.ref h, .int p0, .int p1] (pM dC dI h a cI cB cZ F M)) (vp_Si (fun r => r = s_X11_toldOf F M p0 p1)) 0 0 (fun _ => False) := by
  refine Met.ofW (cc := cX11_toldOf) (maxL := 3) (ret := (some .int)) (by decide) rfl ?_
  intro p e s m args below meth c s₁ B hml hv
  obtain ⟨rfl, hP, hK⟩ := hv
  have hx := B.exec
  have hb := B.bytes
  have hr := B.returns
  have hts := atoms_spec (ws := wsX11_toldOf) B.pre
  have hown : s.vm.findClass RX11 = some m.cls := findClass_of_methodNamed B.named
  have hlocks := B.notSynchronized
  have hin : ∀ w ∈ wsX110, w ∈ wsX11_toldOf := by decide +kernel
  have hl := lv_entry ([.ref h, .int p0, .int p1]) (n := 3) (Nat.le_of_ble_eq_true rfl)
  rw [lg_entry_eq]
  generalize (lg_sl ([.ref h, .int p0, .int p1]) ++ List.replicate (3 - (lg_sl ([.ref h, .int p0, .int p1])).length) Slot.unset).toArray = ls at hl ⊢
  have hl : lv_has ls 3 [(0, .ref h), (1, .int p0), (2, .int p1)] := hl
  refine lv_iload_n hx hb dX11_toldOf_0 rfl (lv_at hl 2 rfl) ?_
  by_cases c1 : p1 = 0
  · refine lv_tableIn (tgt := 32) (off := 31) hx hb dX11_toldOf_1 (by rw [c1]; decide) (by rw [c1]; decide) (by rw [c1]; decide +kernel) (by decide) ?_
    refine lv_aload_n hx hb dX11_toldOf_32 rfl (lv_at hl 0 rfl) ?_
    refine va_get (D := (dC, dI)) (ci := 10) (v := .ref (a 8)) (C := RX11) (T := TX11) (N := 49) hx hb hts hin hown hK hP 0 rfl rfl 8 (by decide) (hts (.fieldLink RX11 19 "SocietyBookModel" "kindOf" "[I") (by decide +kernel)) (fun _ h9 => h9) rfl dX11_toldOf_33 ?_
    refine lv_iload_n hx hb dX11_toldOf_36 rfl (lv_at hl 1 rfl) ?_
    refine va_iald (f := M 8) hx hb hK hP 4 0 rfl rfl hp dX11_toldOf_37 ?_
    exact W.iret (v := (M 8) p0.toNatClampNeg) hx hb hr (fun t ht hW => ⟨(M 8) p0.toNatClampNeg, rfl, by unfold s_X11_toldOf; rw [if_pos c1], ht⟩) (fun _ h => by cases h) dX11_toldOf_38
  · by_cases c2 : p1 = 1
    · refine lv_tableIn (tgt := 39) (off := 38) hx hb dX11_toldOf_1 (by rw [c2]; decide) (by rw [c2]; decide) (by rw [c2]; decide +kernel) (by decide) ?_
      refine lv_aload_n hx hb dX11_toldOf_39 rfl (lv_at hl 0 rfl) ?_
      refine va_get (D := (dC, dI)) (ci := 10) (v := .ref (a 9)) (C := RX11) (T := TX11) (N := 49) hx hb hts hin hown hK hP 0 rfl rfl 9 (by decide) (hts (.fieldLink RX11 22 "SocietyBookModel" "authorOf" "[I") (by decide +kernel)) (fun _ h9 => h9) rfl dX11_toldOf_40 ?_
      refine lv_iload_n hx hb dX11_toldOf_43 rfl (lv_at hl 1 rfl) ?_
      refine va_iald (f := M 9) hx hb hK hP 5 0 rfl rfl hp dX11_toldOf_44 ?_
      exact W.iret (v := (M 9) p0.toNatClampNeg) hx hb hr (fun t ht hW => ⟨(M 9) p0.toNatClampNeg, rfl, by unfold s_X11_toldOf; rw [if_neg c1, if_pos c2], ht⟩) (fun _ h => by cases h) dX11_toldOf_45
    · by_cases c3 : p1 = 2
      · refine lv_tableIn (tgt := 46) (off := 45) hx hb dX11_toldOf_1 (by rw [c3]; decide) (by rw [c3]; decide) (by rw [c3]; decide +kernel) (by decide) ?_
        refine lv_aload_n hx hb dX11_toldOf_46 rfl (lv_at hl 0 rfl) ?_
        refine va_get (D := (dC, dI)) (ci := 10) (v := .ref (a 10)) (C := RX11) (T := TX11) (N := 49) hx hb hts hin hown hK hP 0 rfl rfl 10 (by decide) (hts (.fieldLink RX11 25 "SocietyBookModel" "claimsOf" "[I") (by decide +kernel)) (fun _ h9 => h9) rfl dX11_toldOf_47 ?_
        refine lv_iload_n hx hb dX11_toldOf_50 rfl (lv_at hl 1 rfl) ?_
        refine va_iald (f := M 10) hx hb hK hP 6 0 rfl rfl hp dX11_toldOf_51 ?_
        exact W.iret (v := (M 10) p0.toNatClampNeg) hx hb hr (fun t ht hW => ⟨(M 10) p0.toNatClampNeg, rfl, by unfold s_X11_toldOf; rw [if_neg c1, if_neg c2, if_pos c3], ht⟩) (fun _ h => by cases h) dX11_toldOf_52
      · by_cases c4 : p1 = 3
        · refine lv_tableIn (tgt := 53) (off := 52) hx hb dX11_toldOf_1 (by rw [c4]; decide) (by rw [c4]; decide) (by rw [c4]; decide +kernel) (by decide) ?_
          refine lv_aload_n hx hb dX11_toldOf_53 rfl (lv_at hl 0 rfl) ?_
          refine va_get (D := (dC, dI)) (ci := 10) (v := .ref (a 11)) (C := RX11) (T := TX11) (N := 49) hx hb hts hin hown hK hP 0 rfl rfl 11 (by decide) (hts (.fieldLink RX11 28 "SocietyBookModel" "toldOn" "[I") (by decide +kernel)) (fun _ h9 => h9) rfl dX11_toldOf_54 ?_
          refine lv_iload_n hx hb dX11_toldOf_57 rfl (lv_at hl 1 rfl) ?_
          refine va_iald (f := M 11) hx hb hK hP 7 0 rfl rfl hp dX11_toldOf_58 ?_
          exact W.iret (v := (M 11) p0.toNatClampNeg) hx hb hr (fun t ht hW => ⟨(M 11) p0.toNatClampNeg, rfl, by unfold s_X11_toldOf; rw [if_neg c1, if_neg c2, if_neg c3, if_pos c4], ht⟩) (fun _ h => by cases h) dX11_toldOf_59
        · refine lv_tableOut (tgt := 60) hx hb dX11_toldOf_1 (ts_out4 c1 c2 c3 c4) (by decide) ?_
          refine lv_aload_n hx hb dX11_toldOf_60 rfl (lv_at hl 0 rfl) ?_
          refine lv_iload_n hx hb dX11_toldOf_61 rfl (lv_at hl 1 rfl) ?_
          refine lv_iload_n hx hb dX11_toldOf_62 rfl (lv_at hl 2 rfl) ?_
          refine lv_iconst (v := 4) hx hb dX11_toldOf_63 (by decide) ?_
          refine lv_isub hx hb dX11_toldOf_64 ?_
          refine lv_sipush (v := 30000) hx hb dX11_toldOf_65 (by decide) ?_
          refine vp_callSi (W.runV (As := [.int p0, .int (p1 - 4), .int 30000]) (rest := []) ⟨hx, hb, hml, hown, hts⟩ (c_X11_lastOf l dC dI h a cI cB cZ F M p0 (p1 - 4) 30000 hI) (cwV 3 hts gX11_toldOf_X11_lastOf rfl rfl rfl (by decide +kernel) ⟨Nat.le_of_ble_eq_true rfl, Nat.le_of_ble_eq_true rfl⟩) ⟨pm_blind, va_recv hK hP (ci := 10) (q0 := 0) rfl rfl, fun U hU hW => ⟨rfl, by rw [hU]; exact hP, va_K.moved hW.alike hK⟩⟩ rfl rfl hl.1 rfl (lv_room (Nat.le_of_ble_eq_true rfl)) dX11_toldOf_68 ⟨Nat.zero_le _, Nat.zero_le _⟩) (fun r hr9 => ?_)
          subst hr9
          exact W.iret (v := s_X11_lastOf F M p0 (p1 - 4) 30000) hx hb hr (fun t ht hW => ⟨s_X11_lastOf F M p0 (p1 - 4) 30000, rfl, by unfold s_X11_toldOf; rw [if_neg c1, if_neg c2, if_neg c3, if_neg c4], ht⟩) (fun _ h => by cases h) dX11_toldOf_71

def s_X11_told (F : Nat → Int32) (M : Nat → Nat → Int32) (p0 : Int32) (p1 : Int32) : Int32 :=
  if 0 ≤ p0 ∧ p0 ≤ ((F 7) - 1) then (if 0 ≤ p1 ∧ p1 ≤ 6 then s_X11_toldOf F M p0 p1 else
    (-1)) else
  (-1)
set_option maxHeartbeats 4000000 in
set_option maxRecDepth 100000 in
theorem c_X11_told (l : Launch) (dC : Nat → ClassId) (dI : Nat → Nat → Nat) (h : Nat) (a : Nat → Nat) (cI cB cZ : ClassId) (F : Nat → Int32) (M : Nat → Nat → Int32) (p0 : Int32) (p1 : Int32) (hI : iv F M) : Met l yX11_told wsX11_told ({ frames := 2, cells := 0, slots := 0, locals := 47 } : Room) (va_Pc [.ref h, .int p0, .int p1] (pM dC dI h a cI cB cZ F M)) (vp_Si (fun r => r = s_X11_told F M p0 p1)) 0 0 (fun _ => False) := by
  refine Met.ofW (cc := cX11_told) (maxL := 3) (ret := (some .int)) (by decide) rfl ?_
  intro p e s m args below meth c s₁ B hml hv
  obtain ⟨rfl, hP, hK⟩ := hv
  have hx := B.exec
  have hb := B.bytes
  have hr := B.returns
  have hts := atoms_spec (ws := wsX11_told) B.pre
  have hown : s.vm.findClass RX11 = some m.cls := findClass_of_methodNamed B.named
  have hlocks := B.notSynchronized
  have hl := lv_entry ([.ref h, .int p0, .int p1]) (n := 3) (Nat.le_of_ble_eq_true rfl)
  rw [lg_entry_eq]
  generalize (lg_sl ([.ref h, .int p0, .int p1]) ++ List.replicate (3 - (lg_sl ([.ref h, .int p0, .int p1])).length) Slot.unset).toArray = ls at hl ⊢
  have hl : lv_has ls 3 [(0, .ref h), (1, .int p0), (2, .int p1)] := hl
  refine lv_aload_n hx hb dX11_told_0 rfl (lv_at hl 0 rfl) ?_
  refine lv_iload_n hx hb dX11_told_1 rfl (lv_at hl 1 rfl) ?_
  refine vp_callSi (W.runV (As := [.int p0]) (rest := []) ⟨hx, hb, hml, hown, hts⟩ (c_X11_isPaper l dC dI h a cI cB cZ F M p0) (cwV 1 hts gX11_told_X11_isPaper rfl rfl rfl (by decide +kernel) ⟨Nat.le_of_ble_eq_true rfl, Nat.le_of_ble_eq_true rfl⟩) ⟨pm_blind, va_recv hK hP (ci := 10) (q0 := 0) rfl rfl, fun U hU hW => ⟨rfl, by rw [hU]; exact hP, va_K.moved hW.alike hK⟩⟩ rfl rfl hl.1 rfl (lv_room (Nat.le_of_ble_eq_true rfl)) dX11_told_2 ⟨Nat.zero_le _, Nat.zero_le _⟩) (fun r hr9 => ?_)
  subst hr9
  refine lv_if_eq (tgt := 27) hx hb dX11_told_5 (by decide) (fun c1 => ?_) (fun c1 => ?_)
  · replace c1 := bo_f c1
    refine lv_iconst (v := (-1)) hx hb dX11_told_27 (by decide) ?_
    exact W.iret (v := (-1)) hx hb hr (fun t ht hW => ⟨(-1), rfl, by unfold s_X11_told; rw [if_neg c1], ht⟩) (fun _ h => by cases h) dX11_told_28
  · replace c1 := bo_t c1
    refine lv_iload_n hx hb dX11_told_8 rfl (lv_at hl 2 rfl) ?_
    refine lv_iconst (v := 0) hx hb dX11_told_9 (by decide) ?_
    refine lv_bipush (v := 6) hx hb dX11_told_10 (by decide) ?_
    refine vp_callSi (W.runS (As := [.int p1, .int 0, .int 6]) (rest := []) ⟨hx, hb, hml, hown, hts⟩ (c_X11_in l p1 0 6) (va_cwS 3 hts gX11_told_X11_in rfl rfl rfl (by decide +kernel) ⟨Nat.le_of_ble_eq_true rfl, Nat.le_of_ble_eq_true rfl⟩) ⟨fun _ _ _ _ q => q, fun U hU hW => ⟨rfl, trivial⟩⟩ rfl rfl hl.1 rfl (lv_room (Nat.le_of_ble_eq_true rfl)) dX11_told_12 ⟨Nat.zero_le _, Nat.zero_le _⟩) (fun r hr9 => ?_)
    subst hr9
    refine lv_if_eq (tgt := 27) hx hb dX11_told_15 (by decide) (fun c2 => ?_) (fun c2 => ?_)
    · replace c2 := bo_f c2
      refine lv_iconst (v := (-1)) hx hb dX11_told_27 (by decide) ?_
      exact W.iret (v := (-1)) hx hb hr (fun t ht hW => ⟨(-1), rfl, by unfold s_X11_told; rw [if_pos c1, if_neg c2], ht⟩) (fun _ h => by cases h) dX11_told_28
    · replace c2 := bo_t c2
      refine lv_aload_n hx hb dX11_told_18 rfl (lv_at hl 0 rfl) ?_
      refine lv_iload_n hx hb dX11_told_19 rfl (lv_at hl 1 rfl) ?_
      refine lv_iload_n hx hb dX11_told_20 rfl (lv_at hl 2 rfl) ?_
      refine vp_callSi (W.runV (As := [.int p0, .int p1]) (rest := []) ⟨hx, hb, hml, hown, hts⟩ (c_X11_toldOf l dC dI h a cI cB cZ F M p0 p1 hI (ib_cn c1 (iv_7 hI) (by decide))) (cwV 2 hts gX11_told_X11_toldOf rfl rfl rfl (by decide +kernel) ⟨Nat.le_of_ble_eq_true rfl, Nat.le_of_ble_eq_true rfl⟩) ⟨pm_blind, va_recv hK hP (ci := 10) (q0 := 0) rfl rfl, fun U hU hW => ⟨rfl, by rw [hU]; exact hP, va_K.moved hW.alike hK⟩⟩ rfl rfl hl.1 rfl (lv_room (Nat.le_of_ble_eq_true rfl)) dX11_told_21 ⟨Nat.zero_le _, Nat.zero_le _⟩) (fun r hr9 => ?_)
      subst hr9
      refine lv_goto (tgt := 28) hx hb dX11_told_24 (by decide) ?_
      exact W.iret (v := s_X11_toldOf F M p0 p1) hx hb hr (fun t ht hW => ⟨s_X11_toldOf F M p0 p1, rfl, by unfold s_X11_told; rw [if_pos c1, if_pos c2], ht⟩) (fun _ h => by cases h) dX11_told_28

def s_X11_mark (F : Nat → Int32) (M : Nat → Nat → Int32) (p0 : Int32) (p1 : Int32) : Int32 × ((Nat → Int32) × (Nat → Nat → Int32)) :=
  if 0 ≤ p0 ∧ p0 ≤ ((F 7) - 1) then (if 0 ≤ p1 ∧ p1 ≤ 2 then (if p1 = 0 then (s_X11_bitsOf ((M 10) p0.toNatClampNeg), (F, M)) else
      if ((M 8) p0.toNatClampNeg) = p1 then (if p1 = 1 then ((M 15) p0.toNatClampNeg, (F, M)) else
        ((M 12) p0.toNatClampNeg, (F, M))) else
      ((s_X11_meets F M 3).1, ((s_X11_meets F M 3).2.1, (s_X11_meets F M 3).2.2))) else
    ((-1), (F, M))) else
  ((-1), (F, M))
set_option maxHeartbeats 4000000 in
set_option maxRecDepth 100000 in
theorem c_X11_mark (l : Launch) (dC : Nat → ClassId) (dI : Nat → Nat → Nat) (h : Nat) (a : Nat → Nat) (cI cB cZ : ClassId) (F : Nat → Int32) (M : Nat → Nat → Int32) (p0 : Int32) (p1 : Int32) (A : Nat → Prop) (hD : va_D A (wM h a cI cB cZ F M)) (hI : iv F M) : Met l yX11_mark wsX11_mark ({ frames := 2, cells := 0, slots := 0, locals := 43 } : Room) (va_Pc [.ref h, .int p0, .int p1] (pM dC dI h a cI cB cZ F M)) (va_Qi (fun r u => (r, u) = s_X11_mark F M p0 p1) (qM A dC dI h a cI cB cZ) A) 0 0 A := by
  refine Met.ofW (cc := cX11_mark) (maxL := 3) (ret := (some .int)) (by decide) rfl ?_
  intro p e s m args below meth c s₁ B hml hv
  obtain ⟨rfl, hP, hK⟩ := hv
  have hx := B.exec
  have hb := B.bytes
  have hr := B.returns
  have hts := atoms_spec (ws := wsX11_mark) B.pre
  have hown : s.vm.findClass RX11 = some m.cls := findClass_of_methodNamed B.named
  have hlocks := B.notSynchronized
  have hin : ∀ w ∈ wsX110, w ∈ wsX11_mark := by decide +kernel
  have hS : va_S A s.heap s.heap [] := va_S.rf
  have hl := lv_entry ([.ref h, .int p0, .int p1]) (n := 3) (Nat.le_of_ble_eq_true rfl)
  rw [lg_entry_eq]
  generalize (lg_sl ([.ref h, .int p0, .int p1]) ++ List.replicate (3 - (lg_sl ([.ref h, .int p0, .int p1])).length) Slot.unset).toArray = ls at hl ⊢
  have hl : lv_has ls 3 [(0, .ref h), (1, .int p0), (2, .int p1)] := hl
  refine lv_aload_n hx hb dX11_mark_0 rfl (lv_at hl 0 rfl) ?_
  refine lv_iload_n hx hb dX11_mark_1 rfl (lv_at hl 1 rfl) ?_
  refine vp_callSi (W.runV (As := [.int p0]) (rest := []) ⟨hx, hb, hml, hown, hts⟩ (c_X11_isPaper l dC dI h a cI cB cZ F M p0) (cwV 1 hts gX11_mark_X11_isPaper rfl rfl rfl (by decide +kernel) ⟨Nat.le_of_ble_eq_true rfl, Nat.le_of_ble_eq_true rfl⟩) ⟨pm_blind, va_recv hK hP (ci := 10) (q0 := 0) rfl rfl, fun U hU hW => ⟨rfl, by rw [hU]; exact hP, va_K.moved hW.alike hK⟩⟩ rfl rfl hl.1 rfl (lv_room (Nat.le_of_ble_eq_true rfl)) dX11_mark_2 ⟨Nat.zero_le _, Nat.zero_le _⟩) (fun r hr9 => ?_)
  subst hr9
  refine lv_if_eq (tgt := 17) hx hb dX11_mark_5 (by decide) (fun c1 => ?_) (fun c1 => ?_)
  · replace c1 := bo_f c1
    refine lv_iconst (v := (-1)) hx hb dX11_mark_17 (by decide) ?_
    exact W.iret (v := (-1)) hx hb hr (fun t ht hW => ⟨⟨(-1), (F, M), rfl, by unfold s_X11_mark; rw [if_neg c1], ⟨by rw [ht]; exact hP, va_K.moved hW.alike hK⟩, hD⟩, hS.F ht⟩) hS.2.2 dX11_mark_18
  · replace c1 := bo_t c1
    refine lv_iload_n hx hb dX11_mark_8 rfl (lv_at hl 2 rfl) ?_
    refine lv_iconst (v := 0) hx hb dX11_mark_9 (by decide) ?_
    refine lv_iconst (v := 2) hx hb dX11_mark_10 (by decide) ?_
    refine vp_callSi (W.runS (As := [.int p1, .int 0, .int 2]) (rest := []) ⟨hx, hb, hml, hown, hts⟩ (c_X11_in l p1 0 2) (va_cwS 3 hts gX11_mark_X11_in rfl rfl rfl (by decide +kernel) ⟨Nat.le_of_ble_eq_true rfl, Nat.le_of_ble_eq_true rfl⟩) ⟨fun _ _ _ _ q => q, fun U hU hW => ⟨rfl, trivial⟩⟩ rfl rfl hl.1 rfl (lv_room (Nat.le_of_ble_eq_true rfl)) dX11_mark_11 ⟨Nat.zero_le _, Nat.zero_le _⟩) (fun r hr9 => ?_)
    subst hr9
    refine lv_if_ne (tgt := 19) hx hb dX11_mark_14 (by decide) (fun c2 => ?_) (fun c2 => ?_)
    · replace c2 := bo_t c2
      refine lv_iload_n hx hb dX11_mark_19 rfl (lv_at hl 2 rfl) ?_
      refine lv_if_ne (tgt := 33) hx hb dX11_mark_20 (by decide) (fun c3 => ?_) (fun c3 => ?_)
      · refine lv_aload_n hx hb dX11_mark_33 rfl (lv_at hl 0 rfl) ?_
        refine va_get (D := (dC, dI)) (ci := 10) (v := .ref (a 8)) (C := RX11) (T := TX11) (N := 49) hx hb hts hin hown hK hP 0 rfl rfl 8 (by decide) (hts (.fieldLink RX11 19 "SocietyBookModel" "kindOf" "[I") (by decide +kernel)) (fun _ h9 => h9) rfl dX11_mark_34 ?_
        refine lv_iload_n hx hb dX11_mark_37 rfl (lv_at hl 1 rfl) ?_
        refine va_iald (f := M 8) hx hb hK hP 4 0 rfl rfl (ib_cn c1 (iv_7 hI) (by decide)) dX11_mark_38 ?_
        refine lv_iload_n hx hb dX11_mark_39 rfl (lv_at hl 2 rfl) ?_
        refine lv_icmp_eq (tgt := 51) hx hb dX11_mark_40 (by decide) (fun c4 => ?_) (fun c4 => ?_)
        · refine lv_iload_n hx hb dX11_mark_51 rfl (lv_at hl 2 rfl) ?_
          refine lv_iconst (v := 1) hx hb dX11_mark_52 (by decide) ?_
          refine lv_icmp_ne (tgt := 65) hx hb dX11_mark_53 (by decide) (fun c5 => ?_) (fun c5 => ?_)
          · refine lv_aload_n hx hb dX11_mark_65 rfl (lv_at hl 0 rfl) ?_
            refine va_get (D := (dC, dI)) (ci := 10) (v := .ref (a 12)) (C := RX11) (T := TX11) (N := 49) hx hb hts hin hown hK hP 0 rfl rfl 12 (by decide) (hts (.fieldLink RX11 31 "SocietyBookModel" "sentOn" "[I") (by decide +kernel)) (fun _ h9 => h9) rfl dX11_mark_66 ?_
            refine lv_iload_n hx hb dX11_mark_69 rfl (lv_at hl 1 rfl) ?_
            refine va_iald (f := M 12) hx hb hK hP 8 0 rfl rfl (ib_cn c1 (iv_7 hI) (by decide)) dX11_mark_70 ?_
            exact W.iret (v := (M 12) p0.toNatClampNeg) hx hb hr (fun t ht hW => ⟨⟨(M 12) p0.toNatClampNeg, (F, M), rfl, by unfold s_X11_mark; rw [if_pos c1, if_pos c2, if_neg c3, if_pos c4, if_neg c5], ⟨by rw [ht]; exact hP, va_K.moved hW.alike hK⟩, hD⟩, hS.F ht⟩) hS.2.2 dX11_mark_71
          · refine lv_aload_n hx hb dX11_mark_56 rfl (lv_at hl 0 rfl) ?_
            refine va_get (D := (dC, dI)) (ci := 10) (v := .ref (a 15)) (C := RX11) (T := TX11) (N := 49) hx hb hts hin hown hK hP 0 rfl rfl 15 (by decide) (hts (.fieldLink RX11 40 "SocietyBookModel" "openedOn" "[I") (by decide +kernel)) (fun _ h9 => h9) rfl dX11_mark_57 ?_
            refine lv_iload_n hx hb dX11_mark_60 rfl (lv_at hl 1 rfl) ?_
            refine va_iald (f := M 15) hx hb hK hP 11 0 rfl rfl (ib_cn c1 (iv_7 hI) (by decide)) dX11_mark_61 ?_
            refine lv_goto (tgt := 71) hx hb dX11_mark_62 (by decide) ?_
            exact W.iret (v := (M 15) p0.toNatClampNeg) hx hb hr (fun t ht hW => ⟨⟨(M 15) p0.toNatClampNeg, (F, M), rfl, by unfold s_X11_mark; rw [if_pos c1, if_pos c2, if_neg c3, if_pos c4, if_pos c5], ⟨by rw [ht]; exact hP, va_K.moved hW.alike hK⟩, hD⟩, hS.F ht⟩) hS.2.2 dX11_mark_71
        · refine lv_aload_n hx hb dX11_mark_43 rfl (lv_at hl 0 rfl) ?_
          refine lv_iconst (v := 3) hx hb dX11_mark_44 (by decide) ?_
          refine va_calli (va_runV (As := [.int 3]) (rest := []) ⟨hx, hb, hml, hown, hts⟩ (c_X11_meets l dC dI h a cI cB cZ F M 3 A hD (ib_lit (by decide))) (cwV 1 hts gX11_mark_X11_meets rfl rfl rfl (by decide +kernel) ⟨Nat.le_of_ble_eq_true rfl, Nat.le_of_ble_eq_true rfl⟩) ⟨pm_blind, va_recv hK hP (ci := 10) (q0 := 0) rfl rfl, fun U hU hW => ⟨rfl, by rw [hU]; exact hP, va_K.moved hW.alike hK⟩⟩ rfl rfl hl.1 rfl (lv_room (Nat.le_of_ble_eq_true rfl)) dX11_mark_45 ⟨Nat.zero_le _, Nat.zero_le _⟩) hS (fun q _ h => h) (fun q h => h) (fun r u t H1 locs ht hvm hw hB hz1 hk1 hS => ?_)
          obtain ⟨hr9, hu9⟩ : r = (s_X11_meets F M 3).1 ∧ u = (s_X11_meets F M 3).2 := ⟨congrArg Prod.fst hw, congrArg Prod.snd hw⟩
          subst hr9; subst hu9
          obtain ⟨⟨hP, -⟩, hD⟩ := hB
          rw [ht] at hP
          clear hw hz1 hk1 ht hvm; generalize H1 = H at hP hS ⊢
          refine lv_goto (tgt := 71) hx hb dX11_mark_48 (by decide) ?_
          exact W.iret (v := (s_X11_meets F M 3).1) hx hb hr (fun t ht hW => ⟨⟨(s_X11_meets F M 3).1, ((s_X11_meets F M 3).2.1, (s_X11_meets F M 3).2.2), rfl, by unfold s_X11_mark; rw [if_pos c1, if_pos c2, if_neg c3, if_neg c4], ⟨by rw [ht]; exact hP, va_K.moved hW.alike hK⟩, hD⟩, hS.F ht⟩) hS.2.2 dX11_mark_71
      · refine lv_aload_n hx hb dX11_mark_23 rfl (lv_at hl 0 rfl) ?_
        refine va_get (D := (dC, dI)) (ci := 10) (v := .ref (a 10)) (C := RX11) (T := TX11) (N := 49) hx hb hts hin hown hK hP 0 rfl rfl 10 (by decide) (hts (.fieldLink RX11 25 "SocietyBookModel" "claimsOf" "[I") (by decide +kernel)) (fun _ h9 => h9) rfl dX11_mark_24 ?_
        refine lv_iload_n hx hb dX11_mark_27 rfl (lv_at hl 1 rfl) ?_
        refine va_iald (f := M 10) hx hb hK hP 6 0 rfl rfl (ib_cn c1 (iv_7 hI) (by decide)) dX11_mark_28 ?_
        refine vp_callSi (W.runS (As := [.int ((M 10) p0.toNatClampNeg)]) (rest := []) ⟨hx, hb, hml, hown, hts⟩ (c_X11_bitsOf l ((M 10) p0.toNatClampNeg)) (va_cwS 1 hts gX11_mark_X11_bitsOf rfl rfl rfl (by decide +kernel) ⟨Nat.le_of_ble_eq_true rfl, Nat.le_of_ble_eq_true rfl⟩) ⟨fun _ _ _ _ q => q, fun U hU hW => ⟨rfl, trivial⟩⟩ rfl rfl hl.1 rfl (lv_room (Nat.le_of_ble_eq_true rfl)) dX11_mark_29 ⟨Nat.zero_le _, Nat.zero_le _⟩) (fun r hr9 => ?_)
        subst hr9
        exact W.iret (v := s_X11_bitsOf ((M 10) p0.toNatClampNeg)) hx hb hr (fun t ht hW => ⟨⟨s_X11_bitsOf ((M 10) p0.toNatClampNeg), (F, M), rfl, by unfold s_X11_mark; rw [if_pos c1, if_pos c2, if_pos c3], ⟨by rw [ht]; exact hP, va_K.moved hW.alike hK⟩, hD⟩, hS.F ht⟩) hS.2.2 dX11_mark_32
    · replace c2 := bo_f c2
      refine lv_iconst (v := (-1)) hx hb dX11_mark_17 (by decide) ?_
      exact W.iret (v := (-1)) hx hb hr (fun t ht hW => ⟨⟨(-1), (F, M), rfl, by unfold s_X11_mark; rw [if_pos c1, if_neg c2], ⟨by rw [ht]; exact hP, va_K.moved hW.alike hK⟩, hD⟩, hS.F ht⟩) hS.2.2 dX11_mark_18

def s_X11_known (F : Nat → Int32) (M : Nat → Nat → Int32) (p0 : Int32) (p1 : Int32) (p2 : Int32) : Int32 :=
  if 0 ≤ p0 ∧ p0 ≤ ((F 7) - 1) then (if 0 ≤ p1 ∧ p1 ≤ 2 then (if 0 ≤ p2 ∧ p2 ≤ 30000 then s_X11_lastOf F M p0 p1 p2 else
      (-1)) else
    (-1)) else
  (-1)
set_option maxHeartbeats 4000000 in
set_option maxRecDepth 100000 in
theorem c_X11_known (l : Launch) (dC : Nat → ClassId) (dI : Nat → Nat → Nat) (h : Nat) (a : Nat → Nat) (cI cB cZ : ClassId) (F : Nat → Int32) (M : Nat → Nat → Int32) (p0 : Int32) (p1 : Int32) (p2 : Int32) (hI : iv F M) : Met l yX11_known wsX11_known ({ frames := 2, cells := 0, slots := 0, locals := 43 } : Room) (va_Pc [.ref h, .int p0, .int p1, .int p2] (pM dC dI h a cI cB cZ F M)) (vp_Si (fun r => r = s_X11_known F M p0 p1 p2)) 0 0 (fun _ => False) := by
  refine Met.ofW (cc := cX11_known) (maxL := 4) (ret := (some .int)) (by decide) rfl ?_
  intro p e s m args below meth c s₁ B hml hv
  obtain ⟨rfl, hP, hK⟩ := hv
  have hx := B.exec
  have hb := B.bytes
  have hr := B.returns
  have hts := atoms_spec (ws := wsX11_known) B.pre
  have hown : s.vm.findClass RX11 = some m.cls := findClass_of_methodNamed B.named
  have hlocks := B.notSynchronized
  have hl := lv_entry ([.ref h, .int p0, .int p1, .int p2]) (n := 4) (Nat.le_of_ble_eq_true rfl)
  rw [lg_entry_eq]
  generalize (lg_sl ([.ref h, .int p0, .int p1, .int p2]) ++ List.replicate (4 - (lg_sl ([.ref h, .int p0, .int p1, .int p2])).length) Slot.unset).toArray = ls at hl ⊢
  have hl : lv_has ls 4 [(0, .ref h), (1, .int p0), (2, .int p1), (3, .int p2)] := hl
  refine lv_aload_n hx hb dX11_known_0 rfl (lv_at hl 0 rfl) ?_
  refine lv_iload_n hx hb dX11_known_1 rfl (lv_at hl 1 rfl) ?_
  refine vp_callSi (W.runV (As := [.int p0]) (rest := []) ⟨hx, hb, hml, hown, hts⟩ (c_X11_isPaper l dC dI h a cI cB cZ F M p0) (cwV 1 hts gX11_known_X11_isPaper rfl rfl rfl (by decide +kernel) ⟨Nat.le_of_ble_eq_true rfl, Nat.le_of_ble_eq_true rfl⟩) ⟨pm_blind, va_recv hK hP (ci := 10) (q0 := 0) rfl rfl, fun U hU hW => ⟨rfl, by rw [hU]; exact hP, va_K.moved hW.alike hK⟩⟩ rfl rfl hl.1 rfl (lv_room (Nat.le_of_ble_eq_true rfl)) dX11_known_2 ⟨Nat.zero_le _, Nat.zero_le _⟩) (fun r hr9 => ?_)
  subst hr9
  refine lv_if_eq (tgt := 34) hx hb dX11_known_5 (by decide) (fun c1 => ?_) (fun c1 => ?_)
  · replace c1 := bo_f c1
    refine lv_iconst (v := (-1)) hx hb dX11_known_34 (by decide) ?_
    exact W.iret (v := (-1)) hx hb hr (fun t ht hW => ⟨(-1), rfl, by unfold s_X11_known; rw [if_neg c1], ht⟩) (fun _ h => by cases h) dX11_known_35
  · replace c1 := bo_t c1
    refine lv_iload_n hx hb dX11_known_8 rfl (lv_at hl 2 rfl) ?_
    refine lv_iconst (v := 0) hx hb dX11_known_9 (by decide) ?_
    refine lv_iconst (v := 2) hx hb dX11_known_10 (by decide) ?_
    refine vp_callSi (W.runS (As := [.int p1, .int 0, .int 2]) (rest := []) ⟨hx, hb, hml, hown, hts⟩ (c_X11_in l p1 0 2) (va_cwS 3 hts gX11_known_X11_in rfl rfl rfl (by decide +kernel) ⟨Nat.le_of_ble_eq_true rfl, Nat.le_of_ble_eq_true rfl⟩) ⟨fun _ _ _ _ q => q, fun U hU hW => ⟨rfl, trivial⟩⟩ rfl rfl hl.1 rfl (lv_room (Nat.le_of_ble_eq_true rfl)) dX11_known_11 ⟨Nat.zero_le _, Nat.zero_le _⟩) (fun r hr9 => ?_)
    subst hr9
    refine lv_if_eq (tgt := 34) hx hb dX11_known_14 (by decide) (fun c2 => ?_) (fun c2 => ?_)
    · replace c2 := bo_f c2
      refine lv_iconst (v := (-1)) hx hb dX11_known_34 (by decide) ?_
      exact W.iret (v := (-1)) hx hb hr (fun t ht hW => ⟨(-1), rfl, by unfold s_X11_known; rw [if_pos c1, if_neg c2], ht⟩) (fun _ h => by cases h) dX11_known_35
    · replace c2 := bo_t c2
      refine lv_iload_n hx hb dX11_known_17 rfl (lv_at hl 3 rfl) ?_
      refine vp_callSi (W.runS (As := [.int p2]) (rest := []) ⟨hx, hb, hml, hown, hts⟩ (c_X11_isDay l p2) (va_cwS 1 hts gX11_known_X11_isDay rfl rfl rfl (by decide +kernel) ⟨Nat.le_of_ble_eq_true rfl, Nat.le_of_ble_eq_true rfl⟩) ⟨fun _ _ _ _ q => q, fun U hU hW => ⟨rfl, trivial⟩⟩ rfl rfl hl.1 rfl (lv_room (Nat.le_of_ble_eq_true rfl)) dX11_known_18 ⟨Nat.zero_le _, Nat.zero_le _⟩) (fun r hr9 => ?_)
      subst hr9
      refine lv_if_eq (tgt := 34) hx hb dX11_known_21 (by decide) (fun c3 => ?_) (fun c3 => ?_)
      · replace c3 := bo_f c3
        refine lv_iconst (v := (-1)) hx hb dX11_known_34 (by decide) ?_
        exact W.iret (v := (-1)) hx hb hr (fun t ht hW => ⟨(-1), rfl, by unfold s_X11_known; rw [if_pos c1, if_pos c2, if_neg c3], ht⟩) (fun _ h => by cases h) dX11_known_35
      · replace c3 := bo_t c3
        refine lv_aload_n hx hb dX11_known_24 rfl (lv_at hl 0 rfl) ?_
        refine lv_iload_n hx hb dX11_known_25 rfl (lv_at hl 1 rfl) ?_
        refine lv_iload_n hx hb dX11_known_26 rfl (lv_at hl 2 rfl) ?_
        refine lv_iload_n hx hb dX11_known_27 rfl (lv_at hl 3 rfl) ?_
        refine vp_callSi (W.runV (As := [.int p0, .int p1, .int p2]) (rest := []) ⟨hx, hb, hml, hown, hts⟩ (c_X11_lastOf l dC dI h a cI cB cZ F M p0 p1 p2 hI) (cwV 3 hts gX11_known_X11_lastOf rfl rfl rfl (by decide +kernel) ⟨Nat.le_of_ble_eq_true rfl, Nat.le_of_ble_eq_true rfl⟩) ⟨pm_blind, va_recv hK hP (ci := 10) (q0 := 0) rfl rfl, fun U hU hW => ⟨rfl, by rw [hU]; exact hP, va_K.moved hW.alike hK⟩⟩ rfl rfl hl.1 rfl (lv_room (Nat.le_of_ble_eq_true rfl)) dX11_known_28 ⟨Nat.zero_le _, Nat.zero_le _⟩) (fun r hr9 => ?_)
        subst hr9
        refine lv_goto (tgt := 35) hx hb dX11_known_31 (by decide) ?_
        exact W.iret (v := s_X11_lastOf F M p0 p1 p2) hx hb hr (fun t ht hW => ⟨s_X11_lastOf F M p0 p1 p2, rfl, by unfold s_X11_known; rw [if_pos c1, if_pos c2, if_pos c3], ht⟩) (fun _ h => by cases h) dX11_known_35

def s_X11_statute (F : Nat → Int32) (M : Nat → Nat → Int32) (p0 : Int32) (p1 : Int32) (p2 : Int32) : Int32 × ((Nat → Int32) × (Nat → Nat → Int32)) :=
  if 0 ≤ p0 ∧ p0 ≤ 30000 then (if 0 ≤ p1 ∧ p1 ≤ 2 then (if (F 21) = 12 then ((-2), (F, M)) else
      (((F 21) + 1) - 1, (va_up F 21 ((F 21) + 1), va_up (va_up (va_up M 22 (upd (M 22) ((F 21).toNatClampNeg) p0)) 23 (upd (M 23) ((F 21).toNatClampNeg) p1)) 24 (upd (M 24) ((F 21).toNatClampNeg) (vp_nar .boolean p2))))) else
    ((-1), (F, M))) else
  ((-1), (F, M))
set_option maxHeartbeats 4000000 in
set_option maxRecDepth 100000 in
theorem c_X11_statute (l : Launch) (dC : Nat → ClassId) (dI : Nat → Nat → Nat) (h : Nat) (a : Nat → Nat) (cI cB cZ : ClassId) (F : Nat → Int32) (M : Nat → Nat → Int32) (p0 : Int32) (p1 : Int32) (p2 : Int32) (A : Nat → Prop) (hD : va_D A (wM h a cI cB cZ F M)) (hI : iv F M) : Met l yX11_statute wsX11_statute ({ frames := 2, cells := 0, slots := 0, locals := 42 } : Room) (va_Pc [.ref h, .int p0, .int p1, .int p2] (pM dC dI h a cI cB cZ F M)) (va_Qi (fun r u => (r, u) = s_X11_statute F M p0 p1 p2) (qM A dC dI h a cI cB cZ) A) 0 0 A := by
  refine Met.ofW (cc := cX11_statute) (maxL := 4) (ret := (some .int)) (by decide) rfl ?_
  intro p e s m args below meth c s₁ B hml hv
  obtain ⟨rfl, hP, hK⟩ := hv
  have hx := B.exec
  have hb := B.bytes
  have hr := B.returns
  have hts := atoms_spec (ws := wsX11_statute) B.pre
  have hown : s.vm.findClass RX11 = some m.cls := findClass_of_methodNamed B.named
  have hlocks := B.notSynchronized
  have hin : ∀ w ∈ wsX110, w ∈ wsX11_statute := by decide +kernel
  have hS : va_S A s.heap s.heap [] := va_S.rf
  have hl := lv_entry ([.ref h, .int p0, .int p1, .int p2]) (n := 4) (Nat.le_of_ble_eq_true rfl)
  rw [lg_entry_eq]
  generalize (lg_sl ([.ref h, .int p0, .int p1, .int p2]) ++ List.replicate (4 - (lg_sl ([.ref h, .int p0, .int p1, .int p2])).length) Slot.unset).toArray = ls at hl ⊢
  have hl : lv_has ls 4 [(0, .ref h), (1, .int p0), (2, .int p1), (3, .int p2)] := hl
  refine lv_iload_n hx hb dX11_statute_0 rfl (lv_at hl 1 rfl) ?_
  refine vp_callSi (W.runS (As := [.int p0]) (rest := []) ⟨hx, hb, hml, hown, hts⟩ (c_X11_isDay l p0) (va_cwS 1 hts gX11_statute_X11_isDay rfl rfl rfl (by decide +kernel) ⟨Nat.le_of_ble_eq_true rfl, Nat.le_of_ble_eq_true rfl⟩) ⟨fun _ _ _ _ q => q, fun U hU hW => ⟨rfl, trivial⟩⟩ rfl rfl hl.1 rfl (lv_room (Nat.le_of_ble_eq_true rfl)) dX11_statute_1 ⟨Nat.zero_le _, Nat.zero_le _⟩) (fun r hr9 => ?_)
  subst hr9
  refine lv_if_eq (tgt := 16) hx hb dX11_statute_4 (by decide) (fun c1 => ?_) (fun c1 => ?_)
  · replace c1 := bo_f c1
    refine lv_iconst (v := (-1)) hx hb dX11_statute_16 (by decide) ?_
    exact W.iret (v := (-1)) hx hb hr (fun t ht hW => ⟨⟨(-1), (F, M), rfl, by unfold s_X11_statute; rw [if_neg c1], ⟨by rw [ht]; exact hP, va_K.moved hW.alike hK⟩, hD⟩, hS.F ht⟩) hS.2.2 dX11_statute_17
  · replace c1 := bo_t c1
    refine lv_iload_n hx hb dX11_statute_7 rfl (lv_at hl 2 rfl) ?_
    refine lv_iconst (v := 0) hx hb dX11_statute_8 (by decide) ?_
    refine lv_iconst (v := 2) hx hb dX11_statute_9 (by decide) ?_
    refine vp_callSi (W.runS (As := [.int p1, .int 0, .int 2]) (rest := []) ⟨hx, hb, hml, hown, hts⟩ (c_X11_in l p1 0 2) (va_cwS 3 hts gX11_statute_X11_in rfl rfl rfl (by decide +kernel) ⟨Nat.le_of_ble_eq_true rfl, Nat.le_of_ble_eq_true rfl⟩) ⟨fun _ _ _ _ q => q, fun U hU hW => ⟨rfl, trivial⟩⟩ rfl rfl hl.1 rfl (lv_room (Nat.le_of_ble_eq_true rfl)) dX11_statute_10 ⟨Nat.zero_le _, Nat.zero_le _⟩) (fun r hr9 => ?_)
    subst hr9
    refine lv_if_ne (tgt := 18) hx hb dX11_statute_13 (by decide) (fun c2 => ?_) (fun c2 => ?_)
    · replace c2 := bo_t c2
      refine lv_aload_n hx hb dX11_statute_18 rfl (lv_at hl 0 rfl) ?_
      refine va_get (D := (dC, dI)) (ci := 10) (v := .int (F 21)) (C := RX11) (T := TX11) (N := 49) hx hb hts hin hown hK hP 0 rfl rfl 21 (by decide) (hts (.fieldLink RX11 181 "SocietyBookModel" "statutes" "I") (by decide +kernel)) (fun _ h9 => h9) rfl dX11_statute_19 ?_
      refine lv_bipush (v := 12) hx hb dX11_statute_22 (by decide) ?_
      refine lv_icmp_ne (tgt := 30) hx hb dX11_statute_24 (by decide) (fun c3 => ?_) (fun c3 => ?_)
      · refine lv_aload_n hx hb dX11_statute_30 rfl (lv_at hl 0 rfl) ?_
        refine va_get (D := (dC, dI)) (ci := 10) (v := .ref (a 22)) (C := RX11) (T := TX11) (N := 49) hx hb hts hin hown hK hP 0 rfl rfl 22 (by decide) (hts (.fieldLink RX11 55 "SocietyBookModel" "statuteDay" "[I") (by decide +kernel)) (fun _ h9 => h9) rfl dX11_statute_31 ?_
        refine lv_aload_n hx hb dX11_statute_34 rfl (lv_at hl 0 rfl) ?_
        refine va_get (D := (dC, dI)) (ci := 10) (v := .int (F 21)) (C := RX11) (T := TX11) (N := 49) hx hb hts hin hown hK hP 0 rfl rfl 21 (by decide) (hts (.fieldLink RX11 181 "SocietyBookModel" "statutes" "I") (by decide +kernel)) (fun _ h9 => h9) rfl dX11_statute_35 ?_
        refine lv_iload_n hx hb dX11_statute_38 rfl (lv_at hl 1 rfl) ?_
        refine va_iast (f := M 22) hx hb hK hP hD hS 16 0 rfl rfl (ib_ct (iv_21 hI) c3 (by decide)) dX11_statute_39 (fun H locs hP hD hS => ?_)
        replace hP : va_P (dC, dI) vwCl (wM h a cI cB cZ F (va_up M 22 (upd (M 22) ((F 21).toNatClampNeg) p0))) H := hP
        replace hD : va_D A (wM h a cI cB cZ F (va_up M 22 (upd (M 22) ((F 21).toNatClampNeg) p0))) := hD
        refine lv_aload_n hx hb dX11_statute_40 rfl (lv_at hl 0 rfl) ?_
        refine va_get (D := (dC, dI)) (ci := 10) (v := .ref (a 23)) (C := RX11) (T := TX11) (N := 49) hx hb hts hin hown hK hP 0 rfl rfl 23 (by decide) (hts (.fieldLink RX11 58 "SocietyBookModel" "statuteWhat" "[I") (by decide +kernel)) (fun _ h9 => h9) rfl dX11_statute_41 ?_
        refine lv_aload_n hx hb dX11_statute_44 rfl (lv_at hl 0 rfl) ?_
        refine va_get (D := (dC, dI)) (ci := 10) (v := .int (F 21)) (C := RX11) (T := TX11) (N := 49) hx hb hts hin hown hK hP 0 rfl rfl 21 (by decide) (hts (.fieldLink RX11 181 "SocietyBookModel" "statutes" "I") (by decide +kernel)) (fun _ h9 => h9) rfl dX11_statute_45 ?_
        refine lv_iload_n hx hb dX11_statute_48 rfl (lv_at hl 2 rfl) ?_
        refine va_iast (f := M 23) hx hb hK hP hD hS 17 0 rfl rfl (ib_ct (iv_21 hI) c3 (by decide)) dX11_statute_49 (fun H locs hP hD hS => ?_)
        replace hP : va_P (dC, dI) vwCl (wM h a cI cB cZ F (va_up (va_up M 22 (upd (M 22) ((F 21).toNatClampNeg) p0)) 23 (upd (M 23) ((F 21).toNatClampNeg) p1))) H := hP
        replace hD : va_D A (wM h a cI cB cZ F (va_up (va_up M 22 (upd (M 22) ((F 21).toNatClampNeg) p0)) 23 (upd (M 23) ((F 21).toNatClampNeg) p1))) := hD
        refine lv_aload_n hx hb dX11_statute_50 rfl (lv_at hl 0 rfl) ?_
        refine va_get (D := (dC, dI)) (ci := 10) (v := .ref (a 24)) (C := RX11) (T := TX11) (N := 49) hx hb hts hin hown hK hP 0 rfl rfl 24 (by decide) (hts (.fieldLink RX11 61 "SocietyBookModel" "statuteSealed" "[Z") (by decide +kernel)) (fun _ h9 => h9) rfl dX11_statute_51 ?_
        refine lv_aload_n hx hb dX11_statute_54 rfl (lv_at hl 0 rfl) ?_
        refine va_get (D := (dC, dI)) (ci := 10) (v := .int (F 21)) (C := RX11) (T := TX11) (N := 49) hx hb hts hin hown hK hP 0 rfl rfl 21 (by decide) (hts (.fieldLink RX11 181 "SocietyBookModel" "statutes" "I") (by decide +kernel)) (fun _ h9 => h9) rfl dX11_statute_55 ?_
        refine lv_iload_n hx hb dX11_statute_58 rfl (lv_at hl 3 rfl) ?_
        refine va_zast (f := M 24) hx hb hK hP hD hS 18 2 rfl rfl (ib_ct (iv_21 hI) c3 (by decide)) dX11_statute_59 (fun H locs hP hD hS => ?_)
        replace hP : va_P (dC, dI) vwCl (wM h a cI cB cZ F (va_up (va_up (va_up M 22 (upd (M 22) ((F 21).toNatClampNeg) p0)) 23 (upd (M 23) ((F 21).toNatClampNeg) p1)) 24 (upd (M 24) ((F 21).toNatClampNeg) (vp_nar .boolean p2)))) H := hP
        replace hD : va_D A (wM h a cI cB cZ F (va_up (va_up (va_up M 22 (upd (M 22) ((F 21).toNatClampNeg) p0)) 23 (upd (M 23) ((F 21).toNatClampNeg) p1)) 24 (upd (M 24) ((F 21).toNatClampNeg) (vp_nar .boolean p2)))) := hD
        refine lv_aload_n hx hb dX11_statute_60 rfl (lv_at hl 0 rfl) ?_
        refine lv_dup hx hb dX11_statute_61 rfl ?_
        refine va_get (D := (dC, dI)) (ci := 10) (v := .int (F 21)) (C := RX11) (T := TX11) (N := 49) hx hb hts hin hown hK hP 0 rfl rfl 21 (by decide) (hts (.fieldLink RX11 181 "SocietyBookModel" "statutes" "I") (by decide +kernel)) (fun _ h9 => h9) rfl dX11_statute_62 ?_
        refine lv_iconst (v := 1) hx hb dX11_statute_65 (by decide) ?_
        refine lv_iadd hx hb dX11_statute_66 ?_
        refine va_put (D := (dC, dI)) (ci := 10) (v := .int ((F 21) + 1)) (ty := .int) (C := RX11) (T := TX11) (N := 49) hx hb hts hin tyX11 tyX11_ok nmX11 hown hK hP hD hS 0 rfl rfl 21 (by decide) (hts (.fieldLink RX11 181 "SocietyBookModel" "statutes" "I") (by decide +kernel)) (fun _ h9 => h9) rfl (by decide +kernel) rfl rfl (Nat.le_of_ble_eq_true rfl) dX11_statute_67 (fun H locs hP hD hS => ?_)
        replace hP : va_P (dC, dI) vwCl (wM h a cI cB cZ (va_up F 21 ((F 21) + 1)) (va_up (va_up (va_up M 22 (upd (M 22) ((F 21).toNatClampNeg) p0)) 23 (upd (M 23) ((F 21).toNatClampNeg) p1)) 24 (upd (M 24) ((F 21).toNatClampNeg) (vp_nar .boolean p2)))) H := hP
        replace hD : va_D A (wM h a cI cB cZ (va_up F 21 ((F 21) + 1)) (va_up (va_up (va_up M 22 (upd (M 22) ((F 21).toNatClampNeg) p0)) 23 (upd (M 23) ((F 21).toNatClampNeg) p1)) 24 (upd (M 24) ((F 21).toNatClampNeg) (vp_nar .boolean p2)))) := hD
        refine lv_aload_n hx hb dX11_statute_70 rfl (lv_at hl 0 rfl) ?_
        refine va_get (D := (dC, dI)) (ci := 10) (v := .int ((F 21) + 1)) (C := RX11) (T := TX11) (N := 49) hx hb hts hin hown hK hP 0 rfl rfl 21 (by decide) (hts (.fieldLink RX11 181 "SocietyBookModel" "statutes" "I") (by decide +kernel)) (fun _ h9 => h9) rfl dX11_statute_71 ?_
        refine lv_iconst (v := 1) hx hb dX11_statute_74 (by decide) ?_
        refine lv_isub hx hb dX11_statute_75 ?_
        exact W.iret (v := ((F 21) + 1) - 1) hx hb hr (fun t ht hW => ⟨⟨((F 21) + 1) - 1, (va_up F 21 ((F 21) + 1), va_up (va_up (va_up M 22 (upd (M 22) ((F 21).toNatClampNeg) p0)) 23 (upd (M 23) ((F 21).toNatClampNeg) p1)) 24 (upd (M 24) ((F 21).toNatClampNeg) (vp_nar .boolean p2))), rfl, by unfold s_X11_statute; rw [if_pos c1, if_pos c2, if_neg c3], ⟨by rw [ht]; exact hP, va_K.moved hW.alike hK⟩, hD⟩, hS.F ht⟩) hS.2.2 dX11_statute_76
      · refine lv_bipush (v := (-2)) hx hb dX11_statute_27 (by decide) ?_
        exact W.iret (v := (-2)) hx hb hr (fun t ht hW => ⟨⟨(-2), (F, M), rfl, by unfold s_X11_statute; rw [if_pos c1, if_pos c2, if_pos c3], ⟨by rw [ht]; exact hP, va_K.moved hW.alike hK⟩, hD⟩, hS.F ht⟩) hS.2.2 dX11_statute_29
    · replace c2 := bo_f c2
      refine lv_iconst (v := (-1)) hx hb dX11_statute_16 (by decide) ?_
      exact W.iret (v := (-1)) hx hb hr (fun t ht hW => ⟨⟨(-1), (F, M), rfl, by unfold s_X11_statute; rw [if_pos c1, if_neg c2], ⟨by rw [ht]; exact hP, va_K.moved hW.alike hK⟩, hD⟩, hS.F ht⟩) hS.2.2 dX11_statute_17

def L_inForce22 (F : Nat → Int32) (M : Nat → Nat → Int32) (p0 : Int32) (p1 : Int32) : Nat → Int32
  | 0 => (-9)
  | i1 + 1 =>
    if p1 < ((M 22) i1) then (L_inForce22 F M p0 p1 i1) else
    if (L_inForce22 F M p0 p1 i1) = (-9) then nI i1 else
    if ((M 22) i1) < ((M 22) ((L_inForce22 F M p0 p1 i1).toNatClampNeg)) then (L_inForce22 F M p0 p1 i1) else
    nI i1
theorem l_inForce22 (F : Nat → Int32) (M : Nat → Nat → Int32) (p0 p1 : Int32) : ∀ n, n < 100 → L_inForce22 F M p0 p1 n = -9 ∨ ∃ j, j < n ∧ L_inForce22 F M p0 p1 n = nI j := by
  intro n
  induction n with
  | zero => intro _; exact Or.inl rfl
  | succ n ih =>
    intro h
    have ih := ih (by omega)
    have key : L_inForce22 F M p0 p1 n = -9 ∨ ∃ j, j < n + 1 ∧ L_inForce22 F M p0 p1 n = nI j := ih.imp id (fun ⟨j, h1, h2⟩ => ⟨j, by omega, h2⟩)
    rw [L_inForce22]
    repeat' split
    all_goals first | exact key | exact Or.inr ⟨n, by omega, rfl⟩

def s_X11_inForce22 (F : Nat → Int32) (M : Nat → Nat → Int32) (p0 : Int32) (p1 : Int32) : Int32 :=
  (L_inForce22 F M p0 p1 p0.toNatClampNeg)
set_option maxHeartbeats 4000000 in
set_option maxRecDepth 100000 in
theorem c_X11_inForce22 (l : Launch) (dC : Nat → ClassId) (dI : Nat → Nat → Nat) (h : Nat) (a : Nat → Nat) (cI cB cZ : ClassId) (F : Nat → Int32) (M : Nat → Nat → Int32) (p0 : Int32) (p1 : Int32) (hn : 0 ≤ p0 ∧ p0 ≤ 12) : Met l yX11_inForce wsX11_inForce ({ frames := 0, cells := 0, slots := 0, locals := 0 } : Room) (va_Pc [.ref (a 22), .int p0, .int p1] (pM dC dI h a cI cB cZ F M)) (vp_Si (fun r => r = s_X11_inForce22 F M p0 p1)) 0 0 (fun _ => False) := by
  refine Met.ofW (cc := cX11_inForce) (maxL := 5) (ret := (some .int)) (by decide) rfl ?_
  intro p e s m args below meth c s₁ B hml hv
  obtain ⟨rfl, hP, hK⟩ := hv
  have hx := B.exec
  have hb := B.bytes
  have hr := B.returns
  have hts := atoms_spec (ws := wsX11_inForce) B.pre
  have hown : s.vm.findClass RX11 = some m.cls := findClass_of_methodNamed B.named
  have hlocks := B.notSynchronized
  have hl := lv_entry ([.ref (a 22), .int p0, .int p1]) (n := 5) (Nat.le_of_ble_eq_true rfl)
  rw [lg_entry_eq]
  generalize (lg_sl ([.ref (a 22), .int p0, .int p1]) ++ List.replicate (5 - (lg_sl ([.ref (a 22), .int p0, .int p1])).length) Slot.unset).toArray = ls at hl ⊢
  have hl : lv_has ls 5 [(0, .ref (a 22)), (1, .int p0), (2, .int p1)] := hl
  have hn0 : p0.toNatClampNeg ≤ 12 := lb_le hn (by decide)
  refine lv_bipush (v := (-9)) hx hb dX11_inForce_0 (by decide) ?_
  refine lv_istore_n (lv' := [(3, .int (-9)), (0, .ref (a 22)), (1, .int p0), (2, .int p1)]) hx hb dX11_inForce_2 rfl hl (by decide) rfl (fun ls hl => ?_)
  refine lv_iconst (v := 0) hx hb dX11_inForce_3 (by decide) ?_
  refine lv_istore (lv' := [(4, .int 0), (3, .int (-9)), (0, .ref (a 22)), (1, .int p0), (2, .int p1)]) hx hb dX11_inForce_4 hl (by decide) rfl (fun ls hl => ?_)
  refine lp_for (N := p0.toNatClampNeg) (lv := fun i1 => [(4, .int (nI i1)), (3, .int (L_inForce22 F M p0 p1 i1)), (0, .ref (a 22)), (1, .int p0), (2, .int p1)]) (lv_sub hl [0, 1, 2, 3, 4] rfl) (fun i1 hi1 ls hl kk1 => ?_) (fun ls hl => ?_)
  · replace hl : lv_has ls 5 [(4, .int (nI i1)), (3, .int (L_inForce22 F M p0 p1 i1)), (0, .ref (a 22)), (1, .int p0), (2, .int p1)] := hl
    refine lv_iload hx hb dX11_inForce_6 (lv_at hl 0 rfl) ?_
    refine lv_iload_n hx hb dX11_inForce_8 rfl (lv_at hl 3 rfl) ?_
    refine lv_icmp_ge (tgt := 49) hx hb dX11_inForce_9 (by decide) (fun c => absurd c (lb_n (lb_c hn.1) hi1)) (fun _ => ?_)
    refine lv_aload_n hx hb dX11_inForce_12 rfl (lv_at hl 2 rfl) ?_
    refine lv_iload hx hb dX11_inForce_13 (lv_at hl 0 rfl) ?_
    refine va_iald (f := M 22) hx hb hK hP 16 0 rfl rfl (vp_in_nI (show i1 < 12 by omega) (by decide)) dX11_inForce_15 ?_
    rw [nI_clamp (show i1 < 2 ^ 31 by omega)]
    refine lv_iload_n hx hb dX11_inForce_16 rfl (lv_at hl 4 rfl) ?_
    refine lv_icmp_gt (tgt := 41) hx hb dX11_inForce_17 (by decide) (fun c1 => ?_) (fun c1 => ?_)
    · refine lv_iload_n hx hb dX11_inForce_41 rfl (lv_at hl 1 rfl) ?_
      refine lv_istore_n (lv' := [(3, .int (L_inForce22 F M p0 p1 i1)), (4, .int (nI i1)), (0, .ref (a 22)), (1, .int p0), (2, .int p1)]) hx hb dX11_inForce_42 rfl hl (by decide) rfl (fun ls hl => ?_)
      refine lv_iinc (v := nI (i1 + 1)) (lv' := [(4, .int (nI (i1 + 1))), (3, .int (L_inForce22 F M p0 p1 i1)), (0, .ref (a 22)), (1, .int p0), (2, .int p1)]) hx hb dX11_inForce_43 hl (k := 1) rfl (nI_1 i1) (by decide) rfl (fun ls hl => ?_)
      refine lv_goto (tgt := 6) hx hb dX11_inForce_46 (by decide) ?_
      have e9 : L_inForce22 F M p0 p1 (i1 + 1) = (L_inForce22 F M p0 p1 i1) := by rw [L_inForce22]; rw [if_pos c1]
      refine kk1 ls (show lv_has ls 5 [(4, .int (nI (i1 + 1))), (3, .int (L_inForce22 F M p0 p1 (i1 + 1))), (0, .ref (a 22)), (1, .int p0), (2, .int p1)] from ?_)
      rw [e9]; exact lv_sub hl [0, 1, 2, 3, 4] rfl
    · refine lv_iload_n hx hb dX11_inForce_20 rfl (lv_at hl 1 rfl) ?_
      refine lv_bipush (v := (-9)) hx hb dX11_inForce_21 (by decide) ?_
      refine lv_icmp_eq (tgt := 36) hx hb dX11_inForce_23 (by decide) (fun c2 => ?_) (fun c2 => ?_)
      · refine lv_iload hx hb dX11_inForce_36 (lv_at hl 0 rfl) ?_
        refine lv_goto (tgt := 42) hx hb dX11_inForce_38 (by decide) ?_
        refine lv_istore_n (lv' := [(3, .int (nI i1)), (4, .int (nI i1)), (0, .ref (a 22)), (1, .int p0), (2, .int p1)]) hx hb dX11_inForce_42 rfl hl (by decide) rfl (fun ls hl => ?_)
        refine lv_iinc (v := nI (i1 + 1)) (lv' := [(4, .int (nI (i1 + 1))), (3, .int (nI i1)), (0, .ref (a 22)), (1, .int p0), (2, .int p1)]) hx hb dX11_inForce_43 hl (k := 1) rfl (nI_1 i1) (by decide) rfl (fun ls hl => ?_)
        refine lv_goto (tgt := 6) hx hb dX11_inForce_46 (by decide) ?_
        have e9 : L_inForce22 F M p0 p1 (i1 + 1) = nI i1 := by rw [L_inForce22]; rw [if_neg c1, if_pos c2]
        refine kk1 ls (show lv_has ls 5 [(4, .int (nI (i1 + 1))), (3, .int (L_inForce22 F M p0 p1 (i1 + 1))), (0, .ref (a 22)), (1, .int p0), (2, .int p1)] from ?_)
        rw [e9]; exact lv_sub hl [0, 1, 2, 3, 4] rfl
      · refine lv_aload_n hx hb dX11_inForce_26 rfl (lv_at hl 2 rfl) ?_
        refine lv_iload hx hb dX11_inForce_27 (lv_at hl 0 rfl) ?_
        refine va_iald (f := M 22) hx hb hK hP 16 0 rfl rfl (vp_in_nI (show i1 < 12 by omega) (by decide)) dX11_inForce_29 ?_
        rw [nI_clamp (show i1 < 2 ^ 31 by omega)]
        refine lv_aload_n hx hb dX11_inForce_30 rfl (lv_at hl 2 rfl) ?_
        refine lv_iload_n hx hb dX11_inForce_31 rfl (lv_at hl 1 rfl) ?_
        refine va_iald (f := M 22) hx hb hK hP 16 0 rfl rfl (ib_inF (l_inForce22 F M p0 p1 i1 (by omega)) c2 ⟨by omega, by decide⟩) dX11_inForce_32 ?_
        refine lv_icmp_lt (tgt := 41) hx hb dX11_inForce_33 (by decide) (fun c3 => ?_) (fun c3 => ?_)
        · refine lv_iload_n hx hb dX11_inForce_41 rfl (lv_at hl 1 rfl) ?_
          refine lv_istore_n (lv' := [(3, .int (L_inForce22 F M p0 p1 i1)), (4, .int (nI i1)), (0, .ref (a 22)), (1, .int p0), (2, .int p1)]) hx hb dX11_inForce_42 rfl hl (by decide) rfl (fun ls hl => ?_)
          refine lv_iinc (v := nI (i1 + 1)) (lv' := [(4, .int (nI (i1 + 1))), (3, .int (L_inForce22 F M p0 p1 i1)), (0, .ref (a 22)), (1, .int p0), (2, .int p1)]) hx hb dX11_inForce_43 hl (k := 1) rfl (nI_1 i1) (by decide) rfl (fun ls hl => ?_)
          refine lv_goto (tgt := 6) hx hb dX11_inForce_46 (by decide) ?_
          have e9 : L_inForce22 F M p0 p1 (i1 + 1) = (L_inForce22 F M p0 p1 i1) := by rw [L_inForce22]; rw [if_neg c1, if_neg c2, if_pos c3]
          refine kk1 ls (show lv_has ls 5 [(4, .int (nI (i1 + 1))), (3, .int (L_inForce22 F M p0 p1 (i1 + 1))), (0, .ref (a 22)), (1, .int p0), (2, .int p1)] from ?_)
          rw [e9]; exact lv_sub hl [0, 1, 2, 3, 4] rfl
        · refine lv_iload hx hb dX11_inForce_36 (lv_at hl 0 rfl) ?_
          refine lv_goto (tgt := 42) hx hb dX11_inForce_38 (by decide) ?_
          refine lv_istore_n (lv' := [(3, .int (nI i1)), (4, .int (nI i1)), (0, .ref (a 22)), (1, .int p0), (2, .int p1)]) hx hb dX11_inForce_42 rfl hl (by decide) rfl (fun ls hl => ?_)
          refine lv_iinc (v := nI (i1 + 1)) (lv' := [(4, .int (nI (i1 + 1))), (3, .int (nI i1)), (0, .ref (a 22)), (1, .int p0), (2, .int p1)]) hx hb dX11_inForce_43 hl (k := 1) rfl (nI_1 i1) (by decide) rfl (fun ls hl => ?_)
          refine lv_goto (tgt := 6) hx hb dX11_inForce_46 (by decide) ?_
          have e9 : L_inForce22 F M p0 p1 (i1 + 1) = nI i1 := by rw [L_inForce22]; rw [if_neg c1, if_neg c2, if_neg c3]
          refine kk1 ls (show lv_has ls 5 [(4, .int (nI (i1 + 1))), (3, .int (L_inForce22 F M p0 p1 (i1 + 1))), (0, .ref (a 22)), (1, .int p0), (2, .int p1)] from ?_)
          rw [e9]; exact lv_sub hl [0, 1, 2, 3, 4] rfl
  · replace hl : lv_has ls 5 [(4, .int (nI p0.toNatClampNeg)), (3, .int (L_inForce22 F M p0 p1 p0.toNatClampNeg)), (0, .ref (a 22)), (1, .int p0), (2, .int p1)] := hl
    refine lv_iload hx hb dX11_inForce_6 (lv_at hl 0 rfl) ?_
    refine lv_iload_n hx hb dX11_inForce_8 rfl (lv_at hl 3 rfl) ?_
    refine lv_icmp_ge (tgt := 49) hx hb dX11_inForce_9 (by decide) (fun _ => ?_) (fun c => absurd (lb_y (lb_c hn.1)) c)
    refine lv_iload_n hx hb dX11_inForce_49 rfl (lv_at hl 1 rfl) ?_
    exact W.iret (v := (L_inForce22 F M p0 p1 p0.toNatClampNeg)) hx hb hr (fun t ht hW => ⟨(L_inForce22 F M p0 p1 p0.toNatClampNeg), rfl, by unfold s_X11_inForce22; rfl, ht⟩) (fun _ h => by cases h) dX11_inForce_50

def L_inForce26 (F : Nat → Int32) (M : Nat → Nat → Int32) (p0 : Int32) (p1 : Int32) : Nat → Int32
  | 0 => (-9)
  | i1 + 1 =>
    if p1 < ((M 26) i1) then (L_inForce26 F M p0 p1 i1) else
    if (L_inForce26 F M p0 p1 i1) = (-9) then nI i1 else
    if ((M 26) i1) < ((M 26) ((L_inForce26 F M p0 p1 i1).toNatClampNeg)) then (L_inForce26 F M p0 p1 i1) else
    nI i1
theorem l_inForce26 (F : Nat → Int32) (M : Nat → Nat → Int32) (p0 p1 : Int32) : ∀ n, n < 100 → L_inForce26 F M p0 p1 n = -9 ∨ ∃ j, j < n ∧ L_inForce26 F M p0 p1 n = nI j := by
  intro n
  induction n with
  | zero => intro _; exact Or.inl rfl
  | succ n ih =>
    intro h
    have ih := ih (by omega)
    have key : L_inForce26 F M p0 p1 n = -9 ∨ ∃ j, j < n + 1 ∧ L_inForce26 F M p0 p1 n = nI j := ih.imp id (fun ⟨j, h1, h2⟩ => ⟨j, by omega, h2⟩)
    rw [L_inForce26]
    repeat' split
    all_goals first | exact key | exact Or.inr ⟨n, by omega, rfl⟩

def s_X11_inForce26 (F : Nat → Int32) (M : Nat → Nat → Int32) (p0 : Int32) (p1 : Int32) : Int32 :=
  (L_inForce26 F M p0 p1 p0.toNatClampNeg)
set_option maxHeartbeats 4000000 in
set_option maxRecDepth 100000 in
theorem c_X11_inForce26 (l : Launch) (dC : Nat → ClassId) (dI : Nat → Nat → Nat) (h : Nat) (a : Nat → Nat) (cI cB cZ : ClassId) (F : Nat → Int32) (M : Nat → Nat → Int32) (p0 : Int32) (p1 : Int32) (hn : 0 ≤ p0 ∧ p0 ≤ 12) : Met l yX11_inForce wsX11_inForce ({ frames := 0, cells := 0, slots := 0, locals := 0 } : Room) (va_Pc [.ref (a 26), .int p0, .int p1] (pM dC dI h a cI cB cZ F M)) (vp_Si (fun r => r = s_X11_inForce26 F M p0 p1)) 0 0 (fun _ => False) := by
  refine Met.ofW (cc := cX11_inForce) (maxL := 5) (ret := (some .int)) (by decide) rfl ?_
  intro p e s m args below meth c s₁ B hml hv
  obtain ⟨rfl, hP, hK⟩ := hv
  have hx := B.exec
  have hb := B.bytes
  have hr := B.returns
  have hts := atoms_spec (ws := wsX11_inForce) B.pre
  have hown : s.vm.findClass RX11 = some m.cls := findClass_of_methodNamed B.named
  have hlocks := B.notSynchronized
  have hl := lv_entry ([.ref (a 26), .int p0, .int p1]) (n := 5) (Nat.le_of_ble_eq_true rfl)
  rw [lg_entry_eq]
  generalize (lg_sl ([.ref (a 26), .int p0, .int p1]) ++ List.replicate (5 - (lg_sl ([.ref (a 26), .int p0, .int p1])).length) Slot.unset).toArray = ls at hl ⊢
  have hl : lv_has ls 5 [(0, .ref (a 26)), (1, .int p0), (2, .int p1)] := hl
  have hn0 : p0.toNatClampNeg ≤ 12 := lb_le hn (by decide)
  refine lv_bipush (v := (-9)) hx hb dX11_inForce_0 (by decide) ?_
  refine lv_istore_n (lv' := [(3, .int (-9)), (0, .ref (a 26)), (1, .int p0), (2, .int p1)]) hx hb dX11_inForce_2 rfl hl (by decide) rfl (fun ls hl => ?_)
  refine lv_iconst (v := 0) hx hb dX11_inForce_3 (by decide) ?_
  refine lv_istore (lv' := [(4, .int 0), (3, .int (-9)), (0, .ref (a 26)), (1, .int p0), (2, .int p1)]) hx hb dX11_inForce_4 hl (by decide) rfl (fun ls hl => ?_)
  refine lp_for (N := p0.toNatClampNeg) (lv := fun i1 => [(4, .int (nI i1)), (3, .int (L_inForce26 F M p0 p1 i1)), (0, .ref (a 26)), (1, .int p0), (2, .int p1)]) (lv_sub hl [0, 1, 2, 3, 4] rfl) (fun i1 hi1 ls hl kk1 => ?_) (fun ls hl => ?_)
  · replace hl : lv_has ls 5 [(4, .int (nI i1)), (3, .int (L_inForce26 F M p0 p1 i1)), (0, .ref (a 26)), (1, .int p0), (2, .int p1)] := hl
    refine lv_iload hx hb dX11_inForce_6 (lv_at hl 0 rfl) ?_
    refine lv_iload_n hx hb dX11_inForce_8 rfl (lv_at hl 3 rfl) ?_
    refine lv_icmp_ge (tgt := 49) hx hb dX11_inForce_9 (by decide) (fun c => absurd c (lb_n (lb_c hn.1) hi1)) (fun _ => ?_)
    refine lv_aload_n hx hb dX11_inForce_12 rfl (lv_at hl 2 rfl) ?_
    refine lv_iload hx hb dX11_inForce_13 (lv_at hl 0 rfl) ?_
    refine va_iald (f := M 26) hx hb hK hP 19 0 rfl rfl (vp_in_nI (show i1 < 12 by omega) (by decide)) dX11_inForce_15 ?_
    rw [nI_clamp (show i1 < 2 ^ 31 by omega)]
    refine lv_iload_n hx hb dX11_inForce_16 rfl (lv_at hl 4 rfl) ?_
    refine lv_icmp_gt (tgt := 41) hx hb dX11_inForce_17 (by decide) (fun c1 => ?_) (fun c1 => ?_)
    · refine lv_iload_n hx hb dX11_inForce_41 rfl (lv_at hl 1 rfl) ?_
      refine lv_istore_n (lv' := [(3, .int (L_inForce26 F M p0 p1 i1)), (4, .int (nI i1)), (0, .ref (a 26)), (1, .int p0), (2, .int p1)]) hx hb dX11_inForce_42 rfl hl (by decide) rfl (fun ls hl => ?_)
      refine lv_iinc (v := nI (i1 + 1)) (lv' := [(4, .int (nI (i1 + 1))), (3, .int (L_inForce26 F M p0 p1 i1)), (0, .ref (a 26)), (1, .int p0), (2, .int p1)]) hx hb dX11_inForce_43 hl (k := 1) rfl (nI_1 i1) (by decide) rfl (fun ls hl => ?_)
      refine lv_goto (tgt := 6) hx hb dX11_inForce_46 (by decide) ?_
      have e9 : L_inForce26 F M p0 p1 (i1 + 1) = (L_inForce26 F M p0 p1 i1) := by rw [L_inForce26]; rw [if_pos c1]
      refine kk1 ls (show lv_has ls 5 [(4, .int (nI (i1 + 1))), (3, .int (L_inForce26 F M p0 p1 (i1 + 1))), (0, .ref (a 26)), (1, .int p0), (2, .int p1)] from ?_)
      rw [e9]; exact lv_sub hl [0, 1, 2, 3, 4] rfl
    · refine lv_iload_n hx hb dX11_inForce_20 rfl (lv_at hl 1 rfl) ?_
      refine lv_bipush (v := (-9)) hx hb dX11_inForce_21 (by decide) ?_
      refine lv_icmp_eq (tgt := 36) hx hb dX11_inForce_23 (by decide) (fun c2 => ?_) (fun c2 => ?_)
      · refine lv_iload hx hb dX11_inForce_36 (lv_at hl 0 rfl) ?_
        refine lv_goto (tgt := 42) hx hb dX11_inForce_38 (by decide) ?_
        refine lv_istore_n (lv' := [(3, .int (nI i1)), (4, .int (nI i1)), (0, .ref (a 26)), (1, .int p0), (2, .int p1)]) hx hb dX11_inForce_42 rfl hl (by decide) rfl (fun ls hl => ?_)
        refine lv_iinc (v := nI (i1 + 1)) (lv' := [(4, .int (nI (i1 + 1))), (3, .int (nI i1)), (0, .ref (a 26)), (1, .int p0), (2, .int p1)]) hx hb dX11_inForce_43 hl (k := 1) rfl (nI_1 i1) (by decide) rfl (fun ls hl => ?_)
        refine lv_goto (tgt := 6) hx hb dX11_inForce_46 (by decide) ?_
        have e9 : L_inForce26 F M p0 p1 (i1 + 1) = nI i1 := by rw [L_inForce26]; rw [if_neg c1, if_pos c2]
        refine kk1 ls (show lv_has ls 5 [(4, .int (nI (i1 + 1))), (3, .int (L_inForce26 F M p0 p1 (i1 + 1))), (0, .ref (a 26)), (1, .int p0), (2, .int p1)] from ?_)
        rw [e9]; exact lv_sub hl [0, 1, 2, 3, 4] rfl
      · refine lv_aload_n hx hb dX11_inForce_26 rfl (lv_at hl 2 rfl) ?_
        refine lv_iload hx hb dX11_inForce_27 (lv_at hl 0 rfl) ?_
        refine va_iald (f := M 26) hx hb hK hP 19 0 rfl rfl (vp_in_nI (show i1 < 12 by omega) (by decide)) dX11_inForce_29 ?_
        rw [nI_clamp (show i1 < 2 ^ 31 by omega)]
        refine lv_aload_n hx hb dX11_inForce_30 rfl (lv_at hl 2 rfl) ?_
        refine lv_iload_n hx hb dX11_inForce_31 rfl (lv_at hl 1 rfl) ?_
        refine va_iald (f := M 26) hx hb hK hP 19 0 rfl rfl (ib_inF (l_inForce26 F M p0 p1 i1 (by omega)) c2 ⟨by omega, by decide⟩) dX11_inForce_32 ?_
        refine lv_icmp_lt (tgt := 41) hx hb dX11_inForce_33 (by decide) (fun c3 => ?_) (fun c3 => ?_)
        · refine lv_iload_n hx hb dX11_inForce_41 rfl (lv_at hl 1 rfl) ?_
          refine lv_istore_n (lv' := [(3, .int (L_inForce26 F M p0 p1 i1)), (4, .int (nI i1)), (0, .ref (a 26)), (1, .int p0), (2, .int p1)]) hx hb dX11_inForce_42 rfl hl (by decide) rfl (fun ls hl => ?_)
          refine lv_iinc (v := nI (i1 + 1)) (lv' := [(4, .int (nI (i1 + 1))), (3, .int (L_inForce26 F M p0 p1 i1)), (0, .ref (a 26)), (1, .int p0), (2, .int p1)]) hx hb dX11_inForce_43 hl (k := 1) rfl (nI_1 i1) (by decide) rfl (fun ls hl => ?_)
          refine lv_goto (tgt := 6) hx hb dX11_inForce_46 (by decide) ?_
          have e9 : L_inForce26 F M p0 p1 (i1 + 1) = (L_inForce26 F M p0 p1 i1) := by rw [L_inForce26]; rw [if_neg c1, if_neg c2, if_pos c3]
          refine kk1 ls (show lv_has ls 5 [(4, .int (nI (i1 + 1))), (3, .int (L_inForce26 F M p0 p1 (i1 + 1))), (0, .ref (a 26)), (1, .int p0), (2, .int p1)] from ?_)
          rw [e9]; exact lv_sub hl [0, 1, 2, 3, 4] rfl
        · refine lv_iload hx hb dX11_inForce_36 (lv_at hl 0 rfl) ?_
          refine lv_goto (tgt := 42) hx hb dX11_inForce_38 (by decide) ?_
          refine lv_istore_n (lv' := [(3, .int (nI i1)), (4, .int (nI i1)), (0, .ref (a 26)), (1, .int p0), (2, .int p1)]) hx hb dX11_inForce_42 rfl hl (by decide) rfl (fun ls hl => ?_)
          refine lv_iinc (v := nI (i1 + 1)) (lv' := [(4, .int (nI (i1 + 1))), (3, .int (nI i1)), (0, .ref (a 26)), (1, .int p0), (2, .int p1)]) hx hb dX11_inForce_43 hl (k := 1) rfl (nI_1 i1) (by decide) rfl (fun ls hl => ?_)
          refine lv_goto (tgt := 6) hx hb dX11_inForce_46 (by decide) ?_
          have e9 : L_inForce26 F M p0 p1 (i1 + 1) = nI i1 := by rw [L_inForce26]; rw [if_neg c1, if_neg c2, if_neg c3]
          refine kk1 ls (show lv_has ls 5 [(4, .int (nI (i1 + 1))), (3, .int (L_inForce26 F M p0 p1 (i1 + 1))), (0, .ref (a 26)), (1, .int p0), (2, .int p1)] from ?_)
          rw [e9]; exact lv_sub hl [0, 1, 2, 3, 4] rfl
  · replace hl : lv_has ls 5 [(4, .int (nI p0.toNatClampNeg)), (3, .int (L_inForce26 F M p0 p1 p0.toNatClampNeg)), (0, .ref (a 26)), (1, .int p0), (2, .int p1)] := hl
    refine lv_iload hx hb dX11_inForce_6 (lv_at hl 0 rfl) ?_
    refine lv_iload_n hx hb dX11_inForce_8 rfl (lv_at hl 3 rfl) ?_
    refine lv_icmp_ge (tgt := 49) hx hb dX11_inForce_9 (by decide) (fun _ => ?_) (fun c => absurd (lb_y (lb_c hn.1)) c)
    refine lv_iload_n hx hb dX11_inForce_49 rfl (lv_at hl 1 rfl) ?_
    exact W.iret (v := (L_inForce26 F M p0 p1 p0.toNatClampNeg)) hx hb hr (fun t ht hW => ⟨(L_inForce26 F M p0 p1 p0.toNatClampNeg), rfl, by unfold s_X11_inForce26; rfl, ht⟩) (fun _ h => by cases h) dX11_inForce_50

def s_X11_force (F : Nat → Int32) (M : Nat → Nat → Int32) (p0 : Int32) : Int32 :=
  if 0 ≤ p0 ∧ p0 ≤ 30000 then s_X11_inForce22 F M (F 21) p0 else
  (-1)
set_option maxHeartbeats 4000000 in
set_option maxRecDepth 100000 in
theorem c_X11_force (l : Launch) (dC : Nat → ClassId) (dI : Nat → Nat → Nat) (h : Nat) (a : Nat → Nat) (cI cB cZ : ClassId) (F : Nat → Int32) (M : Nat → Nat → Int32) (p0 : Int32) (hI : iv F M) : Met l yX11_force wsX11_force ({ frames := 2, cells := 0, slots := 0, locals := 42 } : Room) (va_Pc [.ref h, .int p0] (pM dC dI h a cI cB cZ F M)) (vp_Si (fun r => r = s_X11_force F M p0)) 0 0 (fun _ => False) := by
  refine Met.ofW (cc := cX11_force) (maxL := 2) (ret := (some .int)) (by decide) rfl ?_
  intro p e s m args below meth c s₁ B hml hv
  obtain ⟨rfl, hP, hK⟩ := hv
  have hx := B.exec
  have hb := B.bytes
  have hr := B.returns
  have hts := atoms_spec (ws := wsX11_force) B.pre
  have hown : s.vm.findClass RX11 = some m.cls := findClass_of_methodNamed B.named
  have hlocks := B.notSynchronized
  have hin : ∀ w ∈ wsX110, w ∈ wsX11_force := by decide +kernel
  have hl := lv_entry ([.ref h, .int p0]) (n := 2) (Nat.le_of_ble_eq_true rfl)
  rw [lg_entry_eq]
  generalize (lg_sl ([.ref h, .int p0]) ++ List.replicate (2 - (lg_sl ([.ref h, .int p0])).length) Slot.unset).toArray = ls at hl ⊢
  have hl : lv_has ls 2 [(0, .ref h), (1, .int p0)] := hl
  refine lv_iload_n hx hb dX11_force_0 rfl (lv_at hl 1 rfl) ?_
  refine vp_callSi (W.runS (As := [.int p0]) (rest := []) ⟨hx, hb, hml, hown, hts⟩ (c_X11_isDay l p0) (va_cwS 1 hts gX11_force_X11_isDay rfl rfl rfl (by decide +kernel) ⟨Nat.le_of_ble_eq_true rfl, Nat.le_of_ble_eq_true rfl⟩) ⟨fun _ _ _ _ q => q, fun U hU hW => ⟨rfl, trivial⟩⟩ rfl rfl hl.1 rfl (lv_room (Nat.le_of_ble_eq_true rfl)) dX11_force_1 ⟨Nat.zero_le _, Nat.zero_le _⟩) (fun r hr9 => ?_)
  subst hr9
  refine lv_if_eq (tgt := 22) hx hb dX11_force_4 (by decide) (fun c1 => ?_) (fun c1 => ?_)
  · replace c1 := bo_f c1
    refine lv_iconst (v := (-1)) hx hb dX11_force_22 (by decide) ?_
    exact W.iret (v := (-1)) hx hb hr (fun t ht hW => ⟨(-1), rfl, by unfold s_X11_force; rw [if_neg c1], ht⟩) (fun _ h => by cases h) dX11_force_23
  · replace c1 := bo_t c1
    refine lv_aload_n hx hb dX11_force_7 rfl (lv_at hl 0 rfl) ?_
    refine va_get (D := (dC, dI)) (ci := 10) (v := .ref (a 22)) (C := RX11) (T := TX11) (N := 49) hx hb hts hin hown hK hP 0 rfl rfl 22 (by decide) (hts (.fieldLink RX11 55 "SocietyBookModel" "statuteDay" "[I") (by decide +kernel)) (fun _ h9 => h9) rfl dX11_force_8 ?_
    refine lv_aload_n hx hb dX11_force_11 rfl (lv_at hl 0 rfl) ?_
    refine va_get (D := (dC, dI)) (ci := 10) (v := .int (F 21)) (C := RX11) (T := TX11) (N := 49) hx hb hts hin hown hK hP 0 rfl rfl 21 (by decide) (hts (.fieldLink RX11 181 "SocietyBookModel" "statutes" "I") (by decide +kernel)) (fun _ h9 => h9) rfl dX11_force_12 ?_
    refine lv_iload_n hx hb dX11_force_15 rfl (lv_at hl 1 rfl) ?_
    refine vp_callSi (W.runS (As := [.ref (a 22), .int (F 21), .int p0]) (rest := []) ⟨hx, hb, hml, hown, hts⟩ (c_X11_inForce22 l dC dI h a cI cB cZ F M (F 21) p0 (iv_21 hI)) (va_cwS 3 hts gX11_force_X11_inForce rfl rfl rfl (by decide +kernel) ⟨Nat.le_of_ble_eq_true rfl, Nat.le_of_ble_eq_true rfl⟩) ⟨pm_blind, fun U hU hW => ⟨rfl, by rw [hU]; exact hP, va_K.moved hW.alike hK⟩⟩ rfl rfl hl.1 rfl (lv_room (Nat.le_of_ble_eq_true rfl)) dX11_force_16 ⟨Nat.zero_le _, Nat.zero_le _⟩) (fun r hr9 => ?_)
    subst hr9
    refine lv_goto (tgt := 23) hx hb dX11_force_19 (by decide) ?_
    exact W.iret (v := s_X11_inForce22 F M (F 21) p0) hx hb hr (fun t ht hW => ⟨s_X11_inForce22 F M (F 21) p0, rfl, by unfold s_X11_force; rw [if_pos c1], ht⟩) (fun _ h => by cases h) dX11_force_23
