def L_hadSoon (F : Nat → Int32) (M : Nat → Nat → Int32) (p0 : Int32) (p1 : Int32) : Nat → Int32
  | 0 => 0
  | i1 + 1 =>
    if (L_hadSoon F M p0 p1 i1) = 0 then (if ((M 39) i1) = p0 then (if ((M 40) i1) = p1 then (if ((M 36) p0.toNatClampNeg) ≤ ((F 3) - ((M 41) i1)) then 0 else
          1) else
        0) else
      0) else
    1
theorem n_hadSoon (F : Nat → Int32) (M : Nat → Nat → Int32) (p0 p1 : Int32) : ∀ n, L_hadSoon F M p0 p1 n = 0 ∨ L_hadSoon F M p0 p1 n = 1 := by
  intro n
  cases n with
  | zero => exact Or.inl rfl
  | succ n =>
    rw [L_hadSoon]
    repeat' split
    all_goals first | exact Or.inl rfl | exact Or.inr rfl

def s_X11_hadSoon (F : Nat → Int32) (M : Nat → Nat → Int32) (p0 : Int32) (p1 : Int32) : Int32 :=
  (L_hadSoon F M p0 p1 (F 38).toNatClampNeg)
set_option maxHeartbeats 4000000 in
set_option maxRecDepth 100000 in
theorem c_X11_hadSoon (l : Launch) (dC : Nat → ClassId) (dI : Nat → Nat → Nat) (h : Nat) (a : Nat → Nat) (cI cB cZ : ClassId) (F : Nat → Int32) (M : Nat → Nat → Int32) (p0 : Int32) (p1 : Int32) (hI : iv F M) (hm : vp_in p0 4) : Met l yX11_hadSoon wsX11_hadSoon ({ frames := 0, cells := 0, slots := 0, locals := 0 } : Room) (va_Pc [.ref h, .int p0, .int p1] (pM dC dI h a cI cB cZ F M)) (vp_Si (fun r => r = s_X11_hadSoon F M p0 p1)) 0 0 (fun _ => False) := by
  refine Met.ofW (cc := cX11_hadSoon) (maxL := 5) (ret := (some .boolean)) (by decide) rfl ?_
  intro p e s m args below meth c s₁ B hml hv
  obtain ⟨rfl, hP, hK⟩ := hv
  have hx := B.exec
  have hb := B.bytes
  have hr := B.returns
  have hts := atoms_spec (ws := wsX11_hadSoon) B.pre
  have hown : s.vm.findClass RX11 = some m.cls := findClass_of_methodNamed B.named
  have hlocks := B.notSynchronized
  have hin : ∀ w ∈ wsX110, w ∈ wsX11_hadSoon := by decide +kernel
  have hl := lv_entry ([.ref h, .int p0, .int p1]) (n := 5) (Nat.le_of_ble_eq_true rfl)
  rw [lg_entry_eq]
  generalize (lg_sl ([.ref h, .int p0, .int p1]) ++ List.replicate (5 - (lg_sl ([.ref h, .int p0, .int p1])).length) Slot.unset).toArray = ls at hl ⊢
  have hl : lv_has ls 5 [(0, .ref h), (1, .int p0), (2, .int p1)] := hl
  have hn38 : (F 38).toNatClampNeg ≤ 60 := lb_le (iv_38 hI) (by decide)
  refine lv_iconst (v := 0) hx hb dX11_hadSoon_0 (by decide) ?_
  refine lv_istore_n (lv' := [(3, .int 0), (0, .ref h), (1, .int p0), (2, .int p1)]) hx hb dX11_hadSoon_1 rfl hl (by decide) rfl (fun ls hl => ?_)
  refine lv_iconst (v := 0) hx hb dX11_hadSoon_2 (by decide) ?_
  refine lv_istore (lv' := [(4, .int 0), (3, .int 0), (0, .ref h), (1, .int p0), (2, .int p1)]) hx hb dX11_hadSoon_3 hl (by decide) rfl (fun ls hl => ?_)
  refine lp_for (N := (F 38).toNatClampNeg) (lv := fun i1 => [(4, .int (nI i1)), (3, .int (L_hadSoon F M p0 p1 i1)), (0, .ref h), (1, .int p0), (2, .int p1)]) (lv_sub hl [0, 1, 2, 3, 4] rfl) (fun i1 hi1 ls hl kk1 => ?_) (fun ls hl => ?_)
  · replace hl : lv_has ls 5 [(4, .int (nI i1)), (3, .int (L_hadSoon F M p0 p1 i1)), (0, .ref h), (1, .int p0), (2, .int p1)] := hl
    refine lv_iload hx hb dX11_hadSoon_5 (lv_at hl 0 rfl) ?_
    refine lv_aload_n hx hb dX11_hadSoon_7 rfl (lv_at hl 2 rfl) ?_
    refine va_get (D := (dC, dI)) (ci := 10) (v := .int (F 38)) (C := RX11) (T := TX11) (N := 49) hx hb hts hin hown hK hP 0 rfl rfl 38 (by decide) (hts (.fieldLink RX11 210 "SocietyBookModel" "awards" "I") (by decide +kernel)) (fun _ h9 => h9) rfl dX11_hadSoon_8 ?_
    refine lv_icmp_ge (tgt := 73) hx hb dX11_hadSoon_11 (by decide) (fun c => absurd c (lb_nc hi1)) (fun _ => ?_)
    refine lv_iload_n hx hb dX11_hadSoon_14 rfl (lv_at hl 1 rfl) ?_
    refine lv_if_ne (tgt := 61) hx hb dX11_hadSoon_15 (by decide) (fun c1 => ?_) (fun c1 => ?_)
    · refine lv_iconst (v := 1) hx hb dX11_hadSoon_61 (by decide) ?_
      refine lv_goto (tgt := 66) hx hb dX11_hadSoon_62 (by decide) ?_
      refine lv_istore_n (lv' := [(3, .int 1), (4, .int (nI i1)), (0, .ref h), (1, .int p0), (2, .int p1)]) hx hb dX11_hadSoon_66 rfl hl (by decide) rfl (fun ls hl => ?_)
      refine lv_iinc (v := nI (i1 + 1)) (lv' := [(4, .int (nI (i1 + 1))), (3, .int 1), (0, .ref h), (1, .int p0), (2, .int p1)]) hx hb dX11_hadSoon_67 hl (k := 1) rfl (nI_1 i1) (by decide) rfl (fun ls hl => ?_)
      refine lv_goto (tgt := 5) hx hb dX11_hadSoon_70 (by decide) ?_
      have e9 : L_hadSoon F M p0 p1 (i1 + 1) = 1 := by rw [L_hadSoon]; rw [if_neg c1]
      refine kk1 ls (show lv_has ls 5 [(4, .int (nI (i1 + 1))), (3, .int (L_hadSoon F M p0 p1 (i1 + 1))), (0, .ref h), (1, .int p0), (2, .int p1)] from ?_)
      rw [e9]; exact lv_sub hl [0, 1, 2, 3, 4] rfl
    · refine lv_aload_n hx hb dX11_hadSoon_18 rfl (lv_at hl 2 rfl) ?_
      refine va_get (D := (dC, dI)) (ci := 10) (v := .ref (a 39)) (C := RX11) (T := TX11) (N := 49) hx hb hts hin hown hK hP 0 rfl rfl 39 (by decide) (hts (.fieldLink RX11 98 "SocietyBookModel" "awardMedal" "[I") (by decide +kernel)) (fun _ h9 => h9) rfl dX11_hadSoon_19 ?_
      refine lv_iload hx hb dX11_hadSoon_22 (lv_at hl 0 rfl) ?_
      refine va_iald (f := M 39) hx hb hK hP 30 0 rfl rfl (vp_in_nI (show i1 < 60 by omega) (by decide)) dX11_hadSoon_24 ?_
      rw [nI_clamp (show i1 < 2 ^ 31 by omega)]
      refine lv_iload_n hx hb dX11_hadSoon_25 rfl (lv_at hl 3 rfl) ?_
      refine lv_icmp_ne (tgt := 65) hx hb dX11_hadSoon_26 (by decide) (fun c2 => ?_) (fun c2 => ?_)
      · refine lv_iconst (v := 0) hx hb dX11_hadSoon_65 (by decide) ?_
        refine lv_istore_n (lv' := [(3, .int 0), (4, .int (nI i1)), (0, .ref h), (1, .int p0), (2, .int p1)]) hx hb dX11_hadSoon_66 rfl hl (by decide) rfl (fun ls hl => ?_)
        refine lv_iinc (v := nI (i1 + 1)) (lv' := [(4, .int (nI (i1 + 1))), (3, .int 0), (0, .ref h), (1, .int p0), (2, .int p1)]) hx hb dX11_hadSoon_67 hl (k := 1) rfl (nI_1 i1) (by decide) rfl (fun ls hl => ?_)
        refine lv_goto (tgt := 5) hx hb dX11_hadSoon_70 (by decide) ?_
        have e9 : L_hadSoon F M p0 p1 (i1 + 1) = 0 := by rw [L_hadSoon]; rw [if_pos c1, if_neg c2]
        refine kk1 ls (show lv_has ls 5 [(4, .int (nI (i1 + 1))), (3, .int (L_hadSoon F M p0 p1 (i1 + 1))), (0, .ref h), (1, .int p0), (2, .int p1)] from ?_)
        rw [e9]; exact lv_sub hl [0, 1, 2, 3, 4] rfl
      · refine lv_aload_n hx hb dX11_hadSoon_29 rfl (lv_at hl 2 rfl) ?_
        refine va_get (D := (dC, dI)) (ci := 10) (v := .ref (a 40)) (C := RX11) (T := TX11) (N := 49) hx hb hts hin hown hK hP 0 rfl rfl 40 (by decide) (hts (.fieldLink RX11 101 "SocietyBookModel" "awardFellow" "[I") (by decide +kernel)) (fun _ h9 => h9) rfl dX11_hadSoon_30 ?_
        refine lv_iload hx hb dX11_hadSoon_33 (lv_at hl 0 rfl) ?_
        refine va_iald (f := M 40) hx hb hK hP 31 0 rfl rfl (vp_in_nI (show i1 < 60 by omega) (by decide)) dX11_hadSoon_35 ?_
        rw [nI_clamp (show i1 < 2 ^ 31 by omega)]
        refine lv_iload_n hx hb dX11_hadSoon_36 rfl (lv_at hl 4 rfl) ?_
        refine lv_icmp_ne (tgt := 65) hx hb dX11_hadSoon_37 (by decide) (fun c3 => ?_) (fun c3 => ?_)
        · refine lv_iconst (v := 0) hx hb dX11_hadSoon_65 (by decide) ?_
          refine lv_istore_n (lv' := [(3, .int 0), (4, .int (nI i1)), (0, .ref h), (1, .int p0), (2, .int p1)]) hx hb dX11_hadSoon_66 rfl hl (by decide) rfl (fun ls hl => ?_)
          refine lv_iinc (v := nI (i1 + 1)) (lv' := [(4, .int (nI (i1 + 1))), (3, .int 0), (0, .ref h), (1, .int p0), (2, .int p1)]) hx hb dX11_hadSoon_67 hl (k := 1) rfl (nI_1 i1) (by decide) rfl (fun ls hl => ?_)
          refine lv_goto (tgt := 5) hx hb dX11_hadSoon_70 (by decide) ?_
          have e9 : L_hadSoon F M p0 p1 (i1 + 1) = 0 := by rw [L_hadSoon]; rw [if_pos c1, if_pos c2, if_neg c3]
          refine kk1 ls (show lv_has ls 5 [(4, .int (nI (i1 + 1))), (3, .int (L_hadSoon F M p0 p1 (i1 + 1))), (0, .ref h), (1, .int p0), (2, .int p1)] from ?_)
          rw [e9]; exact lv_sub hl [0, 1, 2, 3, 4] rfl
        · refine lv_aload_n hx hb dX11_hadSoon_40 rfl (lv_at hl 2 rfl) ?_
          refine va_get (D := (dC, dI)) (ci := 10) (v := .int (F 3)) (C := RX11) (T := TX11) (N := 49) hx hb hts hin hown hK hP 0 rfl rfl 3 (by decide) (hts (.fieldLink RX11 140 "SocietyBookModel" "today" "I") (by decide +kernel)) (fun _ h9 => h9) rfl dX11_hadSoon_41 ?_
          refine lv_aload_n hx hb dX11_hadSoon_44 rfl (lv_at hl 2 rfl) ?_
          refine va_get (D := (dC, dI)) (ci := 10) (v := .ref (a 41)) (C := RX11) (T := TX11) (N := 49) hx hb hts hin hown hK hP 0 rfl rfl 41 (by decide) (hts (.fieldLink RX11 104 "SocietyBookModel" "awardDay" "[I") (by decide +kernel)) (fun _ h9 => h9) rfl dX11_hadSoon_45 ?_
          refine lv_iload hx hb dX11_hadSoon_48 (lv_at hl 0 rfl) ?_
          refine va_iald (f := M 41) hx hb hK hP 32 0 rfl rfl (vp_in_nI (show i1 < 60 by omega) (by decide)) dX11_hadSoon_50 ?_
          rw [nI_clamp (show i1 < 2 ^ 31 by omega)]
          refine lv_isub hx hb dX11_hadSoon_51 ?_
          refine lv_aload_n hx hb dX11_hadSoon_52 rfl (lv_at hl 2 rfl) ?_
          refine va_get (D := (dC, dI)) (ci := 10) (v := .ref (a 36)) (C := RX11) (T := TX11) (N := 49) hx hb hts hin hown hK hP 0 rfl rfl 36 (by decide) (hts (.fieldLink RX11 92 "SocietyBookModel" "gap" "[I") (by decide +kernel)) (fun _ h9 => h9) rfl dX11_hadSoon_53 ?_
          refine lv_iload_n hx hb dX11_hadSoon_56 rfl (lv_at hl 3 rfl) ?_
          refine va_iald (f := M 36) hx hb hK hP 28 0 rfl rfl hm dX11_hadSoon_57 ?_
          refine lv_icmp_ge (tgt := 65) hx hb dX11_hadSoon_58 (by decide) (fun c4 => ?_) (fun c4 => ?_)
          · refine lv_iconst (v := 0) hx hb dX11_hadSoon_65 (by decide) ?_
            refine lv_istore_n (lv' := [(3, .int 0), (4, .int (nI i1)), (0, .ref h), (1, .int p0), (2, .int p1)]) hx hb dX11_hadSoon_66 rfl hl (by decide) rfl (fun ls hl => ?_)
            refine lv_iinc (v := nI (i1 + 1)) (lv' := [(4, .int (nI (i1 + 1))), (3, .int 0), (0, .ref h), (1, .int p0), (2, .int p1)]) hx hb dX11_hadSoon_67 hl (k := 1) rfl (nI_1 i1) (by decide) rfl (fun ls hl => ?_)
            refine lv_goto (tgt := 5) hx hb dX11_hadSoon_70 (by decide) ?_
            have e9 : L_hadSoon F M p0 p1 (i1 + 1) = 0 := by rw [L_hadSoon]; rw [if_pos c1, if_pos c2, if_pos c3, if_pos c4]
            refine kk1 ls (show lv_has ls 5 [(4, .int (nI (i1 + 1))), (3, .int (L_hadSoon F M p0 p1 (i1 + 1))), (0, .ref h), (1, .int p0), (2, .int p1)] from ?_)
            rw [e9]; exact lv_sub hl [0, 1, 2, 3, 4] rfl
          · refine lv_iconst (v := 1) hx hb dX11_hadSoon_61 (by decide) ?_
            refine lv_goto (tgt := 66) hx hb dX11_hadSoon_62 (by decide) ?_
            refine lv_istore_n (lv' := [(3, .int 1), (4, .int (nI i1)), (0, .ref h), (1, .int p0), (2, .int p1)]) hx hb dX11_hadSoon_66 rfl hl (by decide) rfl (fun ls hl => ?_)
            refine lv_iinc (v := nI (i1 + 1)) (lv' := [(4, .int (nI (i1 + 1))), (3, .int 1), (0, .ref h), (1, .int p0), (2, .int p1)]) hx hb dX11_hadSoon_67 hl (k := 1) rfl (nI_1 i1) (by decide) rfl (fun ls hl => ?_)
            refine lv_goto (tgt := 5) hx hb dX11_hadSoon_70 (by decide) ?_
            have e9 : L_hadSoon F M p0 p1 (i1 + 1) = 1 := by rw [L_hadSoon]; rw [if_pos c1, if_pos c2, if_pos c3, if_neg c4]
            refine kk1 ls (show lv_has ls 5 [(4, .int (nI (i1 + 1))), (3, .int (L_hadSoon F M p0 p1 (i1 + 1))), (0, .ref h), (1, .int p0), (2, .int p1)] from ?_)
            rw [e9]; exact lv_sub hl [0, 1, 2, 3, 4] rfl
  · replace hl : lv_has ls 5 [(4, .int (nI (F 38).toNatClampNeg)), (3, .int (L_hadSoon F M p0 p1 (F 38).toNatClampNeg)), (0, .ref h), (1, .int p0), (2, .int p1)] := hl
    refine lv_iload hx hb dX11_hadSoon_5 (lv_at hl 0 rfl) ?_
    refine lv_aload_n hx hb dX11_hadSoon_7 rfl (lv_at hl 2 rfl) ?_
    refine va_get (D := (dC, dI)) (ci := 10) (v := .int (F 38)) (C := RX11) (T := TX11) (N := 49) hx hb hts hin hown hK hP 0 rfl rfl 38 (by decide) (hts (.fieldLink RX11 210 "SocietyBookModel" "awards" "I") (by decide +kernel)) (fun _ h9 => h9) rfl dX11_hadSoon_8 ?_
    refine lv_icmp_ge (tgt := 73) hx hb dX11_hadSoon_11 (by decide) (fun _ => ?_) (fun c => absurd lb_yc c)
    refine lv_iload_n hx hb dX11_hadSoon_73 rfl (lv_at hl 1 rfl) ?_
    exact W.zret (v := (L_hadSoon F M p0 p1 (F 38).toNatClampNeg)) hx hb hr (nar01 (n_hadSoon F M p0 p1 _)) (fun t ht hW => ⟨(L_hadSoon F M p0 p1 (F 38).toNatClampNeg), rfl, by unfold s_X11_hadSoon; rfl, ht⟩) (fun _ h => by cases h) dX11_hadSoon_74

def L_hasPrinted (F : Nat → Int32) (M : Nat → Nat → Int32) (p0 : Int32) (p1 : Int32) : Nat → Int32
  | 0 => 0
  | i1 + 1 =>
    if ((M 9) i1) = p1 then (if (L_hasPrinted F M p0 p1 i1) = 0 then (if (s_X11_lastOf F M (nI i1) 2 30000) = (-9) then 0 else
        if ((M 37) p0.toNatClampNeg) < ((F 3) - (s_X11_lastOf F M (nI i1) 2 30000)) then 0 else
        1) else
      1) else
    if (L_hasPrinted F M p0 p1 i1) = 0 then 0 else
    1
theorem n_hasPrinted (F : Nat → Int32) (M : Nat → Nat → Int32) (p0 p1 : Int32) : ∀ n, L_hasPrinted F M p0 p1 n = 0 ∨ L_hasPrinted F M p0 p1 n = 1 := by
  intro n
  cases n with
  | zero => exact Or.inl rfl
  | succ n =>
    rw [L_hasPrinted]
    repeat' split
    all_goals first | exact Or.inl rfl | exact Or.inr rfl

def s_X11_hasPrinted (F : Nat → Int32) (M : Nat → Nat → Int32) (p0 : Int32) (p1 : Int32) : Int32 :=
  (L_hasPrinted F M p0 p1 (F 7).toNatClampNeg)
set_option maxHeartbeats 4000000 in
set_option maxRecDepth 100000 in
theorem c_X11_hasPrinted (l : Launch) (dC : Nat → ClassId) (dI : Nat → Nat → Nat) (h : Nat) (a : Nat → Nat) (cI cB cZ : ClassId) (F : Nat → Int32) (M : Nat → Nat → Int32) (p0 : Int32) (p1 : Int32) (hI : iv F M) (hm : vp_in p0 4) : Met l yX11_hasPrinted wsX11_hasPrinted ({ frames := 1, cells := 0, slots := 0, locals := 25 } : Room) (va_Pc [.ref h, .int p0, .int p1] (pM dC dI h a cI cB cZ F M)) (vp_Si (fun r => r = s_X11_hasPrinted F M p0 p1)) 0 0 (fun _ => False) := by
  refine Met.ofW (cc := cX11_hasPrinted) (maxL := 6) (ret := (some .boolean)) (by decide) rfl ?_
  intro p e s m args below meth c s₁ B hml hv
  obtain ⟨rfl, hP, hK⟩ := hv
  have hx := B.exec
  have hb := B.bytes
  have hr := B.returns
  have hts := atoms_spec (ws := wsX11_hasPrinted) B.pre
  have hown : s.vm.findClass RX11 = some m.cls := findClass_of_methodNamed B.named
  have hlocks := B.notSynchronized
  have hin : ∀ w ∈ wsX110, w ∈ wsX11_hasPrinted := by decide +kernel
  have hl := lv_entry ([.ref h, .int p0, .int p1]) (n := 6) (Nat.le_of_ble_eq_true rfl)
  rw [lg_entry_eq]
  generalize (lg_sl ([.ref h, .int p0, .int p1]) ++ List.replicate (6 - (lg_sl ([.ref h, .int p0, .int p1])).length) Slot.unset).toArray = ls at hl ⊢
  have hl : lv_has ls 6 [(0, .ref h), (1, .int p0), (2, .int p1)] := hl
  have hn7 : (F 7).toNatClampNeg ≤ 24 := lb_le (iv_7 hI) (by decide)
  refine lv_iconst (v := 0) hx hb dX11_hasPrinted_0 (by decide) ?_
  refine lv_istore_n (lv' := [(3, .int 0), (0, .ref h), (1, .int p0), (2, .int p1)]) hx hb dX11_hasPrinted_1 rfl hl (by decide) rfl (fun ls hl => ?_)
  refine lv_iconst (v := 0) hx hb dX11_hasPrinted_2 (by decide) ?_
  refine lv_istore (lv' := [(4, .int 0), (3, .int 0), (0, .ref h), (1, .int p0), (2, .int p1)]) hx hb dX11_hasPrinted_3 hl (by decide) rfl (fun ls hl => ?_)
  refine lp_for (N := (F 7).toNatClampNeg) (lv := fun i1 => [(4, .int (nI i1)), (3, .int (L_hasPrinted F M p0 p1 i1)), (0, .ref h), (1, .int p0), (2, .int p1)]) (lv_sub hl [0, 1, 2, 3, 4] rfl) (fun i1 hi1 ls hl kk1 => ?_) (fun ls hl => ?_)
  · replace hl : lv_has ls 6 [(4, .int (nI i1)), (3, .int (L_hasPrinted F M p0 p1 i1)), (0, .ref h), (1, .int p0), (2, .int p1)] := hl
    refine lv_iload hx hb dX11_hasPrinted_5 (lv_at hl 0 rfl) ?_
    refine lv_aload_n hx hb dX11_hasPrinted_7 rfl (lv_at hl 2 rfl) ?_
    refine va_get (D := (dC, dI)) (ci := 10) (v := .int (F 7)) (C := RX11) (T := TX11) (N := 49) hx hb hts hin hown hK hP 0 rfl rfl 7 (by decide) (hts (.fieldLink RX11 146 "SocietyBookModel" "papers" "I") (by decide +kernel)) (fun _ h9 => h9) rfl dX11_hasPrinted_8 ?_
    refine lv_icmp_ge (tgt := 81) hx hb dX11_hasPrinted_11 (by decide) (fun c => absurd c (lb_nc hi1)) (fun _ => ?_)
    refine lv_aload_n hx hb dX11_hasPrinted_14 rfl (lv_at hl 2 rfl) ?_
    refine va_get (D := (dC, dI)) (ci := 10) (v := .ref (a 9)) (C := RX11) (T := TX11) (N := 49) hx hb hts hin hown hK hP 0 rfl rfl 9 (by decide) (hts (.fieldLink RX11 22 "SocietyBookModel" "authorOf" "[I") (by decide +kernel)) (fun _ h9 => h9) rfl dX11_hasPrinted_15 ?_
    refine lv_iload hx hb dX11_hasPrinted_18 (lv_at hl 0 rfl) ?_
    refine va_iald (f := M 9) hx hb hK hP 5 0 rfl rfl (vp_in_nI (show i1 < 24 by omega) (by decide)) dX11_hasPrinted_20 ?_
    rw [nI_clamp (show i1 < 2 ^ 31 by omega)]
    refine lv_iload_n hx hb dX11_hasPrinted_21 rfl (lv_at hl 4 rfl) ?_
    refine lv_icmp_ne (tgt := 38) hx hb dX11_hasPrinted_22 (by decide) (fun c1 => ?_) (fun c1 => ?_)
    · refine lv_bipush (v := (-9)) hx hb dX11_hasPrinted_38 (by decide) ?_
      refine lv_istore (lv' := [(5, .int (-9)), (4, .int (nI i1)), (3, .int (L_hasPrinted F M p0 p1 i1)), (0, .ref h), (1, .int p0), (2, .int p1)]) hx hb dX11_hasPrinted_40 hl (by decide) rfl (fun ls hl => ?_)
      refine lv_iload_n hx hb dX11_hasPrinted_42 rfl (lv_at hl 2 rfl) ?_
      refine lv_if_ne (tgt := 69) hx hb dX11_hasPrinted_43 (by decide) (fun c2 => ?_) (fun c2 => ?_)
      · refine lv_iconst (v := 1) hx hb dX11_hasPrinted_69 (by decide) ?_
        refine lv_goto (tgt := 74) hx hb dX11_hasPrinted_70 (by decide) ?_
        refine lv_istore_n (lv' := [(3, .int 1), (5, .int (-9)), (4, .int (nI i1)), (0, .ref h), (1, .int p0), (2, .int p1)]) hx hb dX11_hasPrinted_74 rfl hl (by decide) rfl (fun ls hl => ?_)
        refine lv_iinc (v := nI (i1 + 1)) (lv' := [(4, .int (nI (i1 + 1))), (3, .int 1), (5, .int (-9)), (0, .ref h), (1, .int p0), (2, .int p1)]) hx hb dX11_hasPrinted_75 hl (k := 2) rfl (nI_1 i1) (by decide) rfl (fun ls hl => ?_)
        refine lv_goto (tgt := 5) hx hb dX11_hasPrinted_78 (by decide) ?_
        have e9 : L_hasPrinted F M p0 p1 (i1 + 1) = 1 := by rw [L_hasPrinted]; rw [if_neg c1, if_neg c2]
        refine kk1 ls (show lv_has ls 6 [(4, .int (nI (i1 + 1))), (3, .int (L_hasPrinted F M p0 p1 (i1 + 1))), (0, .ref h), (1, .int p0), (2, .int p1)] from ?_)
        rw [e9]; exact lv_sub hl [0, 1, 3, 4, 5] rfl
      · refine lv_iload hx hb dX11_hasPrinted_46 (lv_at hl 0 rfl) ?_
        refine lv_bipush (v := (-9)) hx hb dX11_hasPrinted_48 (by decide) ?_
        refine lv_icmp_eq (tgt := 73) hx hb dX11_hasPrinted_50 (by decide) (fun _ => ?_) (fun c => absurd c (by decide))
        refine lv_iconst (v := 0) hx hb dX11_hasPrinted_73 (by decide) ?_
        refine lv_istore_n (lv' := [(3, .int 0), (5, .int (-9)), (4, .int (nI i1)), (0, .ref h), (1, .int p0), (2, .int p1)]) hx hb dX11_hasPrinted_74 rfl hl (by decide) rfl (fun ls hl => ?_)
        refine lv_iinc (v := nI (i1 + 1)) (lv' := [(4, .int (nI (i1 + 1))), (3, .int 0), (5, .int (-9)), (0, .ref h), (1, .int p0), (2, .int p1)]) hx hb dX11_hasPrinted_75 hl (k := 2) rfl (nI_1 i1) (by decide) rfl (fun ls hl => ?_)
        refine lv_goto (tgt := 5) hx hb dX11_hasPrinted_78 (by decide) ?_
        have e9 : L_hasPrinted F M p0 p1 (i1 + 1) = 0 := by rw [L_hasPrinted]; rw [if_neg c1, if_pos c2]
        refine kk1 ls (show lv_has ls 6 [(4, .int (nI (i1 + 1))), (3, .int (L_hasPrinted F M p0 p1 (i1 + 1))), (0, .ref h), (1, .int p0), (2, .int p1)] from ?_)
        rw [e9]; exact lv_sub hl [0, 1, 3, 4, 5] rfl
    · refine lv_aload_n hx hb dX11_hasPrinted_25 rfl (lv_at hl 2 rfl) ?_
      refine lv_iload hx hb dX11_hasPrinted_26 (lv_at hl 0 rfl) ?_
      refine lv_iconst (v := 2) hx hb dX11_hasPrinted_28 (by decide) ?_
      refine lv_sipush (v := 30000) hx hb dX11_hasPrinted_29 (by decide) ?_
      refine vp_callSi (W.runV (As := [.int (nI i1), .int 2, .int 30000]) (rest := []) ⟨hx, hb, hml, hown, hts⟩ (c_X11_lastOf l dC dI h a cI cB cZ F M (nI i1) 2 30000 hI) (cwV 3 hts gX11_hasPrinted_X11_lastOf rfl rfl rfl (by decide +kernel) ⟨Nat.le_of_ble_eq_true rfl, Nat.le_of_ble_eq_true rfl⟩) ⟨pm_blind, va_recv hK hP (ci := 10) (q0 := 0) rfl rfl, fun U hU hW => ⟨rfl, by rw [hU]; exact hP, va_K.moved hW.alike hK⟩⟩ rfl rfl hl.1 rfl (lv_room (Nat.le_of_ble_eq_true rfl)) dX11_hasPrinted_32 ⟨Nat.zero_le _, Nat.zero_le _⟩) (fun r hr9 => ?_)
      subst hr9
      refine lv_goto (tgt := 40) hx hb dX11_hasPrinted_35 (by decide) ?_
      refine lv_istore (lv' := [(5, .int (s_X11_lastOf F M (nI i1) 2 30000)), (4, .int (nI i1)), (3, .int (L_hasPrinted F M p0 p1 i1)), (0, .ref h), (1, .int p0), (2, .int p1)]) hx hb dX11_hasPrinted_40 hl (by decide) rfl (fun ls hl => ?_)
      refine lv_iload_n hx hb dX11_hasPrinted_42 rfl (lv_at hl 2 rfl) ?_
      refine lv_if_ne (tgt := 69) hx hb dX11_hasPrinted_43 (by decide) (fun c3 => ?_) (fun c3 => ?_)
      · refine lv_iconst (v := 1) hx hb dX11_hasPrinted_69 (by decide) ?_
        refine lv_goto (tgt := 74) hx hb dX11_hasPrinted_70 (by decide) ?_
        refine lv_istore_n (lv' := [(3, .int 1), (5, .int (s_X11_lastOf F M (nI i1) 2 30000)), (4, .int (nI i1)), (0, .ref h), (1, .int p0), (2, .int p1)]) hx hb dX11_hasPrinted_74 rfl hl (by decide) rfl (fun ls hl => ?_)
        refine lv_iinc (v := nI (i1 + 1)) (lv' := [(4, .int (nI (i1 + 1))), (3, .int 1), (5, .int (s_X11_lastOf F M (nI i1) 2 30000)), (0, .ref h), (1, .int p0), (2, .int p1)]) hx hb dX11_hasPrinted_75 hl (k := 2) rfl (nI_1 i1) (by decide) rfl (fun ls hl => ?_)
        refine lv_goto (tgt := 5) hx hb dX11_hasPrinted_78 (by decide) ?_
        have e9 : L_hasPrinted F M p0 p1 (i1 + 1) = 1 := by rw [L_hasPrinted]; rw [if_pos c1, if_neg c3]
        refine kk1 ls (show lv_has ls 6 [(4, .int (nI (i1 + 1))), (3, .int (L_hasPrinted F M p0 p1 (i1 + 1))), (0, .ref h), (1, .int p0), (2, .int p1)] from ?_)
        rw [e9]; exact lv_sub hl [0, 1, 3, 4, 5] rfl
      · refine lv_iload hx hb dX11_hasPrinted_46 (lv_at hl 0 rfl) ?_
        refine lv_bipush (v := (-9)) hx hb dX11_hasPrinted_48 (by decide) ?_
        refine lv_icmp_eq (tgt := 73) hx hb dX11_hasPrinted_50 (by decide) (fun c4 => ?_) (fun c4 => ?_)
        · refine lv_iconst (v := 0) hx hb dX11_hasPrinted_73 (by decide) ?_
          refine lv_istore_n (lv' := [(3, .int 0), (5, .int (s_X11_lastOf F M (nI i1) 2 30000)), (4, .int (nI i1)), (0, .ref h), (1, .int p0), (2, .int p1)]) hx hb dX11_hasPrinted_74 rfl hl (by decide) rfl (fun ls hl => ?_)
          refine lv_iinc (v := nI (i1 + 1)) (lv' := [(4, .int (nI (i1 + 1))), (3, .int 0), (5, .int (s_X11_lastOf F M (nI i1) 2 30000)), (0, .ref h), (1, .int p0), (2, .int p1)]) hx hb dX11_hasPrinted_75 hl (k := 2) rfl (nI_1 i1) (by decide) rfl (fun ls hl => ?_)
          refine lv_goto (tgt := 5) hx hb dX11_hasPrinted_78 (by decide) ?_
          have e9 : L_hasPrinted F M p0 p1 (i1 + 1) = 0 := by rw [L_hasPrinted]; rw [if_pos c1, if_pos c3, if_pos c4]
          refine kk1 ls (show lv_has ls 6 [(4, .int (nI (i1 + 1))), (3, .int (L_hasPrinted F M p0 p1 (i1 + 1))), (0, .ref h), (1, .int p0), (2, .int p1)] from ?_)
          rw [e9]; exact lv_sub hl [0, 1, 3, 4, 5] rfl
        · refine lv_aload_n hx hb dX11_hasPrinted_53 rfl (lv_at hl 3 rfl) ?_
          refine va_get (D := (dC, dI)) (ci := 10) (v := .int (F 3)) (C := RX11) (T := TX11) (N := 49) hx hb hts hin hown hK hP 0 rfl rfl 3 (by decide) (hts (.fieldLink RX11 140 "SocietyBookModel" "today" "I") (by decide +kernel)) (fun _ h9 => h9) rfl dX11_hasPrinted_54 ?_
          refine lv_iload hx hb dX11_hasPrinted_57 (lv_at hl 0 rfl) ?_
          refine lv_isub hx hb dX11_hasPrinted_59 ?_
          refine lv_aload_n hx hb dX11_hasPrinted_60 rfl (lv_at hl 3 rfl) ?_
          refine va_get (D := (dC, dI)) (ci := 10) (v := .ref (a 37)) (C := RX11) (T := TX11) (N := 49) hx hb hts hin hown hK hP 0 rfl rfl 37 (by decide) (hts (.fieldLink RX11 95 "SocietyBookModel" "within" "[I") (by decide +kernel)) (fun _ h9 => h9) rfl dX11_hasPrinted_61 ?_
          refine lv_iload_n hx hb dX11_hasPrinted_64 rfl (lv_at hl 4 rfl) ?_
          refine va_iald (f := M 37) hx hb hK hP 29 0 rfl rfl hm dX11_hasPrinted_65 ?_
          refine lv_icmp_gt (tgt := 73) hx hb dX11_hasPrinted_66 (by decide) (fun c5 => ?_) (fun c5 => ?_)
          · refine lv_iconst (v := 0) hx hb dX11_hasPrinted_73 (by decide) ?_
            refine lv_istore_n (lv' := [(3, .int 0), (5, .int (s_X11_lastOf F M (nI i1) 2 30000)), (4, .int (nI i1)), (0, .ref h), (1, .int p0), (2, .int p1)]) hx hb dX11_hasPrinted_74 rfl hl (by decide) rfl (fun ls hl => ?_)
            refine lv_iinc (v := nI (i1 + 1)) (lv' := [(4, .int (nI (i1 + 1))), (3, .int 0), (5, .int (s_X11_lastOf F M (nI i1) 2 30000)), (0, .ref h), (1, .int p0), (2, .int p1)]) hx hb dX11_hasPrinted_75 hl (k := 2) rfl (nI_1 i1) (by decide) rfl (fun ls hl => ?_)
            refine lv_goto (tgt := 5) hx hb dX11_hasPrinted_78 (by decide) ?_
            have e9 : L_hasPrinted F M p0 p1 (i1 + 1) = 0 := by rw [L_hasPrinted]; rw [if_pos c1, if_pos c3, if_neg c4, if_pos c5]
            refine kk1 ls (show lv_has ls 6 [(4, .int (nI (i1 + 1))), (3, .int (L_hasPrinted F M p0 p1 (i1 + 1))), (0, .ref h), (1, .int p0), (2, .int p1)] from ?_)
            rw [e9]; exact lv_sub hl [0, 1, 3, 4, 5] rfl
          · refine lv_iconst (v := 1) hx hb dX11_hasPrinted_69 (by decide) ?_
            refine lv_goto (tgt := 74) hx hb dX11_hasPrinted_70 (by decide) ?_
            refine lv_istore_n (lv' := [(3, .int 1), (5, .int (s_X11_lastOf F M (nI i1) 2 30000)), (4, .int (nI i1)), (0, .ref h), (1, .int p0), (2, .int p1)]) hx hb dX11_hasPrinted_74 rfl hl (by decide) rfl (fun ls hl => ?_)
            refine lv_iinc (v := nI (i1 + 1)) (lv' := [(4, .int (nI (i1 + 1))), (3, .int 1), (5, .int (s_X11_lastOf F M (nI i1) 2 30000)), (0, .ref h), (1, .int p0), (2, .int p1)]) hx hb dX11_hasPrinted_75 hl (k := 2) rfl (nI_1 i1) (by decide) rfl (fun ls hl => ?_)
            refine lv_goto (tgt := 5) hx hb dX11_hasPrinted_78 (by decide) ?_
            have e9 : L_hasPrinted F M p0 p1 (i1 + 1) = 1 := by rw [L_hasPrinted]; rw [if_pos c1, if_pos c3, if_neg c4, if_neg c5]
            refine kk1 ls (show lv_has ls 6 [(4, .int (nI (i1 + 1))), (3, .int (L_hasPrinted F M p0 p1 (i1 + 1))), (0, .ref h), (1, .int p0), (2, .int p1)] from ?_)
            rw [e9]; exact lv_sub hl [0, 1, 3, 4, 5] rfl
  · replace hl : lv_has ls 6 [(4, .int (nI (F 7).toNatClampNeg)), (3, .int (L_hasPrinted F M p0 p1 (F 7).toNatClampNeg)), (0, .ref h), (1, .int p0), (2, .int p1)] := hl
    refine lv_iload hx hb dX11_hasPrinted_5 (lv_at hl 0 rfl) ?_
    refine lv_aload_n hx hb dX11_hasPrinted_7 rfl (lv_at hl 2 rfl) ?_
    refine va_get (D := (dC, dI)) (ci := 10) (v := .int (F 7)) (C := RX11) (T := TX11) (N := 49) hx hb hts hin hown hK hP 0 rfl rfl 7 (by decide) (hts (.fieldLink RX11 146 "SocietyBookModel" "papers" "I") (by decide +kernel)) (fun _ h9 => h9) rfl dX11_hasPrinted_8 ?_
    refine lv_icmp_ge (tgt := 81) hx hb dX11_hasPrinted_11 (by decide) (fun _ => ?_) (fun c => absurd lb_yc c)
    refine lv_iload_n hx hb dX11_hasPrinted_81 rfl (lv_at hl 1 rfl) ?_
    exact W.zret (v := (L_hasPrinted F M p0 p1 (F 7).toNatClampNeg)) hx hb hr (nar01 (n_hasPrinted F M p0 p1 _)) (fun t ht hW => ⟨(L_hasPrinted F M p0 p1 (F 7).toNatClampNeg), rfl, by unfold s_X11_hasPrinted; rfl, ht⟩) (fun _ h => by cases h) dX11_hasPrinted_82

def s_X11_award (F : Nat → Int32) (M : Nat → Nat → Int32) (p0 : Int32) (p1 : Int32) : Int32 × ((Nat → Int32) × (Nat → Nat → Int32)) :=
  if 0 ≤ p0 ∧ p0 ≤ 3 then (if 0 ≤ p1 ∧ p1 ≤ ((F 4) - 1) then (if (F 38) = 60 then ((-2), (F, M)) else
      if (s_X11_hadSoon F M p0 p1) = 0 then (if (s_X11_hasPrinted F M p0 p1) = 0 then (3, (F, M)) else
        (1, (va_up F 38 ((F 38) + 1), va_up (va_up (va_up M 39 (upd (M 39) ((F 38).toNatClampNeg) p0)) 40 (upd (M 40) ((F 38).toNatClampNeg) p1)) 41 (upd (M 41) ((F 38).toNatClampNeg) (F 3))))) else
      (2, (F, M))) else
    ((-1), (F, M))) else
  ((-1), (F, M))
set_option maxHeartbeats 4000000 in
set_option maxRecDepth 100000 in
theorem c_X11_award (l : Launch) (dC : Nat → ClassId) (dI : Nat → Nat → Nat) (h : Nat) (a : Nat → Nat) (cI cB cZ : ClassId) (F : Nat → Int32) (M : Nat → Nat → Int32) (p0 : Int32) (p1 : Int32) (A : Nat → Prop) (hD : va_D A (wM h a cI cB cZ F M)) (hI : iv F M) : Met l yX11_award wsX11_award ({ frames := 2, cells := 0, slots := 0, locals := 50 } : Room) (va_Pc [.ref h, .int p0, .int p1] (pM dC dI h a cI cB cZ F M)) (va_Qi (fun r u => (r, u) = s_X11_award F M p0 p1) (qM A dC dI h a cI cB cZ) A) 0 0 A := by
  refine Met.ofW (cc := cX11_award) (maxL := 3) (ret := (some .int)) (by decide) rfl ?_
  intro p e s m args below meth c s₁ B hml hv
  obtain ⟨rfl, hP, hK⟩ := hv
  have hx := B.exec
  have hb := B.bytes
  have hr := B.returns
  have hts := atoms_spec (ws := wsX11_award) B.pre
  have hown : s.vm.findClass RX11 = some m.cls := findClass_of_methodNamed B.named
  have hlocks := B.notSynchronized
  have hin : ∀ w ∈ wsX110, w ∈ wsX11_award := by decide +kernel
  have hS : va_S A s.heap s.heap [] := va_S.rf
  have hl := lv_entry ([.ref h, .int p0, .int p1]) (n := 3) (Nat.le_of_ble_eq_true rfl)
  rw [lg_entry_eq]
  generalize (lg_sl ([.ref h, .int p0, .int p1]) ++ List.replicate (3 - (lg_sl ([.ref h, .int p0, .int p1])).length) Slot.unset).toArray = ls at hl ⊢
  have hl : lv_has ls 3 [(0, .ref h), (1, .int p0), (2, .int p1)] := hl
  refine lv_iload_n hx hb dX11_award_0 rfl (lv_at hl 1 rfl) ?_
  refine lv_iconst (v := 0) hx hb dX11_award_1 (by decide) ?_
  refine lv_iconst (v := 3) hx hb dX11_award_2 (by decide) ?_
  refine vp_callSi (W.runS (As := [.int p0, .int 0, .int 3]) (rest := []) ⟨hx, hb, hml, hown, hts⟩ (c_X11_in l p0 0 3) (va_cwS 3 hts gX11_award_X11_in rfl rfl rfl (by decide +kernel) ⟨Nat.le_of_ble_eq_true rfl, Nat.le_of_ble_eq_true rfl⟩) ⟨fun _ _ _ _ q => q, fun U hU hW => ⟨rfl, trivial⟩⟩ rfl rfl hl.1 rfl (lv_room (Nat.le_of_ble_eq_true rfl)) dX11_award_3 ⟨Nat.zero_le _, Nat.zero_le _⟩) (fun r hr9 => ?_)
  subst hr9
  refine lv_if_eq (tgt := 17) hx hb dX11_award_6 (by decide) (fun c1 => ?_) (fun c1 => ?_)
  · replace c1 := bo_f c1
    refine lv_iconst (v := (-1)) hx hb dX11_award_17 (by decide) ?_
    exact W.iret (v := (-1)) hx hb hr (fun t ht hW => ⟨⟨(-1), (F, M), rfl, by unfold s_X11_award; rw [if_neg c1], ⟨by rw [ht]; exact hP, va_K.moved hW.alike hK⟩, hD⟩, hS.F ht⟩) hS.2.2 dX11_award_18
  · replace c1 := bo_t c1
    refine lv_aload_n hx hb dX11_award_9 rfl (lv_at hl 0 rfl) ?_
    refine lv_iload_n hx hb dX11_award_10 rfl (lv_at hl 2 rfl) ?_
    refine vp_callSi (W.runV (As := [.int p1]) (rest := []) ⟨hx, hb, hml, hown, hts⟩ (c_X11_isFellow l dC dI h a cI cB cZ F M p1) (cwV 1 hts gX11_award_X11_isFellow rfl rfl rfl (by decide +kernel) ⟨Nat.le_of_ble_eq_true rfl, Nat.le_of_ble_eq_true rfl⟩) ⟨pm_blind, va_recv hK hP (ci := 10) (q0 := 0) rfl rfl, fun U hU hW => ⟨rfl, by rw [hU]; exact hP, va_K.moved hW.alike hK⟩⟩ rfl rfl hl.1 rfl (lv_room (Nat.le_of_ble_eq_true rfl)) dX11_award_11 ⟨Nat.zero_le _, Nat.zero_le _⟩) (fun r hr9 => ?_)
    subst hr9
    refine lv_if_ne (tgt := 19) hx hb dX11_award_14 (by decide) (fun c2 => ?_) (fun c2 => ?_)
    · replace c2 := bo_t c2
      refine lv_aload_n hx hb dX11_award_19 rfl (lv_at hl 0 rfl) ?_
      refine va_get (D := (dC, dI)) (ci := 10) (v := .int (F 38)) (C := RX11) (T := TX11) (N := 49) hx hb hts hin hown hK hP 0 rfl rfl 38 (by decide) (hts (.fieldLink RX11 210 "SocietyBookModel" "awards" "I") (by decide +kernel)) (fun _ h9 => h9) rfl dX11_award_20 ?_
      refine lv_bipush (v := 60) hx hb dX11_award_23 (by decide) ?_
      refine lv_icmp_ne (tgt := 31) hx hb dX11_award_25 (by decide) (fun c3 => ?_) (fun c3 => ?_)
      · refine lv_aload_n hx hb dX11_award_31 rfl (lv_at hl 0 rfl) ?_
        refine lv_iload_n hx hb dX11_award_32 rfl (lv_at hl 1 rfl) ?_
        refine lv_iload_n hx hb dX11_award_33 rfl (lv_at hl 2 rfl) ?_
        refine vp_callSi (W.runV (As := [.int p0, .int p1]) (rest := []) ⟨hx, hb, hml, hown, hts⟩ (c_X11_hadSoon l dC dI h a cI cB cZ F M p0 p1 hI (ib_in c1 (by decide))) (cwV 2 hts gX11_award_X11_hadSoon rfl rfl rfl (by decide +kernel) ⟨Nat.le_of_ble_eq_true rfl, Nat.le_of_ble_eq_true rfl⟩) ⟨pm_blind, va_recv hK hP (ci := 10) (q0 := 0) rfl rfl, fun U hU hW => ⟨rfl, by rw [hU]; exact hP, va_K.moved hW.alike hK⟩⟩ rfl rfl hl.1 rfl (lv_room (Nat.le_of_ble_eq_true rfl)) dX11_award_34 ⟨Nat.zero_le _, Nat.zero_le _⟩) (fun r hr9 => ?_)
        subst hr9
        refine lv_if_eq (tgt := 42) hx hb dX11_award_37 (by decide) (fun c4 => ?_) (fun c4 => ?_)
        · refine lv_aload_n hx hb dX11_award_42 rfl (lv_at hl 0 rfl) ?_
          refine lv_iload_n hx hb dX11_award_43 rfl (lv_at hl 1 rfl) ?_
          refine lv_iload_n hx hb dX11_award_44 rfl (lv_at hl 2 rfl) ?_
          refine vp_callSi (W.runV (As := [.int p0, .int p1]) (rest := []) ⟨hx, hb, hml, hown, hts⟩ (c_X11_hasPrinted l dC dI h a cI cB cZ F M p0 p1 hI (ib_in c1 (by decide))) (cwV 2 hts gX11_award_X11_hasPrinted rfl rfl rfl (by decide +kernel) ⟨Nat.le_of_ble_eq_true rfl, Nat.le_of_ble_eq_true rfl⟩) ⟨pm_blind, va_recv hK hP (ci := 10) (q0 := 0) rfl rfl, fun U hU hW => ⟨rfl, by rw [hU]; exact hP, va_K.moved hW.alike hK⟩⟩ rfl rfl hl.1 rfl (lv_room (Nat.le_of_ble_eq_true rfl)) dX11_award_45 ⟨Nat.zero_le _, Nat.zero_le _⟩) (fun r hr9 => ?_)
          subst hr9
          refine lv_if_ne (tgt := 53) hx hb dX11_award_48 (by decide) (fun c5 => ?_) (fun c5 => ?_)
          · refine lv_aload_n hx hb dX11_award_53 rfl (lv_at hl 0 rfl) ?_
            refine va_get (D := (dC, dI)) (ci := 10) (v := .ref (a 39)) (C := RX11) (T := TX11) (N := 49) hx hb hts hin hown hK hP 0 rfl rfl 39 (by decide) (hts (.fieldLink RX11 98 "SocietyBookModel" "awardMedal" "[I") (by decide +kernel)) (fun _ h9 => h9) rfl dX11_award_54 ?_
            refine lv_aload_n hx hb dX11_award_57 rfl (lv_at hl 0 rfl) ?_
            refine va_get (D := (dC, dI)) (ci := 10) (v := .int (F 38)) (C := RX11) (T := TX11) (N := 49) hx hb hts hin hown hK hP 0 rfl rfl 38 (by decide) (hts (.fieldLink RX11 210 "SocietyBookModel" "awards" "I") (by decide +kernel)) (fun _ h9 => h9) rfl dX11_award_58 ?_
            refine lv_iload_n hx hb dX11_award_61 rfl (lv_at hl 1 rfl) ?_
            refine va_iast (f := M 39) hx hb hK hP hD hS 30 0 rfl rfl (ib_ct (iv_38 hI) c3 (by decide)) dX11_award_62 (fun H locs hP hD hS => ?_)
            replace hP : va_P (dC, dI) vwCl (wM h a cI cB cZ F (va_up M 39 (upd (M 39) ((F 38).toNatClampNeg) p0))) H := hP
            replace hD : va_D A (wM h a cI cB cZ F (va_up M 39 (upd (M 39) ((F 38).toNatClampNeg) p0))) := hD
            refine lv_aload_n hx hb dX11_award_63 rfl (lv_at hl 0 rfl) ?_
            refine va_get (D := (dC, dI)) (ci := 10) (v := .ref (a 40)) (C := RX11) (T := TX11) (N := 49) hx hb hts hin hown hK hP 0 rfl rfl 40 (by decide) (hts (.fieldLink RX11 101 "SocietyBookModel" "awardFellow" "[I") (by decide +kernel)) (fun _ h9 => h9) rfl dX11_award_64 ?_
            refine lv_aload_n hx hb dX11_award_67 rfl (lv_at hl 0 rfl) ?_
            refine va_get (D := (dC, dI)) (ci := 10) (v := .int (F 38)) (C := RX11) (T := TX11) (N := 49) hx hb hts hin hown hK hP 0 rfl rfl 38 (by decide) (hts (.fieldLink RX11 210 "SocietyBookModel" "awards" "I") (by decide +kernel)) (fun _ h9 => h9) rfl dX11_award_68 ?_
            refine lv_iload_n hx hb dX11_award_71 rfl (lv_at hl 2 rfl) ?_
            refine va_iast (f := M 40) hx hb hK hP hD hS 31 0 rfl rfl (ib_ct (iv_38 hI) c3 (by decide)) dX11_award_72 (fun H locs hP hD hS => ?_)
            replace hP : va_P (dC, dI) vwCl (wM h a cI cB cZ F (va_up (va_up M 39 (upd (M 39) ((F 38).toNatClampNeg) p0)) 40 (upd (M 40) ((F 38).toNatClampNeg) p1))) H := hP
            replace hD : va_D A (wM h a cI cB cZ F (va_up (va_up M 39 (upd (M 39) ((F 38).toNatClampNeg) p0)) 40 (upd (M 40) ((F 38).toNatClampNeg) p1))) := hD
            refine lv_aload_n hx hb dX11_award_73 rfl (lv_at hl 0 rfl) ?_
            refine va_get (D := (dC, dI)) (ci := 10) (v := .ref (a 41)) (C := RX11) (T := TX11) (N := 49) hx hb hts hin hown hK hP 0 rfl rfl 41 (by decide) (hts (.fieldLink RX11 104 "SocietyBookModel" "awardDay" "[I") (by decide +kernel)) (fun _ h9 => h9) rfl dX11_award_74 ?_
            refine lv_aload_n hx hb dX11_award_77 rfl (lv_at hl 0 rfl) ?_
            refine va_get (D := (dC, dI)) (ci := 10) (v := .int (F 38)) (C := RX11) (T := TX11) (N := 49) hx hb hts hin hown hK hP 0 rfl rfl 38 (by decide) (hts (.fieldLink RX11 210 "SocietyBookModel" "awards" "I") (by decide +kernel)) (fun _ h9 => h9) rfl dX11_award_78 ?_
            refine lv_aload_n hx hb dX11_award_81 rfl (lv_at hl 0 rfl) ?_
            refine va_get (D := (dC, dI)) (ci := 10) (v := .int (F 3)) (C := RX11) (T := TX11) (N := 49) hx hb hts hin hown hK hP 0 rfl rfl 3 (by decide) (hts (.fieldLink RX11 140 "SocietyBookModel" "today" "I") (by decide +kernel)) (fun _ h9 => h9) rfl dX11_award_82 ?_
            refine va_iast (f := M 41) hx hb hK hP hD hS 32 0 rfl rfl (ib_ct (iv_38 hI) c3 (by decide)) dX11_award_85 (fun H locs hP hD hS => ?_)
            replace hP : va_P (dC, dI) vwCl (wM h a cI cB cZ F (va_up (va_up (va_up M 39 (upd (M 39) ((F 38).toNatClampNeg) p0)) 40 (upd (M 40) ((F 38).toNatClampNeg) p1)) 41 (upd (M 41) ((F 38).toNatClampNeg) (F 3)))) H := hP
            replace hD : va_D A (wM h a cI cB cZ F (va_up (va_up (va_up M 39 (upd (M 39) ((F 38).toNatClampNeg) p0)) 40 (upd (M 40) ((F 38).toNatClampNeg) p1)) 41 (upd (M 41) ((F 38).toNatClampNeg) (F 3)))) := hD
            refine lv_aload_n hx hb dX11_award_86 rfl (lv_at hl 0 rfl) ?_
            refine lv_dup hx hb dX11_award_87 rfl ?_
            refine va_get (D := (dC, dI)) (ci := 10) (v := .int (F 38)) (C := RX11) (T := TX11) (N := 49) hx hb hts hin hown hK hP 0 rfl rfl 38 (by decide) (hts (.fieldLink RX11 210 "SocietyBookModel" "awards" "I") (by decide +kernel)) (fun _ h9 => h9) rfl dX11_award_88 ?_
            refine lv_iconst (v := 1) hx hb dX11_award_91 (by decide) ?_
            refine lv_iadd hx hb dX11_award_92 ?_
            refine va_put (D := (dC, dI)) (ci := 10) (v := .int ((F 38) + 1)) (ty := .int) (C := RX11) (T := TX11) (N := 49) hx hb hts hin tyX11 tyX11_ok nmX11 hown hK hP hD hS 0 rfl rfl 38 (by decide) (hts (.fieldLink RX11 210 "SocietyBookModel" "awards" "I") (by decide +kernel)) (fun _ h9 => h9) rfl (by decide +kernel) rfl rfl (Nat.le_of_ble_eq_true rfl) dX11_award_93 (fun H locs hP hD hS => ?_)
            replace hP : va_P (dC, dI) vwCl (wM h a cI cB cZ (va_up F 38 ((F 38) + 1)) (va_up (va_up (va_up M 39 (upd (M 39) ((F 38).toNatClampNeg) p0)) 40 (upd (M 40) ((F 38).toNatClampNeg) p1)) 41 (upd (M 41) ((F 38).toNatClampNeg) (F 3)))) H := hP
            replace hD : va_D A (wM h a cI cB cZ (va_up F 38 ((F 38) + 1)) (va_up (va_up (va_up M 39 (upd (M 39) ((F 38).toNatClampNeg) p0)) 40 (upd (M 40) ((F 38).toNatClampNeg) p1)) 41 (upd (M 41) ((F 38).toNatClampNeg) (F 3)))) := hD
            refine lv_iconst (v := 1) hx hb dX11_award_96 (by decide) ?_
            exact W.iret (v := 1) hx hb hr (fun t ht hW => ⟨⟨1, (va_up F 38 ((F 38) + 1), va_up (va_up (va_up M 39 (upd (M 39) ((F 38).toNatClampNeg) p0)) 40 (upd (M 40) ((F 38).toNatClampNeg) p1)) 41 (upd (M 41) ((F 38).toNatClampNeg) (F 3))), rfl, by unfold s_X11_award; rw [if_pos c1, if_pos c2, if_neg c3, if_pos c4, if_neg c5], ⟨by rw [ht]; exact hP, va_K.moved hW.alike hK⟩, hD⟩, hS.F ht⟩) hS.2.2 dX11_award_97
          · refine lv_iconst (v := 3) hx hb dX11_award_51 (by decide) ?_
            exact W.iret (v := 3) hx hb hr (fun t ht hW => ⟨⟨3, (F, M), rfl, by unfold s_X11_award; rw [if_pos c1, if_pos c2, if_neg c3, if_pos c4, if_pos c5], ⟨by rw [ht]; exact hP, va_K.moved hW.alike hK⟩, hD⟩, hS.F ht⟩) hS.2.2 dX11_award_52
        · refine lv_iconst (v := 2) hx hb dX11_award_40 (by decide) ?_
          exact W.iret (v := 2) hx hb hr (fun t ht hW => ⟨⟨2, (F, M), rfl, by unfold s_X11_award; rw [if_pos c1, if_pos c2, if_neg c3, if_neg c4], ⟨by rw [ht]; exact hP, va_K.moved hW.alike hK⟩, hD⟩, hS.F ht⟩) hS.2.2 dX11_award_41
      · refine lv_bipush (v := (-2)) hx hb dX11_award_28 (by decide) ?_
        exact W.iret (v := (-2)) hx hb hr (fun t ht hW => ⟨⟨(-2), (F, M), rfl, by unfold s_X11_award; rw [if_pos c1, if_pos c2, if_pos c3], ⟨by rw [ht]; exact hP, va_K.moved hW.alike hK⟩, hD⟩, hS.F ht⟩) hS.2.2 dX11_award_30
    · replace c2 := bo_f c2
      refine lv_iconst (v := (-1)) hx hb dX11_award_17 (by decide) ?_
      exact W.iret (v := (-1)) hx hb hr (fun t ht hW => ⟨⟨(-1), (F, M), rfl, by unfold s_X11_award; rw [if_pos c1, if_neg c2], ⟨by rw [ht]; exact hP, va_K.moved hW.alike hK⟩, hD⟩, hS.F ht⟩) hS.2.2 dX11_award_18

def L_medals (F : Nat → Int32) (M : Nat → Nat → Int32) (p0 : Int32) (p1 : Int32) : Nat → Int32
  | 0 => 0
  | i1 + 1 =>
    if ((M 39) i1) = p0 then (if ((M 40) i1) = p1 then (L_medals F M p0 p1 i1) + 1 else
      (L_medals F M p0 p1 i1) + 0) else
    (L_medals F M p0 p1 i1) + 0
def s_X11_medals (F : Nat → Int32) (M : Nat → Nat → Int32) (p0 : Int32) (p1 : Int32) : Int32 :=
  if 0 ≤ p0 ∧ p0 ≤ 3 then (if 0 ≤ p1 ∧ p1 ≤ ((F 4) - 1) then (L_medals F M p0 p1 (F 38).toNatClampNeg) else
    (-1)) else
  (-1)
set_option maxHeartbeats 4000000 in
set_option maxRecDepth 100000 in
theorem c_X11_medals (l : Launch) (dC : Nat → ClassId) (dI : Nat → Nat → Nat) (h : Nat) (a : Nat → Nat) (cI cB cZ : ClassId) (F : Nat → Int32) (M : Nat → Nat → Int32) (p0 : Int32) (p1 : Int32) (hI : iv F M) : Met l yX11_medals wsX11_medals ({ frames := 2, cells := 0, slots := 0, locals := 43 } : Room) (va_Pc [.ref h, .int p0, .int p1] (pM dC dI h a cI cB cZ F M)) (vp_Si (fun r => r = s_X11_medals F M p0 p1)) 0 0 (fun _ => False) := by
  refine Met.ofW (cc := cX11_medals) (maxL := 5) (ret := (some .int)) (by decide) rfl ?_
  intro p e s m args below meth c s₁ B hml hv
  obtain ⟨rfl, hP, hK⟩ := hv
  have hx := B.exec
  have hb := B.bytes
  have hr := B.returns
  have hts := atoms_spec (ws := wsX11_medals) B.pre
  have hown : s.vm.findClass RX11 = some m.cls := findClass_of_methodNamed B.named
  have hlocks := B.notSynchronized
  have hin : ∀ w ∈ wsX110, w ∈ wsX11_medals := by decide +kernel
  have hl := lv_entry ([.ref h, .int p0, .int p1]) (n := 5) (Nat.le_of_ble_eq_true rfl)
  rw [lg_entry_eq]
  generalize (lg_sl ([.ref h, .int p0, .int p1]) ++ List.replicate (5 - (lg_sl ([.ref h, .int p0, .int p1])).length) Slot.unset).toArray = ls at hl ⊢
  have hl : lv_has ls 5 [(0, .ref h), (1, .int p0), (2, .int p1)] := hl
  have hn38 : (F 38).toNatClampNeg ≤ 60 := lb_le (iv_38 hI) (by decide)
  refine lv_iload_n hx hb dX11_medals_0 rfl (lv_at hl 1 rfl) ?_
  refine lv_iconst (v := 0) hx hb dX11_medals_1 (by decide) ?_
  refine lv_iconst (v := 3) hx hb dX11_medals_2 (by decide) ?_
  refine vp_callSi (W.runS (As := [.int p0, .int 0, .int 3]) (rest := []) ⟨hx, hb, hml, hown, hts⟩ (c_X11_in l p0 0 3) (va_cwS 3 hts gX11_medals_X11_in rfl rfl rfl (by decide +kernel) ⟨Nat.le_of_ble_eq_true rfl, Nat.le_of_ble_eq_true rfl⟩) ⟨fun _ _ _ _ q => q, fun U hU hW => ⟨rfl, trivial⟩⟩ rfl rfl hl.1 rfl (lv_room (Nat.le_of_ble_eq_true rfl)) dX11_medals_3 ⟨Nat.zero_le _, Nat.zero_le _⟩) (fun r hr9 => ?_)
  subst hr9
  refine lv_if_eq (tgt := 17) hx hb dX11_medals_6 (by decide) (fun c1 => ?_) (fun c1 => ?_)
  · replace c1 := bo_f c1
    refine lv_iconst (v := (-1)) hx hb dX11_medals_17 (by decide) ?_
    exact W.iret (v := (-1)) hx hb hr (fun t ht hW => ⟨(-1), rfl, by unfold s_X11_medals; rw [if_neg c1], ht⟩) (fun _ h => by cases h) dX11_medals_18
  · replace c1 := bo_t c1
    refine lv_aload_n hx hb dX11_medals_9 rfl (lv_at hl 0 rfl) ?_
    refine lv_iload_n hx hb dX11_medals_10 rfl (lv_at hl 2 rfl) ?_
    refine vp_callSi (W.runV (As := [.int p1]) (rest := []) ⟨hx, hb, hml, hown, hts⟩ (c_X11_isFellow l dC dI h a cI cB cZ F M p1) (cwV 1 hts gX11_medals_X11_isFellow rfl rfl rfl (by decide +kernel) ⟨Nat.le_of_ble_eq_true rfl, Nat.le_of_ble_eq_true rfl⟩) ⟨pm_blind, va_recv hK hP (ci := 10) (q0 := 0) rfl rfl, fun U hU hW => ⟨rfl, by rw [hU]; exact hP, va_K.moved hW.alike hK⟩⟩ rfl rfl hl.1 rfl (lv_room (Nat.le_of_ble_eq_true rfl)) dX11_medals_11 ⟨Nat.zero_le _, Nat.zero_le _⟩) (fun r hr9 => ?_)
    subst hr9
    refine lv_if_ne (tgt := 19) hx hb dX11_medals_14 (by decide) (fun c2 => ?_) (fun c2 => ?_)
    · replace c2 := bo_t c2
      refine lv_iconst (v := 0) hx hb dX11_medals_19 (by decide) ?_
      refine lv_istore_n (lv' := [(3, .int 0), (0, .ref h), (1, .int p0), (2, .int p1)]) hx hb dX11_medals_20 rfl hl (by decide) rfl (fun ls hl => ?_)
      refine lv_iconst (v := 0) hx hb dX11_medals_21 (by decide) ?_
      refine lv_istore (lv' := [(4, .int 0), (3, .int 0), (0, .ref h), (1, .int p0), (2, .int p1)]) hx hb dX11_medals_22 hl (by decide) rfl (fun ls hl => ?_)
      refine lp_for (N := (F 38).toNatClampNeg) (lv := fun i1 => [(4, .int (nI i1)), (3, .int (L_medals F M p0 p1 i1)), (0, .ref h), (1, .int p0), (2, .int p1)]) (lv_sub hl [0, 1, 2, 3, 4] rfl) (fun i1 hi1 ls hl kk1 => ?_) (fun ls hl => ?_)
      · replace hl : lv_has ls 5 [(4, .int (nI i1)), (3, .int (L_medals F M p0 p1 i1)), (0, .ref h), (1, .int p0), (2, .int p1)] := hl
        refine lv_iload hx hb dX11_medals_24 (lv_at hl 0 rfl) ?_
        refine lv_aload_n hx hb dX11_medals_26 rfl (lv_at hl 2 rfl) ?_
        refine va_get (D := (dC, dI)) (ci := 10) (v := .int (F 38)) (C := RX11) (T := TX11) (N := 49) hx hb hts hin hown hK hP 0 rfl rfl 38 (by decide) (hts (.fieldLink RX11 210 "SocietyBookModel" "awards" "I") (by decide +kernel)) (fun _ h9 => h9) rfl dX11_medals_27 ?_
        refine lv_icmp_ge (tgt := 69) hx hb dX11_medals_30 (by decide) (fun c => absurd c (lb_nc hi1)) (fun _ => ?_)
        refine lv_iload_n hx hb dX11_medals_33 rfl (lv_at hl 1 rfl) ?_
        refine lv_aload_n hx hb dX11_medals_34 rfl (lv_at hl 2 rfl) ?_
        refine va_get (D := (dC, dI)) (ci := 10) (v := .ref (a 39)) (C := RX11) (T := TX11) (N := 49) hx hb hts hin hown hK hP 0 rfl rfl 39 (by decide) (hts (.fieldLink RX11 98 "SocietyBookModel" "awardMedal" "[I") (by decide +kernel)) (fun _ h9 => h9) rfl dX11_medals_35 ?_
        refine lv_iload hx hb dX11_medals_38 (lv_at hl 0 rfl) ?_
        refine va_iald (f := M 39) hx hb hK hP 30 0 rfl rfl (vp_in_nI (show i1 < 60 by omega) (by decide)) dX11_medals_40 ?_
        rw [nI_clamp (show i1 < 2 ^ 31 by omega)]
        refine lv_iload_n hx hb dX11_medals_41 rfl (lv_at hl 3 rfl) ?_
        refine lv_icmp_ne (tgt := 60) hx hb dX11_medals_42 (by decide) (fun c3 => ?_) (fun c3 => ?_)
        · refine lv_iconst (v := 0) hx hb dX11_medals_60 (by decide) ?_
          refine lv_iadd hx hb dX11_medals_61 ?_
          refine lv_istore_n (lv' := [(3, .int ((L_medals F M p0 p1 i1) + 0)), (4, .int (nI i1)), (0, .ref h), (1, .int p0), (2, .int p1)]) hx hb dX11_medals_62 rfl hl (by decide) rfl (fun ls hl => ?_)
          refine lv_iinc (v := nI (i1 + 1)) (lv' := [(4, .int (nI (i1 + 1))), (3, .int ((L_medals F M p0 p1 i1) + 0)), (0, .ref h), (1, .int p0), (2, .int p1)]) hx hb dX11_medals_63 hl (k := 1) rfl (nI_1 i1) (by decide) rfl (fun ls hl => ?_)
          refine lv_goto (tgt := 24) hx hb dX11_medals_66 (by decide) ?_
          have e9 : L_medals F M p0 p1 (i1 + 1) = (L_medals F M p0 p1 i1) + 0 := by rw [L_medals]; rw [if_neg c3]
          refine kk1 ls (show lv_has ls 5 [(4, .int (nI (i1 + 1))), (3, .int (L_medals F M p0 p1 (i1 + 1))), (0, .ref h), (1, .int p0), (2, .int p1)] from ?_)
          rw [e9]; exact lv_sub hl [0, 1, 2, 3, 4] rfl
        · refine lv_aload_n hx hb dX11_medals_45 rfl (lv_at hl 2 rfl) ?_
          refine va_get (D := (dC, dI)) (ci := 10) (v := .ref (a 40)) (C := RX11) (T := TX11) (N := 49) hx hb hts hin hown hK hP 0 rfl rfl 40 (by decide) (hts (.fieldLink RX11 101 "SocietyBookModel" "awardFellow" "[I") (by decide +kernel)) (fun _ h9 => h9) rfl dX11_medals_46 ?_
          refine lv_iload hx hb dX11_medals_49 (lv_at hl 0 rfl) ?_
          refine va_iald (f := M 40) hx hb hK hP 31 0 rfl rfl (vp_in_nI (show i1 < 60 by omega) (by decide)) dX11_medals_51 ?_
          rw [nI_clamp (show i1 < 2 ^ 31 by omega)]
          refine lv_iload_n hx hb dX11_medals_52 rfl (lv_at hl 4 rfl) ?_
          refine lv_icmp_ne (tgt := 60) hx hb dX11_medals_53 (by decide) (fun c4 => ?_) (fun c4 => ?_)
          · refine lv_iconst (v := 0) hx hb dX11_medals_60 (by decide) ?_
            refine lv_iadd hx hb dX11_medals_61 ?_
            refine lv_istore_n (lv' := [(3, .int ((L_medals F M p0 p1 i1) + 0)), (4, .int (nI i1)), (0, .ref h), (1, .int p0), (2, .int p1)]) hx hb dX11_medals_62 rfl hl (by decide) rfl (fun ls hl => ?_)
            refine lv_iinc (v := nI (i1 + 1)) (lv' := [(4, .int (nI (i1 + 1))), (3, .int ((L_medals F M p0 p1 i1) + 0)), (0, .ref h), (1, .int p0), (2, .int p1)]) hx hb dX11_medals_63 hl (k := 1) rfl (nI_1 i1) (by decide) rfl (fun ls hl => ?_)
            refine lv_goto (tgt := 24) hx hb dX11_medals_66 (by decide) ?_
            have e9 : L_medals F M p0 p1 (i1 + 1) = (L_medals F M p0 p1 i1) + 0 := by rw [L_medals]; rw [if_pos c3, if_neg c4]
            refine kk1 ls (show lv_has ls 5 [(4, .int (nI (i1 + 1))), (3, .int (L_medals F M p0 p1 (i1 + 1))), (0, .ref h), (1, .int p0), (2, .int p1)] from ?_)
            rw [e9]; exact lv_sub hl [0, 1, 2, 3, 4] rfl
          · refine lv_iconst (v := 1) hx hb dX11_medals_56 (by decide) ?_
            refine lv_goto (tgt := 61) hx hb dX11_medals_57 (by decide) ?_
            refine lv_iadd hx hb dX11_medals_61 ?_
            refine lv_istore_n (lv' := [(3, .int ((L_medals F M p0 p1 i1) + 1)), (4, .int (nI i1)), (0, .ref h), (1, .int p0), (2, .int p1)]) hx hb dX11_medals_62 rfl hl (by decide) rfl (fun ls hl => ?_)
            refine lv_iinc (v := nI (i1 + 1)) (lv' := [(4, .int (nI (i1 + 1))), (3, .int ((L_medals F M p0 p1 i1) + 1)), (0, .ref h), (1, .int p0), (2, .int p1)]) hx hb dX11_medals_63 hl (k := 1) rfl (nI_1 i1) (by decide) rfl (fun ls hl => ?_)
            refine lv_goto (tgt := 24) hx hb dX11_medals_66 (by decide) ?_
            have e9 : L_medals F M p0 p1 (i1 + 1) = (L_medals F M p0 p1 i1) + 1 := by rw [L_medals]; rw [if_pos c3, if_pos c4]
            refine kk1 ls (show lv_has ls 5 [(4, .int (nI (i1 + 1))), (3, .int (L_medals F M p0 p1 (i1 + 1))), (0, .ref h), (1, .int p0), (2, .int p1)] from ?_)
            rw [e9]; exact lv_sub hl [0, 1, 2, 3, 4] rfl
      · replace hl : lv_has ls 5 [(4, .int (nI (F 38).toNatClampNeg)), (3, .int (L_medals F M p0 p1 (F 38).toNatClampNeg)), (0, .ref h), (1, .int p0), (2, .int p1)] := hl
        refine lv_iload hx hb dX11_medals_24 (lv_at hl 0 rfl) ?_
        refine lv_aload_n hx hb dX11_medals_26 rfl (lv_at hl 2 rfl) ?_
        refine va_get (D := (dC, dI)) (ci := 10) (v := .int (F 38)) (C := RX11) (T := TX11) (N := 49) hx hb hts hin hown hK hP 0 rfl rfl 38 (by decide) (hts (.fieldLink RX11 210 "SocietyBookModel" "awards" "I") (by decide +kernel)) (fun _ h9 => h9) rfl dX11_medals_27 ?_
        refine lv_icmp_ge (tgt := 69) hx hb dX11_medals_30 (by decide) (fun _ => ?_) (fun c => absurd lb_yc c)
        refine lv_iload_n hx hb dX11_medals_69 rfl (lv_at hl 1 rfl) ?_
        exact W.iret (v := (L_medals F M p0 p1 (F 38).toNatClampNeg)) hx hb hr (fun t ht hW => ⟨(L_medals F M p0 p1 (F 38).toNatClampNeg), rfl, by unfold s_X11_medals; rw [if_pos c1, if_pos c2], ht⟩) (fun _ h => by cases h) dX11_medals_70
    · replace c2 := bo_f c2
      refine lv_iconst (v := (-1)) hx hb dX11_medals_17 (by decide) ?_
      exact W.iret (v := (-1)) hx hb hr (fun t ht hW => ⟨(-1), rfl, by unfold s_X11_medals; rw [if_pos c1, if_neg c2], ht⟩) (fun _ h => by cases h) dX11_medals_18
