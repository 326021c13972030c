set_option maxHeartbeats 4000000 in
set_option maxRecDepth 100000 in
theorem c_X11_isCopy (l : Launch) (p0 : Int32) (p1 : Int32) : Met l yX11_isCopy wsX11_isCopy ({ frames := 1, cells := 0, slots := 0, locals := 22 } : Room) (va_Pc [.int p0, .int p1] (fun _ => True)) (vp_Si (fun r => r = if (0 ≤ p0 ∧ p0 ≤ 5) ∧ (0 ≤ p1 ∧ p1 ≤ 11) then 1 else 0)) 0 0 (fun _ => False) := by
  refine Met.ofW (cc := cX11_isCopy) (maxL := 2) (ret := (some .boolean)) (by decide) rfl ?_
  intro p e s m args below meth c s₁ B hml hv
  obtain ⟨rfl, -⟩ := hv
  have hx := B.exec
  have hb := B.bytes
  have hr := B.returns
  have hts := atoms_spec (ws := wsX11_isCopy) B.pre
  have hown : s.vm.findClass RX11 = some m.cls := findClass_of_methodNamed B.named
  have hlocks := B.notSynchronized
  have hl := lv_entry ([.int p0, .int p1]) (n := 2) (Nat.le_of_ble_eq_true rfl)
  rw [lg_entry_eq]
  generalize (lg_sl ([.int p0, .int p1]) ++ List.replicate (2 - (lg_sl ([.int p0, .int p1])).length) Slot.unset).toArray = ls at hl ⊢
  have hl : lv_has ls 2 [(0, .int p0), (1, .int p1)] := hl
  refine lv_iload_n hx hb dX11_isCopy_0 rfl (lv_at hl 0 rfl) ?_
  refine lv_iconst (v := 0) hx hb dX11_isCopy_1 (by decide) ?_
  refine lv_iconst (v := 5) hx hb dX11_isCopy_2 (by decide) ?_
  refine vp_callSi (W.runS (As := [.int p0, .int 0, .int 5]) (rest := []) ⟨hx, hb, hml, hown, hts⟩ (c_X11_in l p0 0 5) (va_cwS 3 hts gX11_isCopy_X11_in rfl rfl rfl (by decide +kernel) ⟨Nat.le_of_ble_eq_true rfl, Nat.le_of_ble_eq_true rfl⟩) ⟨fun _ _ _ _ q => q, fun U hU hW => ⟨rfl, trivial⟩⟩ rfl rfl hl.1 rfl (lv_room (Nat.le_of_ble_eq_true rfl)) dX11_isCopy_3 ⟨Nat.zero_le _, Nat.zero_le _⟩) (fun r hr9 => ?_)
  subst hr9
  refine lv_if_eq (tgt := 23) hx hb dX11_isCopy_6 (by decide) (fun c1 => ?_) (fun c1 => ?_)
  · replace c1 := bo_f c1
    refine lv_iconst (v := 0) hx hb dX11_isCopy_23 (by decide) ?_
    exact W.zret (v := 0) hx hb hr (rfl) (fun t ht hW => ⟨0, rfl, by exact (if_neg (fun q => c1 q.1)).symm, ht⟩) (fun _ h => by cases h) dX11_isCopy_24
  · replace c1 := bo_t c1
    refine lv_iload_n hx hb dX11_isCopy_9 rfl (lv_at hl 1 rfl) ?_
    refine lv_iconst (v := 0) hx hb dX11_isCopy_10 (by decide) ?_
    refine lv_bipush (v := 11) hx hb dX11_isCopy_11 (by decide) ?_
    refine vp_callSi (W.runS (As := [.int p1, .int 0, .int 11]) (rest := []) ⟨hx, hb, hml, hown, hts⟩ (c_X11_in l p1 0 11) (va_cwS 3 hts gX11_isCopy_X11_in rfl rfl rfl (by decide +kernel) ⟨Nat.le_of_ble_eq_true rfl, Nat.le_of_ble_eq_true rfl⟩) ⟨fun _ _ _ _ q => q, fun U hU hW => ⟨rfl, trivial⟩⟩ rfl rfl hl.1 rfl (lv_room (Nat.le_of_ble_eq_true rfl)) dX11_isCopy_13 ⟨Nat.zero_le _, Nat.zero_le _⟩) (fun r hr9 => ?_)
    subst hr9
    refine lv_if_eq (tgt := 23) hx hb dX11_isCopy_16 (by decide) (fun c2 => ?_) (fun c2 => ?_)
    · replace c2 := bo_f c2
      refine lv_iconst (v := 0) hx hb dX11_isCopy_23 (by decide) ?_
      exact W.zret (v := 0) hx hb hr (rfl) (fun t ht hW => ⟨0, rfl, by exact (if_neg (fun q => c2 q.2)).symm, ht⟩) (fun _ h => by cases h) dX11_isCopy_24
    · replace c2 := bo_t c2
      refine lv_iconst (v := 1) hx hb dX11_isCopy_19 (by decide) ?_
      refine lv_goto (tgt := 24) hx hb dX11_isCopy_20 (by decide) ?_
      exact W.zret (v := 1) hx hb hr (rfl) (fun t ht hW => ⟨1, rfl, by exact (if_pos ⟨c1, c2⟩).symm, ht⟩) (fun _ h => by cases h) dX11_isCopy_24

def s_X11_stock (F : Nat → Int32) (M : Nat → Nat → Int32) (p0 : Int32) (p1 : Int32) (p2 : Int32) : Int32 × ((Nat → Int32) × (Nat → Nat → Int32)) :=
  if (0 ≤ p0 ∧ p0 ≤ 5) ∧ (0 ≤ p1 ∧ p1 ≤ 11) then (if 0 ≤ p2 ∧ p2 ≤ 9 then ((M 42) (((12 * p0) + p1).toNatClampNeg), (F, va_up M 42 (upd (M 42) (((12 * p0) + p1).toNatClampNeg) p2))) else
    ((-1), (F, M))) else
  ((-1), (F, M))
set_option maxHeartbeats 4000000 in
set_option maxRecDepth 100000 in
theorem c_X11_stock (l : Launch) (dC : Nat → ClassId) (dI : Nat → Nat → Nat) (h : Nat) (a : Nat → Nat) (cI cB cZ : ClassId) (F : Nat → Int32) (M : Nat → Nat → Int32) (p0 : Int32) (p1 : Int32) (p2 : Int32) (A : Nat → Prop) (hD : va_D A (wM h a cI cB cZ F M)) : Met l yX11_stock wsX11_stock ({ frames := 2, cells := 0, slots := 0, locals := 43 } : Room) (va_Pc [.ref h, .int p0, .int p1, .int p2] (pM dC dI h a cI cB cZ F M)) (va_Qi (fun r u => (r, u) = s_X11_stock F M p0 p1 p2) (qM A dC dI h a cI cB cZ) A) 0 0 A := by
  refine Met.ofW (cc := cX11_stock) (maxL := 5) (ret := (some .int)) (by decide) rfl ?_
  intro p e s m args below meth c s₁ B hml hv
  obtain ⟨rfl, hP, hK⟩ := hv
  have hx := B.exec
  have hb := B.bytes
  have hr := B.returns
  have hts := atoms_spec (ws := wsX11_stock) B.pre
  have hown : s.vm.findClass RX11 = some m.cls := findClass_of_methodNamed B.named
  have hlocks := B.notSynchronized
  have hin : ∀ w ∈ wsX110, w ∈ wsX11_stock := by decide +kernel
  have hS : va_S A s.heap s.heap [] := va_S.rf
  have hl := lv_entry ([.ref h, .int p0, .int p1, .int p2]) (n := 5) (Nat.le_of_ble_eq_true rfl)
  rw [lg_entry_eq]
  generalize (lg_sl ([.ref h, .int p0, .int p1, .int p2]) ++ List.replicate (5 - (lg_sl ([.ref h, .int p0, .int p1, .int p2])).length) Slot.unset).toArray = ls at hl ⊢
  have hl : lv_has ls 5 [(0, .ref h), (1, .int p0), (2, .int p1), (3, .int p2)] := hl
  refine lv_iload_n hx hb dX11_stock_0 rfl (lv_at hl 1 rfl) ?_
  refine lv_iload_n hx hb dX11_stock_1 rfl (lv_at hl 2 rfl) ?_
  refine vp_callSi (W.runS (As := [.int p0, .int p1]) (rest := []) ⟨hx, hb, hml, hown, hts⟩ (c_X11_isCopy l p0 p1) (va_cwS 2 hts gX11_stock_X11_isCopy rfl rfl rfl (by decide +kernel) ⟨Nat.le_of_ble_eq_true rfl, Nat.le_of_ble_eq_true rfl⟩) ⟨fun _ _ _ _ q => q, fun U hU hW => ⟨rfl, trivial⟩⟩ rfl rfl hl.1 rfl (lv_room (Nat.le_of_ble_eq_true rfl)) dX11_stock_2 ⟨Nat.zero_le _, Nat.zero_le _⟩) (fun r hr9 => ?_)
  subst hr9
  refine lv_if_eq (tgt := 18) hx hb dX11_stock_5 (by decide) (fun c1 => ?_) (fun c1 => ?_)
  · replace c1 := bo_f c1
    refine lv_iconst (v := (-1)) hx hb dX11_stock_18 (by decide) ?_
    exact W.iret (v := (-1)) hx hb hr (fun t ht hW => ⟨⟨(-1), (F, M), rfl, by unfold s_X11_stock; rw [if_neg c1], ⟨by rw [ht]; exact hP, va_K.moved hW.alike hK⟩, hD⟩, hS.F ht⟩) hS.2.2 dX11_stock_19
  · replace c1 := bo_t c1
    refine lv_iload_n hx hb dX11_stock_8 rfl (lv_at hl 3 rfl) ?_
    refine lv_iconst (v := 0) hx hb dX11_stock_9 (by decide) ?_
    refine lv_bipush (v := 9) hx hb dX11_stock_10 (by decide) ?_
    refine vp_callSi (W.runS (As := [.int p2, .int 0, .int 9]) (rest := []) ⟨hx, hb, hml, hown, hts⟩ (c_X11_in l p2 0 9) (va_cwS 3 hts gX11_stock_X11_in rfl rfl rfl (by decide +kernel) ⟨Nat.le_of_ble_eq_true rfl, Nat.le_of_ble_eq_true rfl⟩) ⟨fun _ _ _ _ q => q, fun U hU hW => ⟨rfl, trivial⟩⟩ rfl rfl hl.1 rfl (lv_room (Nat.le_of_ble_eq_true rfl)) dX11_stock_12 ⟨Nat.zero_le _, Nat.zero_le _⟩) (fun r hr9 => ?_)
    subst hr9
    refine lv_if_ne (tgt := 20) hx hb dX11_stock_15 (by decide) (fun c2 => ?_) (fun c2 => ?_)
    · replace c2 := bo_t c2
      refine lv_aload_n hx hb dX11_stock_20 rfl (lv_at hl 0 rfl) ?_
      refine va_get (D := (dC, dI)) (ci := 10) (v := .ref (a 42)) (C := RX11) (T := TX11) (N := 49) hx hb hts hin hown hK hP 0 rfl rfl 42 (by decide) (hts (.fieldLink RX11 107 "SocietyBookModel" "copies" "[I") (by decide +kernel)) (fun _ h9 => h9) rfl dX11_stock_21 ?_
      refine lv_bipush (v := 12) hx hb dX11_stock_24 (by decide) ?_
      refine lv_iload_n hx hb dX11_stock_26 rfl (lv_at hl 1 rfl) ?_
      refine lv_imul hx hb dX11_stock_27 ?_
      refine lv_iload_n hx hb dX11_stock_28 rfl (lv_at hl 2 rfl) ?_
      refine lv_iadd hx hb dX11_stock_29 ?_
      refine va_iald (f := M 42) hx hb hK hP 33 0 rfl rfl (ib_12 (S := 6) (ib_in (lo := 0) c1.1 (by decide)) (ib_in (lo := 0) c1.2 (by decide)) (by decide)) dX11_stock_30 ?_
      refine lv_istore (lv' := [(4, .int ((M 42) (((12 * p0) + p1).toNatClampNeg))), (0, .ref h), (1, .int p0), (2, .int p1), (3, .int p2)]) hx hb dX11_stock_31 hl (by decide) rfl (fun ls hl => ?_)
      refine lv_aload_n hx hb dX11_stock_33 rfl (lv_at hl 1 rfl) ?_
      refine va_get (D := (dC, dI)) (ci := 10) (v := .ref (a 42)) (C := RX11) (T := TX11) (N := 49) hx hb hts hin hown hK hP 0 rfl rfl 42 (by decide) (hts (.fieldLink RX11 107 "SocietyBookModel" "copies" "[I") (by decide +kernel)) (fun _ h9 => h9) rfl dX11_stock_34 ?_
      refine lv_bipush (v := 12) hx hb dX11_stock_37 (by decide) ?_
      refine lv_iload_n hx hb dX11_stock_39 rfl (lv_at hl 2 rfl) ?_
      refine lv_imul hx hb dX11_stock_40 ?_
      refine lv_iload_n hx hb dX11_stock_41 rfl (lv_at hl 3 rfl) ?_
      refine lv_iadd hx hb dX11_stock_42 ?_
      refine lv_iload_n hx hb dX11_stock_43 rfl (lv_at hl 4 rfl) ?_
      refine va_iast (f := M 42) hx hb hK hP hD hS 33 0 rfl rfl (ib_12 (S := 6) (ib_in (lo := 0) c1.1 (by decide)) (ib_in (lo := 0) c1.2 (by decide)) (by decide)) dX11_stock_44 (fun H locs hP hD hS => ?_)
      replace hP : va_P (dC, dI) vwCl (wM h a cI cB cZ F (va_up M 42 (upd (M 42) (((12 * p0) + p1).toNatClampNeg) p2))) H := hP
      replace hD : va_D A (wM h a cI cB cZ F (va_up M 42 (upd (M 42) (((12 * p0) + p1).toNatClampNeg) p2))) := hD
      refine lv_iload hx hb dX11_stock_45 (lv_at hl 0 rfl) ?_
      exact W.iret (v := (M 42) (((12 * p0) + p1).toNatClampNeg)) hx hb hr (fun t ht hW => ⟨⟨(M 42) (((12 * p0) + p1).toNatClampNeg), (F, va_up M 42 (upd (M 42) (((12 * p0) + p1).toNatClampNeg) p2)), rfl, by unfold s_X11_stock; rw [if_pos c1, if_pos c2], ⟨by rw [ht]; exact hP, va_K.moved hW.alike hK⟩, hD⟩, hS.F ht⟩) hS.2.2 dX11_stock_47
    · replace c2 := bo_f c2
      refine lv_iconst (v := (-1)) hx hb dX11_stock_18 (by decide) ?_
      exact W.iret (v := (-1)) hx hb hr (fun t ht hW => ⟨⟨(-1), (F, M), rfl, by unfold s_X11_stock; rw [if_pos c1, if_neg c2], ⟨by rw [ht]; exact hP, va_K.moved hW.alike hK⟩, hD⟩, hS.F ht⟩) hS.2.2 dX11_stock_19

def s_X11_copies (F : Nat → Int32) (M : Nat → Nat → Int32) (p0 : Int32) (p1 : Int32) : Int32 :=
  if (0 ≤ p0 ∧ p0 ≤ 5) ∧ (0 ≤ p1 ∧ p1 ≤ 11) then (M 42) (((12 * p0) + p1).toNatClampNeg) else
  (-1)
set_option maxHeartbeats 4000000 in
set_option maxRecDepth 100000 in
theorem c_X11_copies (l : Launch) (dC : Nat → ClassId) (dI : Nat → Nat → Nat) (h : Nat) (a : Nat → Nat) (cI cB cZ : ClassId) (F : Nat → Int32) (M : Nat → Nat → Int32) (p0 : Int32) (p1 : Int32) : Met l yX11_copies wsX11_copies ({ frames := 2, cells := 0, slots := 0, locals := 43 } : Room) (va_Pc [.ref h, .int p0, .int p1] (pM dC dI h a cI cB cZ F M)) (vp_Si (fun r => r = s_X11_copies F M p0 p1)) 0 0 (fun _ => False) := by
  refine Met.ofW (cc := cX11_copies) (maxL := 3) (ret := (some .int)) (by decide) rfl ?_
  intro p e s m args below meth c s₁ B hml hv
  obtain ⟨rfl, hP, hK⟩ := hv
  have hx := B.exec
  have hb := B.bytes
  have hr := B.returns
  have hts := atoms_spec (ws := wsX11_copies) B.pre
  have hown : s.vm.findClass RX11 = some m.cls := findClass_of_methodNamed B.named
  have hlocks := B.notSynchronized
  have hin : ∀ w ∈ wsX110, w ∈ wsX11_copies := by decide +kernel
  have hl := lv_entry ([.ref h, .int p0, .int p1]) (n := 3) (Nat.le_of_ble_eq_true rfl)
  rw [lg_entry_eq]
  generalize (lg_sl ([.ref h, .int p0, .int p1]) ++ List.replicate (3 - (lg_sl ([.ref h, .int p0, .int p1])).length) Slot.unset).toArray = ls at hl ⊢
  have hl : lv_has ls 3 [(0, .ref h), (1, .int p0), (2, .int p1)] := hl
  refine lv_iload_n hx hb dX11_copies_0 rfl (lv_at hl 1 rfl) ?_
  refine lv_iload_n hx hb dX11_copies_1 rfl (lv_at hl 2 rfl) ?_
  refine vp_callSi (W.runS (As := [.int p0, .int p1]) (rest := []) ⟨hx, hb, hml, hown, hts⟩ (c_X11_isCopy l p0 p1) (va_cwS 2 hts gX11_copies_X11_isCopy rfl rfl rfl (by decide +kernel) ⟨Nat.le_of_ble_eq_true rfl, Nat.le_of_ble_eq_true rfl⟩) ⟨fun _ _ _ _ q => q, fun U hU hW => ⟨rfl, trivial⟩⟩ rfl rfl hl.1 rfl (lv_room (Nat.le_of_ble_eq_true rfl)) dX11_copies_2 ⟨Nat.zero_le _, Nat.zero_le _⟩) (fun r hr9 => ?_)
  subst hr9
  refine lv_if_eq (tgt := 22) hx hb dX11_copies_5 (by decide) (fun c1 => ?_) (fun c1 => ?_)
  · replace c1 := bo_f c1
    refine lv_iconst (v := (-1)) hx hb dX11_copies_22 (by decide) ?_
    exact W.iret (v := (-1)) hx hb hr (fun t ht hW => ⟨(-1), rfl, by unfold s_X11_copies; rw [if_neg c1], ht⟩) (fun _ h => by cases h) dX11_copies_23
  · replace c1 := bo_t c1
    refine lv_aload_n hx hb dX11_copies_8 rfl (lv_at hl 0 rfl) ?_
    refine va_get (D := (dC, dI)) (ci := 10) (v := .ref (a 42)) (C := RX11) (T := TX11) (N := 49) hx hb hts hin hown hK hP 0 rfl rfl 42 (by decide) (hts (.fieldLink RX11 107 "SocietyBookModel" "copies" "[I") (by decide +kernel)) (fun _ h9 => h9) rfl dX11_copies_9 ?_
    refine lv_bipush (v := 12) hx hb dX11_copies_12 (by decide) ?_
    refine lv_iload_n hx hb dX11_copies_14 rfl (lv_at hl 1 rfl) ?_
    refine lv_imul hx hb dX11_copies_15 ?_
    refine lv_iload_n hx hb dX11_copies_16 rfl (lv_at hl 2 rfl) ?_
    refine lv_iadd hx hb dX11_copies_17 ?_
    refine va_iald (f := M 42) hx hb hK hP 33 0 rfl rfl (ib_12 (S := 6) (ib_in (lo := 0) c1.1 (by decide)) (ib_in (lo := 0) c1.2 (by decide)) (by decide)) dX11_copies_18 ?_
    refine lv_goto (tgt := 23) hx hb dX11_copies_19 (by decide) ?_
    exact W.iret (v := (M 42) (((12 * p0) + p1).toNatClampNeg)) hx hb hr (fun t ht hW => ⟨(M 42) (((12 * p0) + p1).toNatClampNeg), rfl, by unfold s_X11_copies; rw [if_pos c1], ht⟩) (fun _ h => by cases h) dX11_copies_23

set_option maxHeartbeats 4000000 in
set_option maxRecDepth 100000 in
theorem c_X11_isSheet (l : Launch) (p0 : Int32) : Met l yX11_isSheet wsX11_isSheet ({ frames := 1, cells := 0, slots := 0, locals := 22 } : Room) (va_Pc [.int p0] (fun _ => True)) (vp_Si (fun r => r = if 0 ≤ p0 ∧ p0 ≤ 3 then 1 else 0)) 0 0 (fun _ => False) := by
  refine Met.ofW (cc := cX11_isSheet) (maxL := 1) (ret := (some .boolean)) (by decide) rfl ?_
  intro p e s m args below meth c s₁ B hml hv
  obtain ⟨rfl, -⟩ := hv
  have hx := B.exec
  have hb := B.bytes
  have hr := B.returns
  have hts := atoms_spec (ws := wsX11_isSheet) B.pre
  have hown : s.vm.findClass RX11 = some m.cls := findClass_of_methodNamed B.named
  have hlocks := B.notSynchronized
  have hl := lv_entry ([.int p0]) (n := 1) (Nat.le_of_ble_eq_true rfl)
  rw [lg_entry_eq]
  generalize (lg_sl ([.int p0]) ++ List.replicate (1 - (lg_sl ([.int p0])).length) Slot.unset).toArray = ls at hl ⊢
  have hl : lv_has ls 1 [(0, .int p0)] := hl
  refine lv_iload_n hx hb dX11_isSheet_0 rfl (lv_at hl 0 rfl) ?_
  refine lv_iconst (v := 0) hx hb dX11_isSheet_1 (by decide) ?_
  refine lv_iconst (v := 3) hx hb dX11_isSheet_2 (by decide) ?_
  refine vp_callSi (W.runS (As := [.int p0, .int 0, .int 3]) (rest := []) ⟨hx, hb, hml, hown, hts⟩ (c_X11_in l p0 0 3) (va_cwS 3 hts gX11_isSheet_X11_in rfl rfl rfl (by decide +kernel) ⟨Nat.le_of_ble_eq_true rfl, Nat.le_of_ble_eq_true rfl⟩) ⟨fun _ _ _ _ q => q, fun U hU hW => ⟨rfl, trivial⟩⟩ rfl rfl hl.1 rfl (lv_room (Nat.le_of_ble_eq_true rfl)) dX11_isSheet_3 ⟨Nat.zero_le _, Nat.zero_le _⟩) (fun r hr9 => ?_)
  subst hr9
  exact W.zret (v := if 0 ≤ p0 ∧ p0 ≤ 3 then (1 : Int32) else 0) hx hb hr (bo_n _) (fun t ht hW => ⟨if 0 ≤ p0 ∧ p0 ≤ 3 then (1 : Int32) else 0, rfl, by rfl, ht⟩) (fun _ h => by cases h) dX11_isSheet_6

def L_sheet (F : Nat → Int32) (M : Nat → Nat → Int32) (p0 : Int32) (p1 : Int32) : Nat → (Nat → Int32)
  | 0 => M 44
  | i1 + 1 =>
    upd (L_sheet F M p0 p1 i1) (((12 * p0) + (nI i1)).toNatClampNeg) (vp_nar .byte 0)
def s_X11_sheet (F : Nat → Int32) (M : Nat → Nat → Int32) (p0 : Int32) (p1 : Int32) : Int32 × ((Nat → Int32) × (Nat → Nat → Int32)) :=
  if 0 ≤ p0 ∧ p0 ≤ 3 then (if p1 ≤ 12 then (if 0 ≤ p1 then (p1, (F, va_up (va_up M 43 (upd (M 43) p0.toNatClampNeg p1)) 44 (L_sheet F M p0 p1 12))) else
      ((s_X11_meets F M 5).1, ((s_X11_meets F M 5).2.1, (s_X11_meets F M 5).2.2))) else
    ((-1), (F, M))) else
  ((-1), (F, M))
set_option maxHeartbeats 4000000 in
set_option maxRecDepth 100000 in
theorem c_X11_sheet (l : Launch) (dC : Nat → ClassId) (dI : Nat → Nat → Nat) (h : Nat) (a : Nat → Nat) (cI cB cZ : ClassId) (F : Nat → Int32) (M : Nat → Nat → Int32) (p0 : Int32) (p1 : Int32) (A : Nat → Prop) (hD : va_D A (wM h a cI cB cZ F M)) : Met l yX11_sheet wsX11_sheet ({ frames := 2, cells := 0, slots := 0, locals := 42 } : Room) (va_Pc [.ref h, .int p0, .int p1] (pM dC dI h a cI cB cZ F M)) (va_Qi (fun r u => (r, u) = s_X11_sheet F M p0 p1) (qM A dC dI h a cI cB cZ) A) 0 0 A := by
  refine Met.ofW (cc := cX11_sheet) (maxL := 4) (ret := (some .int)) (by decide) rfl ?_
  intro p e s m args below meth c s₁ B hml hv
  obtain ⟨rfl, hP, hK⟩ := hv
  have hx := B.exec
  have hb := B.bytes
  have hr := B.returns
  have hts := atoms_spec (ws := wsX11_sheet) B.pre
  have hown : s.vm.findClass RX11 = some m.cls := findClass_of_methodNamed B.named
  have hlocks := B.notSynchronized
  have hin : ∀ w ∈ wsX110, w ∈ wsX11_sheet := by decide +kernel
  have hS : va_S A s.heap s.heap [] := va_S.rf
  have hl := lv_entry ([.ref h, .int p0, .int p1]) (n := 4) (Nat.le_of_ble_eq_true rfl)
  rw [lg_entry_eq]
  generalize (lg_sl ([.ref h, .int p0, .int p1]) ++ List.replicate (4 - (lg_sl ([.ref h, .int p0, .int p1])).length) Slot.unset).toArray = ls at hl ⊢
  have hl : lv_has ls 4 [(0, .ref h), (1, .int p0), (2, .int p1)] := hl
  refine lv_iload_n hx hb dX11_sheet_0 rfl (lv_at hl 1 rfl) ?_
  refine vp_callSi (W.runS (As := [.int p0]) (rest := []) ⟨hx, hb, hml, hown, hts⟩ (c_X11_isSheet l p0) (va_cwS 1 hts gX11_sheet_X11_isSheet rfl rfl rfl (by decide +kernel) ⟨Nat.le_of_ble_eq_true rfl, Nat.le_of_ble_eq_true rfl⟩) ⟨fun _ _ _ _ q => q, fun U hU hW => ⟨rfl, trivial⟩⟩ rfl rfl hl.1 rfl (lv_room (Nat.le_of_ble_eq_true rfl)) dX11_sheet_1 ⟨Nat.zero_le _, Nat.zero_le _⟩) (fun r hr9 => ?_)
  subst hr9
  refine lv_if_eq (tgt := 13) hx hb dX11_sheet_4 (by decide) (fun c1 => ?_) (fun c1 => ?_)
  · replace c1 := bo_f c1
    refine lv_iconst (v := (-1)) hx hb dX11_sheet_13 (by decide) ?_
    exact W.iret (v := (-1)) hx hb hr (fun t ht hW => ⟨⟨(-1), (F, M), rfl, by unfold s_X11_sheet; rw [if_neg c1], ⟨by rw [ht]; exact hP, va_K.moved hW.alike hK⟩, hD⟩, hS.F ht⟩) hS.2.2 dX11_sheet_14
  · replace c1 := bo_t c1
    refine lv_iload_n hx hb dX11_sheet_7 rfl (lv_at hl 2 rfl) ?_
    refine lv_bipush (v := 12) hx hb dX11_sheet_8 (by decide) ?_
    refine lv_icmp_le (tgt := 15) hx hb dX11_sheet_10 (by decide) (fun c2 => ?_) (fun c2 => ?_)
    · refine lv_iload_n hx hb dX11_sheet_15 rfl (lv_at hl 2 rfl) ?_
      refine lv_if_ge (tgt := 25) hx hb dX11_sheet_16 (by decide) (fun c3 => ?_) (fun c3 => ?_)
      · refine lv_aload_n hx hb dX11_sheet_25 rfl (lv_at hl 0 rfl) ?_
        refine va_get (D := (dC, dI)) (ci := 10) (v := .ref (a 43)) (C := RX11) (T := TX11) (N := 49) hx hb hts hin hown hK hP 0 rfl rfl 43 (by decide) (hts (.fieldLink RX11 110 "SocietyBookModel" "sheetSize" "[I") (by decide +kernel)) (fun _ h9 => h9) rfl dX11_sheet_26 ?_
        refine lv_iload_n hx hb dX11_sheet_29 rfl (lv_at hl 1 rfl) ?_
        refine lv_iload_n hx hb dX11_sheet_30 rfl (lv_at hl 2 rfl) ?_
        refine va_iast (f := M 43) hx hb hK hP hD hS 34 0 rfl rfl (ib_in c1 (by decide)) dX11_sheet_31 (fun H locs hP hD hS => ?_)
        replace hP : va_P (dC, dI) vwCl (wM h a cI cB cZ F (va_up M 43 (upd (M 43) p0.toNatClampNeg p1))) H := hP
        replace hD : va_D A (wM h a cI cB cZ F (va_up M 43 (upd (M 43) p0.toNatClampNeg p1))) := hD
        refine lv_iconst (v := 0) hx hb dX11_sheet_32 (by decide) ?_
        refine lv_istore_n (lv' := [(3, .int 0), (0, .ref h), (1, .int p0), (2, .int p1)]) hx hb dX11_sheet_33 rfl hl (by decide) rfl (fun ls hl => ?_)
        refine lp_forH (N := 12) (lv := fun i1 => [(3, .int (nI i1)), (0, .ref h), (1, .int p0), (2, .int p1)]) (wd := fun i1 => wM h a cI cB cZ F (va_up (va_up M 43 (upd (M 43) p0.toNatClampNeg p1)) 44 (L_sheet F M p0 p1 i1))) hP hD hS (lv_sub hl [0, 1, 2, 3] rfl) (fun i1 hi1 ls H locs hl hP hD hS kk1 => ?_) (fun ls H locs hl hP hD hS => ?_)
        · replace hl : lv_has ls 4 [(3, .int (nI i1)), (0, .ref h), (1, .int p0), (2, .int p1)] := hl
          replace hP : va_P (dC, dI) vwCl (wM h a cI cB cZ F (va_up (va_up M 43 (upd (M 43) p0.toNatClampNeg p1)) 44 (L_sheet F M p0 p1 i1))) H := hP
          replace hD : va_D A (wM h a cI cB cZ F (va_up (va_up M 43 (upd (M 43) p0.toNatClampNeg p1)) 44 (L_sheet F M p0 p1 i1))) := hD
          refine lv_iload_n hx hb dX11_sheet_34 rfl (lv_at hl 0 rfl) ?_
          refine lv_bipush (v := 12) hx hb dX11_sheet_35 (by decide) ?_
          refine lv_icmp_ge (tgt := 58) hx hb dX11_sheet_37 (by decide) (fun c => absurd c (lb_n (by decide) hi1)) (fun _ => ?_)
          refine lv_aload_n hx hb dX11_sheet_40 rfl (lv_at hl 1 rfl) ?_
          refine va_get (D := (dC, dI)) (ci := 10) (v := .ref (a 44)) (C := RX11) (T := TX11) (N := 49) hx hb hts hin hown hK hP 0 rfl rfl 44 (by decide) (hts (.fieldLink RX11 113 "SocietyBookModel" "sheets" "[B") (by decide +kernel)) (fun _ h9 => h9) rfl dX11_sheet_41 ?_
          refine lv_bipush (v := 12) hx hb dX11_sheet_44 (by decide) ?_
          refine lv_iload_n hx hb dX11_sheet_46 rfl (lv_at hl 2 rfl) ?_
          refine lv_imul hx hb dX11_sheet_47 ?_
          refine lv_iload_n hx hb dX11_sheet_48 rfl (lv_at hl 0 rfl) ?_
          refine lv_iadd hx hb dX11_sheet_49 ?_
          refine lv_iconst (v := 0) hx hb dX11_sheet_50 (by decide) ?_
          refine va_bast (f := (L_sheet F M p0 p1 i1)) hx hb hK hP hD hS 35 1 rfl rfl (ib_12 (S := 4) (ib_in c1 (by decide)) (vp_in_nI (show i1 < 12 by omega) (by decide)) (by decide)) dX11_sheet_51 (fun H locs hP hD hS => ?_)
          replace hP : va_P (dC, dI) vwCl (wM h a cI cB cZ F (va_up (va_up M 43 (upd (M 43) p0.toNatClampNeg p1)) 44 (upd (L_sheet F M p0 p1 i1) (((12 * p0) + (nI i1)).toNatClampNeg) (vp_nar .byte 0)))) H := hP
          replace hD : va_D A (wM h a cI cB cZ F (va_up (va_up M 43 (upd (M 43) p0.toNatClampNeg p1)) 44 (upd (L_sheet F M p0 p1 i1) (((12 * p0) + (nI i1)).toNatClampNeg) (vp_nar .byte 0)))) := hD
          refine lv_iinc (v := nI (i1 + 1)) (lv' := [(3, .int (nI (i1 + 1))), (0, .ref h), (1, .int p0), (2, .int p1)]) hx hb dX11_sheet_52 hl (k := 0) rfl (nI_1 i1) (by decide) rfl (fun ls hl => ?_)
          refine lv_goto (tgt := 34) hx hb dX11_sheet_55 (by decide) ?_
          have e9 : L_sheet F M p0 p1 (i1 + 1) = upd (L_sheet F M p0 p1 i1) (((12 * p0) + (nI i1)).toNatClampNeg) (vp_nar .byte 0) := by rw [L_sheet]
          refine kk1 ls H locs (show lv_has ls 4 [(3, .int (nI (i1 + 1))), (0, .ref h), (1, .int p0), (2, .int p1)] from ?_) (show va_P (dC, dI) vwCl (wM h a cI cB cZ F (va_up (va_up M 43 (upd (M 43) p0.toNatClampNeg p1)) 44 (L_sheet F M p0 p1 (i1 + 1)))) H from ?_) (show va_D A (wM h a cI cB cZ F (va_up (va_up M 43 (upd (M 43) p0.toNatClampNeg p1)) 44 (L_sheet F M p0 p1 (i1 + 1)))) from ?_) hS
          · exact lv_sub hl [0, 1, 2, 3] rfl
          · rw [e9]; exact hP
          · rw [e9]; exact hD
        · replace hl : lv_has ls 4 [(3, .int (nI 12)), (0, .ref h), (1, .int p0), (2, .int p1)] := hl
          replace hP : va_P (dC, dI) vwCl (wM h a cI cB cZ F (va_up (va_up M 43 (upd (M 43) p0.toNatClampNeg p1)) 44 (L_sheet F M p0 p1 12))) H := hP
          replace hD : va_D A (wM h a cI cB cZ F (va_up (va_up M 43 (upd (M 43) p0.toNatClampNeg p1)) 44 (L_sheet F M p0 p1 12))) := hD
          refine lv_iload_n hx hb dX11_sheet_34 rfl (lv_at hl 0 rfl) ?_
          refine lv_bipush (v := 12) hx hb dX11_sheet_35 (by decide) ?_
          refine lv_icmp_ge (tgt := 58) hx hb dX11_sheet_37 (by decide) (fun _ => ?_) (fun c => absurd (lb_y (by decide)) c)
          refine lv_iload_n hx hb dX11_sheet_58 rfl (lv_at hl 3 rfl) ?_
          exact W.iret (v := p1) hx hb hr (fun t ht hW => ⟨⟨p1, (F, va_up (va_up M 43 (upd (M 43) p0.toNatClampNeg p1)) 44 (L_sheet F M p0 p1 12)), rfl, by unfold s_X11_sheet; rw [if_pos c1, if_pos c2, if_pos c3], ⟨by rw [ht]; exact hP, va_K.moved hW.alike hK⟩, hD⟩, hS.F ht⟩) hS.2.2 dX11_sheet_59
      · refine lv_aload_n hx hb dX11_sheet_19 rfl (lv_at hl 0 rfl) ?_
        refine lv_iconst (v := 5) hx hb dX11_sheet_20 (by decide) ?_
        refine va_calli (va_runV (As := [.int 5]) (rest := []) ⟨hx, hb, hml, hown, hts⟩ (c_X11_meets l dC dI h a cI cB cZ F M 5 A hD (ib_lit (by decide))) (cwV 1 hts gX11_sheet_X11_meets rfl rfl rfl (by decide +kernel) ⟨Nat.le_of_ble_eq_true rfl, Nat.le_of_ble_eq_true rfl⟩) ⟨pm_blind, va_recv hK hP (ci := 10) (q0 := 0) rfl rfl, fun U hU hW => ⟨rfl, by rw [hU]; exact hP, va_K.moved hW.alike hK⟩⟩ rfl rfl hl.1 rfl (lv_room (Nat.le_of_ble_eq_true rfl)) dX11_sheet_21 ⟨Nat.zero_le _, Nat.zero_le _⟩) hS (fun q _ h => h) (fun q h => h) (fun r u t H1 locs ht hvm hw hB hz1 hk1 hS => ?_)
        obtain ⟨hr9, hu9⟩ : r = (s_X11_meets F M 5).1 ∧ u = (s_X11_meets F M 5).2 := ⟨congrArg Prod.fst hw, congrArg Prod.snd hw⟩
        subst hr9; subst hu9
        obtain ⟨⟨hP, -⟩, hD⟩ := hB
        rw [ht] at hP
        clear hw hz1 hk1 ht hvm; generalize H1 = H at hP hS ⊢
        exact W.iret (v := (s_X11_meets F M 5).1) hx hb hr (fun t ht hW => ⟨⟨(s_X11_meets F M 5).1, ((s_X11_meets F M 5).2.1, (s_X11_meets F M 5).2.2), rfl, by unfold s_X11_sheet; rw [if_pos c1, if_pos c2, if_neg c3], ⟨by rw [ht]; exact hP, va_K.moved hW.alike hK⟩, hD⟩, hS.F ht⟩) hS.2.2 dX11_sheet_24
    · refine lv_iconst (v := (-1)) hx hb dX11_sheet_13 (by decide) ?_
      exact W.iret (v := (-1)) hx hb hr (fun t ht hW => ⟨⟨(-1), (F, M), rfl, by unfold s_X11_sheet; rw [if_pos c1, if_neg c2], ⟨by rw [ht]; exact hP, va_K.moved hW.alike hK⟩, hD⟩, hS.F ht⟩) hS.2.2 dX11_sheet_14

def s_X11_lay (F : Nat → Int32) (M : Nat → Nat → Int32) (p0 : Int32) (p1 : Int32) (p2 : Int32) : Int32 × ((Nat → Int32) × (Nat → Nat → Int32)) :=
  if 0 ≤ p0 ∧ p0 ≤ 3 then (if 0 ≤ ((M 43) p0.toNatClampNeg) then (if 0 ≤ p1 ∧ p1 ≤ (((M 43) p0.toNatClampNeg) - 1) then (1000 + ((M 44) (((12 * p0) + p1).toNatClampNeg)), (F, va_up M 44 (upd (M 44) (((12 * p0) + p1).toNatClampNeg) (vp_nar .byte p2.toInt8.toInt32)))) else
      ((s_X11_meets F M 2).1, ((s_X11_meets F M 2).2.1, (s_X11_meets F M 2).2.2))) else
    ((s_X11_meets F M 1).1, ((s_X11_meets F M 1).2.1, (s_X11_meets F M 1).2.2))) else
  ((-1), (F, M))
set_option maxHeartbeats 4000000 in
set_option maxRecDepth 100000 in
theorem c_X11_lay (l : Launch) (dC : Nat → ClassId) (dI : Nat → Nat → Nat) (h : Nat) (a : Nat → Nat) (cI cB cZ : ClassId) (F : Nat → Int32) (M : Nat → Nat → Int32) (p0 : Int32) (p1 : Int32) (p2 : Int32) (A : Nat → Prop) (hD : va_D A (wM h a cI cB cZ F M)) (hI : iv F M) : Met l yX11_lay wsX11_lay ({ frames := 2, cells := 0, slots := 0, locals := 42 } : Room) (va_Pc [.ref h, .int p0, .int p1, .int p2] (pM dC dI h a cI cB cZ F M)) (va_Qi (fun r u => (r, u) = s_X11_lay F M p0 p1 p2) (qM A dC dI h a cI cB cZ) A) 0 0 A := by
  refine Met.ofW (cc := cX11_lay) (maxL := 5) (ret := (some .int)) (by decide) rfl ?_
  intro p e s m args below meth c s₁ B hml hv
  obtain ⟨rfl, hP, hK⟩ := hv
  have hx := B.exec
  have hb := B.bytes
  have hr := B.returns
  have hts := atoms_spec (ws := wsX11_lay) B.pre
  have hown : s.vm.findClass RX11 = some m.cls := findClass_of_methodNamed B.named
  have hlocks := B.notSynchronized
  have hin : ∀ w ∈ wsX110, w ∈ wsX11_lay := by decide +kernel
  have hS : va_S A s.heap s.heap [] := va_S.rf
  have hl := lv_entry ([.ref h, .int p0, .int p1, .int p2]) (n := 5) (Nat.le_of_ble_eq_true rfl)
  rw [lg_entry_eq]
  generalize (lg_sl ([.ref h, .int p0, .int p1, .int p2]) ++ List.replicate (5 - (lg_sl ([.ref h, .int p0, .int p1, .int p2])).length) Slot.unset).toArray = ls at hl ⊢
  have hl : lv_has ls 5 [(0, .ref h), (1, .int p0), (2, .int p1), (3, .int p2)] := hl
  refine lv_iload_n hx hb dX11_lay_0 rfl (lv_at hl 1 rfl) ?_
  refine vp_callSi (W.runS (As := [.int p0]) (rest := []) ⟨hx, hb, hml, hown, hts⟩ (c_X11_isSheet l p0) (va_cwS 1 hts gX11_lay_X11_isSheet rfl rfl rfl (by decide +kernel) ⟨Nat.le_of_ble_eq_true rfl, Nat.le_of_ble_eq_true rfl⟩) ⟨fun _ _ _ _ q => q, fun U hU hW => ⟨rfl, trivial⟩⟩ rfl rfl hl.1 rfl (lv_room (Nat.le_of_ble_eq_true rfl)) dX11_lay_1 ⟨Nat.zero_le _, Nat.zero_le _⟩) (fun r hr9 => ?_)
  subst hr9
  refine lv_if_ne (tgt := 9) hx hb dX11_lay_4 (by decide) (fun c1 => ?_) (fun c1 => ?_)
  · replace c1 := bo_t c1
    refine lv_aload_n hx hb dX11_lay_9 rfl (lv_at hl 0 rfl) ?_
    refine va_get (D := (dC, dI)) (ci := 10) (v := .ref (a 43)) (C := RX11) (T := TX11) (N := 49) hx hb hts hin hown hK hP 0 rfl rfl 43 (by decide) (hts (.fieldLink RX11 110 "SocietyBookModel" "sheetSize" "[I") (by decide +kernel)) (fun _ h9 => h9) rfl dX11_lay_10 ?_
    refine lv_iload_n hx hb dX11_lay_13 rfl (lv_at hl 1 rfl) ?_
    refine va_iald (f := M 43) hx hb hK hP 34 0 rfl rfl (ib_in c1 (by decide)) dX11_lay_14 ?_
    refine lv_if_ge (tgt := 24) hx hb dX11_lay_15 (by decide) (fun c2 => ?_) (fun c2 => ?_)
    · refine lv_iload_n hx hb dX11_lay_24 rfl (lv_at hl 2 rfl) ?_
      refine lv_iconst (v := 0) hx hb dX11_lay_25 (by decide) ?_
      refine lv_aload_n hx hb dX11_lay_26 rfl (lv_at hl 0 rfl) ?_
      refine va_get (D := (dC, dI)) (ci := 10) (v := .ref (a 43)) (C := RX11) (T := TX11) (N := 49) hx hb hts hin hown hK hP 0 rfl rfl 43 (by decide) (hts (.fieldLink RX11 110 "SocietyBookModel" "sheetSize" "[I") (by decide +kernel)) (fun _ h9 => h9) rfl dX11_lay_27 ?_
      refine lv_iload_n hx hb dX11_lay_30 rfl (lv_at hl 1 rfl) ?_
      refine va_iald (f := M 43) hx hb hK hP 34 0 rfl rfl (ib_in c1 (by decide)) dX11_lay_31 ?_
      refine lv_iconst (v := 1) hx hb dX11_lay_32 (by decide) ?_
      refine lv_isub hx hb dX11_lay_33 ?_
      refine vp_callSi (W.runS (As := [.int p1, .int 0, .int (((M 43) p0.toNatClampNeg) - 1)]) (rest := []) ⟨hx, hb, hml, hown, hts⟩ (c_X11_in l p1 0 (((M 43) p0.toNatClampNeg) - 1)) (va_cwS 3 hts gX11_lay_X11_in rfl rfl rfl (by decide +kernel) ⟨Nat.le_of_ble_eq_true rfl, Nat.le_of_ble_eq_true rfl⟩) ⟨fun _ _ _ _ q => q, fun U hU hW => ⟨rfl, trivial⟩⟩ rfl rfl hl.1 rfl (lv_room (Nat.le_of_ble_eq_true rfl)) dX11_lay_34 ⟨Nat.zero_le _, Nat.zero_le _⟩) (fun r hr9 => ?_)
      subst hr9
      refine lv_if_ne (tgt := 46) hx hb dX11_lay_37 (by decide) (fun c3 => ?_) (fun c3 => ?_)
      · replace c3 := bo_t c3
        refine lv_aload_n hx hb dX11_lay_46 rfl (lv_at hl 0 rfl) ?_
        refine va_get (D := (dC, dI)) (ci := 10) (v := .ref (a 44)) (C := RX11) (T := TX11) (N := 49) hx hb hts hin hown hK hP 0 rfl rfl 44 (by decide) (hts (.fieldLink RX11 113 "SocietyBookModel" "sheets" "[B") (by decide +kernel)) (fun _ h9 => h9) rfl dX11_lay_47 ?_
        refine lv_bipush (v := 12) hx hb dX11_lay_50 (by decide) ?_
        refine lv_iload_n hx hb dX11_lay_52 rfl (lv_at hl 1 rfl) ?_
        refine lv_imul hx hb dX11_lay_53 ?_
        refine lv_iload_n hx hb dX11_lay_54 rfl (lv_at hl 2 rfl) ?_
        refine lv_iadd hx hb dX11_lay_55 ?_
        refine va_bald (f := M 44) hx hb hK hP 35 1 rfl rfl (ib_12 (S := 4) (ib_in c1 (by decide)) (ib_sz hI (ib_in c1 (by decide)) c3) (by decide)) dX11_lay_56 ?_
        refine lv_istore (lv' := [(4, .int ((M 44) (((12 * p0) + p1).toNatClampNeg))), (0, .ref h), (1, .int p0), (2, .int p1), (3, .int p2)]) hx hb dX11_lay_57 hl (by decide) rfl (fun ls hl => ?_)
        refine lv_aload_n hx hb dX11_lay_59 rfl (lv_at hl 1 rfl) ?_
        refine va_get (D := (dC, dI)) (ci := 10) (v := .ref (a 44)) (C := RX11) (T := TX11) (N := 49) hx hb hts hin hown hK hP 0 rfl rfl 44 (by decide) (hts (.fieldLink RX11 113 "SocietyBookModel" "sheets" "[B") (by decide +kernel)) (fun _ h9 => h9) rfl dX11_lay_60 ?_
        refine lv_bipush (v := 12) hx hb dX11_lay_63 (by decide) ?_
        refine lv_iload_n hx hb dX11_lay_65 rfl (lv_at hl 2 rfl) ?_
        refine lv_imul hx hb dX11_lay_66 ?_
        refine lv_iload_n hx hb dX11_lay_67 rfl (lv_at hl 3 rfl) ?_
        refine lv_iadd hx hb dX11_lay_68 ?_
        refine lv_iload_n hx hb dX11_lay_69 rfl (lv_at hl 4 rfl) ?_
        refine lv_i2b hx hb dX11_lay_70 (v := p2.toInt8.toInt32) rfl ?_
        refine va_bast (f := M 44) hx hb hK hP hD hS 35 1 rfl rfl (ib_12 (S := 4) (ib_in c1 (by decide)) (ib_sz hI (ib_in c1 (by decide)) c3) (by decide)) dX11_lay_71 (fun H locs hP hD hS => ?_)
        replace hP : va_P (dC, dI) vwCl (wM h a cI cB cZ F (va_up M 44 (upd (M 44) (((12 * p0) + p1).toNatClampNeg) (vp_nar .byte p2.toInt8.toInt32)))) H := hP
        replace hD : va_D A (wM h a cI cB cZ F (va_up M 44 (upd (M 44) (((12 * p0) + p1).toNatClampNeg) (vp_nar .byte p2.toInt8.toInt32)))) := hD
        refine lv_sipush (v := 1000) hx hb dX11_lay_72 (by decide) ?_
        refine lv_iload hx hb dX11_lay_75 (lv_at hl 0 rfl) ?_
        refine lv_iadd hx hb dX11_lay_77 ?_
        exact W.iret (v := 1000 + ((M 44) (((12 * p0) + p1).toNatClampNeg))) hx hb hr (fun t ht hW => ⟨⟨1000 + ((M 44) (((12 * p0) + p1).toNatClampNeg)), (F, va_up M 44 (upd (M 44) (((12 * p0) + p1).toNatClampNeg) (vp_nar .byte p2.toInt8.toInt32))), rfl, by unfold s_X11_lay; rw [if_pos c1, if_pos c2, if_pos c3], ⟨by rw [ht]; exact hP, va_K.moved hW.alike hK⟩, hD⟩, hS.F ht⟩) hS.2.2 dX11_lay_78
      · replace c3 := bo_f c3
        refine lv_aload_n hx hb dX11_lay_40 rfl (lv_at hl 0 rfl) ?_
        refine lv_iconst (v := 2) hx hb dX11_lay_41 (by decide) ?_
        refine va_calli (va_runV (As := [.int 2]) (rest := []) ⟨hx, hb, hml, hown, hts⟩ (c_X11_meets l dC dI h a cI cB cZ F M 2 A hD (ib_lit (by decide))) (cwV 1 hts gX11_lay_X11_meets rfl rfl rfl (by decide +kernel) ⟨Nat.le_of_ble_eq_true rfl, Nat.le_of_ble_eq_true rfl⟩) ⟨pm_blind, va_recv hK hP (ci := 10) (q0 := 0) rfl rfl, fun U hU hW => ⟨rfl, by rw [hU]; exact hP, va_K.moved hW.alike hK⟩⟩ rfl rfl hl.1 rfl (lv_room (Nat.le_of_ble_eq_true rfl)) dX11_lay_42 ⟨Nat.zero_le _, Nat.zero_le _⟩) hS (fun q _ h => h) (fun q h => h) (fun r u t H1 locs ht hvm hw hB hz1 hk1 hS => ?_)
        obtain ⟨hr9, hu9⟩ : r = (s_X11_meets F M 2).1 ∧ u = (s_X11_meets F M 2).2 := ⟨congrArg Prod.fst hw, congrArg Prod.snd hw⟩
        subst hr9; subst hu9
        obtain ⟨⟨hP, -⟩, hD⟩ := hB
        rw [ht] at hP
        clear hw hz1 hk1 ht hvm; generalize H1 = H at hP hS ⊢
        exact W.iret (v := (s_X11_meets F M 2).1) hx hb hr (fun t ht hW => ⟨⟨(s_X11_meets F M 2).1, ((s_X11_meets F M 2).2.1, (s_X11_meets F M 2).2.2), rfl, by unfold s_X11_lay; rw [if_pos c1, if_pos c2, if_neg c3], ⟨by rw [ht]; exact hP, va_K.moved hW.alike hK⟩, hD⟩, hS.F ht⟩) hS.2.2 dX11_lay_45
    · refine lv_aload_n hx hb dX11_lay_18 rfl (lv_at hl 0 rfl) ?_
      refine lv_iconst (v := 1) hx hb dX11_lay_19 (by decide) ?_
      refine va_calli (va_runV (As := [.int 1]) (rest := []) ⟨hx, hb, hml, hown, hts⟩ (c_X11_meets l dC dI h a cI cB cZ F M 1 A hD (ib_lit (by decide))) (cwV 1 hts gX11_lay_X11_meets rfl rfl rfl (by decide +kernel) ⟨Nat.le_of_ble_eq_true rfl, Nat.le_of_ble_eq_true rfl⟩) ⟨pm_blind, va_recv hK hP (ci := 10) (q0 := 0) rfl rfl, fun U hU hW => ⟨rfl, by rw [hU]; exact hP, va_K.moved hW.alike hK⟩⟩ rfl rfl hl.1 rfl (lv_room (Nat.le_of_ble_eq_true rfl)) dX11_lay_20 ⟨Nat.zero_le _, Nat.zero_le _⟩) hS (fun q _ h => h) (fun q h => h) (fun r u t H1 locs ht hvm hw hB hz1 hk1 hS => ?_)
      obtain ⟨hr9, hu9⟩ : r = (s_X11_meets F M 1).1 ∧ u = (s_X11_meets F M 1).2 := ⟨congrArg Prod.fst hw, congrArg Prod.snd hw⟩
      subst hr9; subst hu9
      obtain ⟨⟨hP, -⟩, hD⟩ := hB
      rw [ht] at hP
      clear hw hz1 hk1 ht hvm; generalize H1 = H at hP hS ⊢
      exact W.iret (v := (s_X11_meets F M 1).1) hx hb hr (fun t ht hW => ⟨⟨(s_X11_meets F M 1).1, ((s_X11_meets F M 1).2.1, (s_X11_meets F M 1).2.2), rfl, by unfold s_X11_lay; rw [if_pos c1, if_neg c2], ⟨by rw [ht]; exact hP, va_K.moved hW.alike hK⟩, hD⟩, hS.F ht⟩) hS.2.2 dX11_lay_23
  · replace c1 := bo_f c1
    refine lv_iconst (v := (-1)) hx hb dX11_lay_7 (by decide) ?_
    exact W.iret (v := (-1)) hx hb hr (fun t ht hW => ⟨⟨(-1), (F, M), rfl, by unfold s_X11_lay; rw [if_neg c1], ⟨by rw [ht]; exact hP, va_K.moved hW.alike hK⟩, hD⟩, hS.F ht⟩) hS.2.2 dX11_lay_8

def s_X11_tear (F : Nat → Int32) (M : Nat → Nat → Int32) (p0 : Int32) : Int32 × ((Nat → Int32) × (Nat → Nat → Int32)) :=
  if 0 ≤ p0 ∧ p0 ≤ 3 then (if 0 ≤ ((M 43) p0.toNatClampNeg) then (1, (F, va_up M 43 (upd (M 43) p0.toNatClampNeg (-1)))) else
    ((s_X11_meets F M 1).1, ((s_X11_meets F M 1).2.1, (s_X11_meets F M 1).2.2))) else
  ((-1), (F, M))
set_option maxHeartbeats 4000000 in
set_option maxRecDepth 100000 in
theorem c_X11_tear (l : Launch) (dC : Nat → ClassId) (dI : Nat → Nat → Nat) (h : Nat) (a : Nat → Nat) (cI cB cZ : ClassId) (F : Nat → Int32) (M : Nat → Nat → Int32) (p0 : Int32) (A : Nat → Prop) (hD : va_D A (wM h a cI cB cZ F M)) : Met l yX11_tear wsX11_tear ({ frames := 2, cells := 0, slots := 0, locals := 42 } : Room) (va_Pc [.ref h, .int p0] (pM dC dI h a cI cB cZ F M)) (va_Qi (fun r u => (r, u) = s_X11_tear F M p0) (qM A dC dI h a cI cB cZ) A) 0 0 A := by
  refine Met.ofW (cc := cX11_tear) (maxL := 2) (ret := (some .int)) (by decide) rfl ?_
  intro p e s m args below meth c s₁ B hml hv
  obtain ⟨rfl, hP, hK⟩ := hv
  have hx := B.exec
  have hb := B.bytes
  have hr := B.returns
  have hts := atoms_spec (ws := wsX11_tear) B.pre
  have hown : s.vm.findClass RX11 = some m.cls := findClass_of_methodNamed B.named
  have hlocks := B.notSynchronized
  have hin : ∀ w ∈ wsX110, w ∈ wsX11_tear := by decide +kernel
  have hS : va_S A s.heap s.heap [] := va_S.rf
  have hl := lv_entry ([.ref h, .int p0]) (n := 2) (Nat.le_of_ble_eq_true rfl)
  rw [lg_entry_eq]
  generalize (lg_sl ([.ref h, .int p0]) ++ List.replicate (2 - (lg_sl ([.ref h, .int p0])).length) Slot.unset).toArray = ls at hl ⊢
  have hl : lv_has ls 2 [(0, .ref h), (1, .int p0)] := hl
  refine lv_iload_n hx hb dX11_tear_0 rfl (lv_at hl 1 rfl) ?_
  refine vp_callSi (W.runS (As := [.int p0]) (rest := []) ⟨hx, hb, hml, hown, hts⟩ (c_X11_isSheet l p0) (va_cwS 1 hts gX11_tear_X11_isSheet rfl rfl rfl (by decide +kernel) ⟨Nat.le_of_ble_eq_true rfl, Nat.le_of_ble_eq_true rfl⟩) ⟨fun _ _ _ _ q => q, fun U hU hW => ⟨rfl, trivial⟩⟩ rfl rfl hl.1 rfl (lv_room (Nat.le_of_ble_eq_true rfl)) dX11_tear_1 ⟨Nat.zero_le _, Nat.zero_le _⟩) (fun r hr9 => ?_)
  subst hr9
  refine lv_if_ne (tgt := 9) hx hb dX11_tear_4 (by decide) (fun c1 => ?_) (fun c1 => ?_)
  · replace c1 := bo_t c1
    refine lv_aload_n hx hb dX11_tear_9 rfl (lv_at hl 0 rfl) ?_
    refine va_get (D := (dC, dI)) (ci := 10) (v := .ref (a 43)) (C := RX11) (T := TX11) (N := 49) hx hb hts hin hown hK hP 0 rfl rfl 43 (by decide) (hts (.fieldLink RX11 110 "SocietyBookModel" "sheetSize" "[I") (by decide +kernel)) (fun _ h9 => h9) rfl dX11_tear_10 ?_
    refine lv_iload_n hx hb dX11_tear_13 rfl (lv_at hl 1 rfl) ?_
    refine va_iald (f := M 43) hx hb hK hP 34 0 rfl rfl (ib_in c1 (by decide)) dX11_tear_14 ?_
    refine lv_if_ge (tgt := 24) hx hb dX11_tear_15 (by decide) (fun c2 => ?_) (fun c2 => ?_)
    · refine lv_aload_n hx hb dX11_tear_24 rfl (lv_at hl 0 rfl) ?_
      refine va_get (D := (dC, dI)) (ci := 10) (v := .ref (a 43)) (C := RX11) (T := TX11) (N := 49) hx hb hts hin hown hK hP 0 rfl rfl 43 (by decide) (hts (.fieldLink RX11 110 "SocietyBookModel" "sheetSize" "[I") (by decide +kernel)) (fun _ h9 => h9) rfl dX11_tear_25 ?_
      refine lv_iload_n hx hb dX11_tear_28 rfl (lv_at hl 1 rfl) ?_
      refine lv_iconst (v := (-1)) hx hb dX11_tear_29 (by decide) ?_
      refine va_iast (f := M 43) hx hb hK hP hD hS 34 0 rfl rfl (ib_in c1 (by decide)) dX11_tear_30 (fun H locs hP hD hS => ?_)
      replace hP : va_P (dC, dI) vwCl (wM h a cI cB cZ F (va_up M 43 (upd (M 43) p0.toNatClampNeg (-1)))) H := hP
      replace hD : va_D A (wM h a cI cB cZ F (va_up M 43 (upd (M 43) p0.toNatClampNeg (-1)))) := hD
      refine lv_iconst (v := 1) hx hb dX11_tear_31 (by decide) ?_
      exact W.iret (v := 1) hx hb hr (fun t ht hW => ⟨⟨1, (F, va_up M 43 (upd (M 43) p0.toNatClampNeg (-1))), rfl, by unfold s_X11_tear; rw [if_pos c1, if_pos c2], ⟨by rw [ht]; exact hP, va_K.moved hW.alike hK⟩, hD⟩, hS.F ht⟩) hS.2.2 dX11_tear_32
    · refine lv_aload_n hx hb dX11_tear_18 rfl (lv_at hl 0 rfl) ?_
      refine lv_iconst (v := 1) hx hb dX11_tear_19 (by decide) ?_
      refine va_calli (va_runV (As := [.int 1]) (rest := []) ⟨hx, hb, hml, hown, hts⟩ (c_X11_meets l dC dI h a cI cB cZ F M 1 A hD (ib_lit (by decide))) (cwV 1 hts gX11_tear_X11_meets rfl rfl rfl (by decide +kernel) ⟨Nat.le_of_ble_eq_true rfl, Nat.le_of_ble_eq_true rfl⟩) ⟨pm_blind, va_recv hK hP (ci := 10) (q0 := 0) rfl rfl, fun U hU hW => ⟨rfl, by rw [hU]; exact hP, va_K.moved hW.alike hK⟩⟩ rfl rfl hl.1 rfl (lv_room (Nat.le_of_ble_eq_true rfl)) dX11_tear_20 ⟨Nat.zero_le _, Nat.zero_le _⟩) hS (fun q _ h => h) (fun q h => h) (fun r u t H1 locs ht hvm hw hB hz1 hk1 hS => ?_)
      obtain ⟨hr9, hu9⟩ : r = (s_X11_meets F M 1).1 ∧ u = (s_X11_meets F M 1).2 := ⟨congrArg Prod.fst hw, congrArg Prod.snd hw⟩
      subst hr9; subst hu9
      obtain ⟨⟨hP, -⟩, hD⟩ := hB
      rw [ht] at hP
      clear hw hz1 hk1 ht hvm; generalize H1 = H at hP hS ⊢
      exact W.iret (v := (s_X11_meets F M 1).1) hx hb hr (fun t ht hW => ⟨⟨(s_X11_meets F M 1).1, ((s_X11_meets F M 1).2.1, (s_X11_meets F M 1).2.2), rfl, by unfold s_X11_tear; rw [if_pos c1, if_neg c2], ⟨by rw [ht]; exact hP, va_K.moved hW.alike hK⟩, hD⟩, hS.F ht⟩) hS.2.2 dX11_tear_23
  · replace c1 := bo_f c1
    refine lv_iconst (v := (-1)) hx hb dX11_tear_7 (by decide) ?_
    exact W.iret (v := (-1)) hx hb hr (fun t ht hW => ⟨⟨(-1), (F, M), rfl, by unfold s_X11_tear; rw [if_neg c1], ⟨by rw [ht]; exact hP, va_K.moved hW.alike hK⟩, hD⟩, hS.F ht⟩) hS.2.2 dX11_tear_8

def L_copy1 (F : Nat → Int32) (M : Nat → Nat → Int32) (p0 : Int32) (p1 : Int32) (p2 : Int32) (p3 : Int32) (p4 : Int32) : Nat → (Nat → Int32)
  | 0 => M 45
  | i1 + 1 =>
    upd (L_copy1 F M p0 p1 p2 p3 p4 i1) i1 (vp_nar .byte ((M 44) ((((12 * p0) + p1) + (nI i1)).toNatClampNeg)))
def L_copy2 (F : Nat → Int32) (M : Nat → Nat → Int32) (p0 : Int32) (p1 : Int32) (p2 : Int32) (p3 : Int32) (p4 : Int32) : Nat → (Nat → Int32)
  | 0 => M 44
  | i1 + 1 =>
    upd (L_copy2 F M p0 p1 p2 p3 p4 i1) ((((12 * p2) + p3) + (nI i1)).toNatClampNeg) (vp_nar .byte ((L_copy1 F M p0 p1 p2 p3 p4 p4.toNatClampNeg) i1))
def s_X11_copy (F : Nat → Int32) (M : Nat → Nat → Int32) (p0 : Int32) (p1 : Int32) (p2 : Int32) (p3 : Int32) (p4 : Int32) : Int32 × ((Nat → Int32) × (Nat → Nat → Int32)) :=
  if 0 ≤ p0 ∧ p0 ≤ 3 then (if 0 ≤ p2 ∧ p2 ≤ 3 then (if ((M 43) p0.toNatClampNeg) < 0 then ((s_X11_meets F M 1).1, ((s_X11_meets F M 1).2.1, (s_X11_meets F M 1).2.2)) else
      if 0 ≤ ((M 43) p2.toNatClampNeg) then (if p1 < 0 then ((s_X11_meets F M 2).1, ((s_X11_meets F M 2).2.1, (s_X11_meets F M 2).2.2)) else
        if p3 < 0 then ((s_X11_meets F M 2).1, ((s_X11_meets F M 2).2.1, (s_X11_meets F M 2).2.2)) else
        if p4 < 0 then ((s_X11_meets F M 2).1, ((s_X11_meets F M 2).2.1, (s_X11_meets F M 2).2.2)) else
        if 0 < (lg_cmp (p1.toInt64 + p4.toInt64) (((M 43) p0.toNatClampNeg).toInt64)) then ((s_X11_meets F M 2).1, ((s_X11_meets F M 2).2.1, (s_X11_meets F M 2).2.2)) else
        if (lg_cmp (p3.toInt64 + p4.toInt64) (((M 43) p2.toNatClampNeg).toInt64)) ≤ 0 then (1, (F, va_up (va_up M 45 (L_copy1 F M p0 p1 p2 p3 p4 p4.toNatClampNeg)) 44 (L_copy2 F M p0 p1 p2 p3 p4 p4.toNatClampNeg))) else
        ((s_X11_meets F M 2).1, ((s_X11_meets F M 2).2.1, (s_X11_meets F M 2).2.2))) else
      ((s_X11_meets F M 1).1, ((s_X11_meets F M 1).2.1, (s_X11_meets F M 1).2.2))) else
    ((-1), (F, M))) else
  ((-1), (F, M))
set_option maxHeartbeats 4000000 in
set_option maxRecDepth 100000 in
theorem c_X11_copy (l : Launch) (dC : Nat → ClassId) (dI : Nat → Nat → Nat) (h : Nat) (a : Nat → Nat) (cI cB cZ : ClassId) (F : Nat → Int32) (M : Nat → Nat → Int32) (p0 : Int32) (p1 : Int32) (p2 : Int32) (p3 : Int32) (p4 : Int32) (A : Nat → Prop) (hD : va_D A (wM h a cI cB cZ F M)) (hI : iv F M) : Met l yX11_copy wsX11_copy ({ frames := 2, cells := 0, slots := 0, locals := 42 } : Room) (va_Pc [.ref h, .int p0, .int p1, .int p2, .int p3, .int p4] (pM dC dI h a cI cB cZ F M)) (va_Qi (fun r u => (r, u) = s_X11_copy F M p0 p1 p2 p3 p4) (qM A dC dI h a cI cB cZ) A) 0 0 A := by
  refine Met.ofW (cc := cX11_copy) (maxL := 7) (ret := (some .int)) (by decide) rfl ?_
  intro p e s m args below meth c s₁ B hml hv
  obtain ⟨rfl, hP, hK⟩ := hv
  have hx := B.exec
  have hb := B.bytes
  have hr := B.returns
  have hts := atoms_spec (ws := wsX11_copy) B.pre
  have hown : s.vm.findClass RX11 = some m.cls := findClass_of_methodNamed B.named
  have hlocks := B.notSynchronized
  have hin : ∀ w ∈ wsX110, w ∈ wsX11_copy := by decide +kernel
  have hS : va_S A s.heap s.heap [] := va_S.rf
  have hl := lv_entry ([.ref h, .int p0, .int p1, .int p2, .int p3, .int p4]) (n := 7) (Nat.le_of_ble_eq_true rfl)
  rw [lg_entry_eq]
  generalize (lg_sl ([.ref h, .int p0, .int p1, .int p2, .int p3, .int p4]) ++ List.replicate (7 - (lg_sl ([.ref h, .int p0, .int p1, .int p2, .int p3, .int p4])).length) Slot.unset).toArray = ls at hl ⊢
  have hl : lv_has ls 7 [(0, .ref h), (1, .int p0), (2, .int p1), (3, .int p2), (4, .int p3), (5, .int p4)] := hl
  have hcl : p4.toNatClampNeg < 2 ^ 31 := ib_c31 p4
  refine lv_iload_n hx hb dX11_copy_0 rfl (lv_at hl 1 rfl) ?_
  refine vp_callSi (W.runS (As := [.int p0]) (rest := []) ⟨hx, hb, hml, hown, hts⟩ (c_X11_isSheet l p0) (va_cwS 1 hts gX11_copy_X11_isSheet rfl rfl rfl (by decide +kernel) ⟨Nat.le_of_ble_eq_true rfl, Nat.le_of_ble_eq_true rfl⟩) ⟨fun _ _ _ _ q => q, fun U hU hW => ⟨rfl, trivial⟩⟩ rfl rfl hl.1 rfl (lv_room (Nat.le_of_ble_eq_true rfl)) dX11_copy_1 ⟨Nat.zero_le _, Nat.zero_le _⟩) (fun r hr9 => ?_)
  subst hr9
  refine lv_if_eq (tgt := 14) hx hb dX11_copy_4 (by decide) (fun c1 => ?_) (fun c1 => ?_)
  · replace c1 := bo_f c1
    refine lv_iconst (v := (-1)) hx hb dX11_copy_14 (by decide) ?_
    exact W.iret (v := (-1)) hx hb hr (fun t ht hW => ⟨⟨(-1), (F, M), rfl, by unfold s_X11_copy; rw [if_neg c1], ⟨by rw [ht]; exact hP, va_K.moved hW.alike hK⟩, hD⟩, hS.F ht⟩) hS.2.2 dX11_copy_15
  · replace c1 := bo_t c1
    refine lv_iload_n hx hb dX11_copy_7 rfl (lv_at hl 3 rfl) ?_
    refine vp_callSi (W.runS (As := [.int p2]) (rest := []) ⟨hx, hb, hml, hown, hts⟩ (c_X11_isSheet l p2) (va_cwS 1 hts gX11_copy_X11_isSheet rfl rfl rfl (by decide +kernel) ⟨Nat.le_of_ble_eq_true rfl, Nat.le_of_ble_eq_true rfl⟩) ⟨fun _ _ _ _ q => q, fun U hU hW => ⟨rfl, trivial⟩⟩ rfl rfl hl.1 rfl (lv_room (Nat.le_of_ble_eq_true rfl)) dX11_copy_8 ⟨Nat.zero_le _, Nat.zero_le _⟩) (fun r hr9 => ?_)
    subst hr9
    refine lv_if_ne (tgt := 16) hx hb dX11_copy_11 (by decide) (fun c2 => ?_) (fun c2 => ?_)
    · replace c2 := bo_t c2
      refine lv_aload_n hx hb dX11_copy_16 rfl (lv_at hl 0 rfl) ?_
      refine va_get (D := (dC, dI)) (ci := 10) (v := .ref (a 43)) (C := RX11) (T := TX11) (N := 49) hx hb hts hin hown hK hP 0 rfl rfl 43 (by decide) (hts (.fieldLink RX11 110 "SocietyBookModel" "sheetSize" "[I") (by decide +kernel)) (fun _ h9 => h9) rfl dX11_copy_17 ?_
      refine lv_iload_n hx hb dX11_copy_20 rfl (lv_at hl 1 rfl) ?_
      refine va_iald (f := M 43) hx hb hK hP 34 0 rfl rfl (ib_in c1 (by decide)) dX11_copy_21 ?_
      refine lv_if_lt (tgt := 34) hx hb dX11_copy_22 (by decide) (fun c3 => ?_) (fun c3 => ?_)
      · refine lv_aload_n hx hb dX11_copy_34 rfl (lv_at hl 0 rfl) ?_
        refine lv_iconst (v := 1) hx hb dX11_copy_35 (by decide) ?_
        refine va_calli (va_runV (As := [.int 1]) (rest := []) ⟨hx, hb, hml, hown, hts⟩ (c_X11_meets l dC dI h a cI cB cZ F M 1 A hD (ib_lit (by decide))) (cwV 1 hts gX11_copy_X11_meets rfl rfl rfl (by decide +kernel) ⟨Nat.le_of_ble_eq_true rfl, Nat.le_of_ble_eq_true rfl⟩) ⟨pm_blind, va_recv hK hP (ci := 10) (q0 := 0) rfl rfl, fun U hU hW => ⟨rfl, by rw [hU]; exact hP, va_K.moved hW.alike hK⟩⟩ rfl rfl hl.1 rfl (lv_room (Nat.le_of_ble_eq_true rfl)) dX11_copy_36 ⟨Nat.zero_le _, Nat.zero_le _⟩) hS (fun q _ h => h) (fun q h => h) (fun r u t H1 locs ht hvm hw hB hz1 hk1 hS => ?_)
        obtain ⟨hr9, hu9⟩ : r = (s_X11_meets F M 1).1 ∧ u = (s_X11_meets F M 1).2 := ⟨congrArg Prod.fst hw, congrArg Prod.snd hw⟩
        subst hr9; subst hu9
        obtain ⟨⟨hP, -⟩, hD⟩ := hB
        rw [ht] at hP
        clear hw hz1 hk1 ht hvm; generalize H1 = H at hP hS ⊢
        exact W.iret (v := (s_X11_meets F M 1).1) hx hb hr (fun t ht hW => ⟨⟨(s_X11_meets F M 1).1, ((s_X11_meets F M 1).2.1, (s_X11_meets F M 1).2.2), rfl, by unfold s_X11_copy; rw [if_pos c1, if_pos c2, if_pos c3], ⟨by rw [ht]; exact hP, va_K.moved hW.alike hK⟩, hD⟩, hS.F ht⟩) hS.2.2 dX11_copy_39
      · refine lv_aload_n hx hb dX11_copy_25 rfl (lv_at hl 0 rfl) ?_
        refine va_get (D := (dC, dI)) (ci := 10) (v := .ref (a 43)) (C := RX11) (T := TX11) (N := 49) hx hb hts hin hown hK hP 0 rfl rfl 43 (by decide) (hts (.fieldLink RX11 110 "SocietyBookModel" "sheetSize" "[I") (by decide +kernel)) (fun _ h9 => h9) rfl dX11_copy_26 ?_
        refine lv_iload_n hx hb dX11_copy_29 rfl (lv_at hl 3 rfl) ?_
        refine va_iald (f := M 43) hx hb hK hP 34 0 rfl rfl (ib_in c2 (by decide)) dX11_copy_30 ?_
        refine lv_if_ge (tgt := 40) hx hb dX11_copy_31 (by decide) (fun c4 => ?_) (fun c4 => ?_)
        · refine lv_iload_n hx hb dX11_copy_40 rfl (lv_at hl 2 rfl) ?_
          refine lv_if_lt (tgt := 89) hx hb dX11_copy_41 (by decide) (fun c5 => ?_) (fun c5 => ?_)
          · refine lv_aload_n hx hb dX11_copy_89 rfl (lv_at hl 0 rfl) ?_
            refine lv_iconst (v := 2) hx hb dX11_copy_90 (by decide) ?_
            refine va_calli (va_runV (As := [.int 2]) (rest := []) ⟨hx, hb, hml, hown, hts⟩ (c_X11_meets l dC dI h a cI cB cZ F M 2 A hD (ib_lit (by decide))) (cwV 1 hts gX11_copy_X11_meets rfl rfl rfl (by decide +kernel) ⟨Nat.le_of_ble_eq_true rfl, Nat.le_of_ble_eq_true rfl⟩) ⟨pm_blind, va_recv hK hP (ci := 10) (q0 := 0) rfl rfl, fun U hU hW => ⟨rfl, by rw [hU]; exact hP, va_K.moved hW.alike hK⟩⟩ rfl rfl hl.1 rfl (lv_room (Nat.le_of_ble_eq_true rfl)) dX11_copy_91 ⟨Nat.zero_le _, Nat.zero_le _⟩) hS (fun q _ h => h) (fun q h => h) (fun r u t H1 locs ht hvm hw hB hz1 hk1 hS => ?_)
            obtain ⟨hr9, hu9⟩ : r = (s_X11_meets F M 2).1 ∧ u = (s_X11_meets F M 2).2 := ⟨congrArg Prod.fst hw, congrArg Prod.snd hw⟩
            subst hr9; subst hu9
            obtain ⟨⟨hP, -⟩, hD⟩ := hB
            rw [ht] at hP
            clear hw hz1 hk1 ht hvm; generalize H1 = H at hP hS ⊢
            exact W.iret (v := (s_X11_meets F M 2).1) hx hb hr (fun t ht hW => ⟨⟨(s_X11_meets F M 2).1, ((s_X11_meets F M 2).2.1, (s_X11_meets F M 2).2.2), rfl, by unfold s_X11_copy; rw [if_pos c1, if_pos c2, if_neg c3, if_pos c4, if_pos c5], ⟨by rw [ht]; exact hP, va_K.moved hW.alike hK⟩, hD⟩, hS.F ht⟩) hS.2.2 dX11_copy_94
          · refine lv_iload hx hb dX11_copy_44 (lv_at hl 4 rfl) ?_
            refine lv_if_lt (tgt := 89) hx hb dX11_copy_46 (by decide) (fun c6 => ?_) (fun c6 => ?_)
            · refine lv_aload_n hx hb dX11_copy_89 rfl (lv_at hl 0 rfl) ?_
              refine lv_iconst (v := 2) hx hb dX11_copy_90 (by decide) ?_
              refine va_calli (va_runV (As := [.int 2]) (rest := []) ⟨hx, hb, hml, hown, hts⟩ (c_X11_meets l dC dI h a cI cB cZ F M 2 A hD (ib_lit (by decide))) (cwV 1 hts gX11_copy_X11_meets rfl rfl rfl (by decide +kernel) ⟨Nat.le_of_ble_eq_true rfl, Nat.le_of_ble_eq_true rfl⟩) ⟨pm_blind, va_recv hK hP (ci := 10) (q0 := 0) rfl rfl, fun U hU hW => ⟨rfl, by rw [hU]; exact hP, va_K.moved hW.alike hK⟩⟩ rfl rfl hl.1 rfl (lv_room (Nat.le_of_ble_eq_true rfl)) dX11_copy_91 ⟨Nat.zero_le _, Nat.zero_le _⟩) hS (fun q _ h => h) (fun q h => h) (fun r u t H1 locs ht hvm hw hB hz1 hk1 hS => ?_)
              obtain ⟨hr9, hu9⟩ : r = (s_X11_meets F M 2).1 ∧ u = (s_X11_meets F M 2).2 := ⟨congrArg Prod.fst hw, congrArg Prod.snd hw⟩
              subst hr9; subst hu9
              obtain ⟨⟨hP, -⟩, hD⟩ := hB
              rw [ht] at hP
              clear hw hz1 hk1 ht hvm; generalize H1 = H at hP hS ⊢
              exact W.iret (v := (s_X11_meets F M 2).1) hx hb hr (fun t ht hW => ⟨⟨(s_X11_meets F M 2).1, ((s_X11_meets F M 2).2.1, (s_X11_meets F M 2).2.2), rfl, by unfold s_X11_copy; rw [if_pos c1, if_pos c2, if_neg c3, if_pos c4, if_neg c5, if_pos c6], ⟨by rw [ht]; exact hP, va_K.moved hW.alike hK⟩, hD⟩, hS.F ht⟩) hS.2.2 dX11_copy_94
            · refine lv_iload hx hb dX11_copy_49 (lv_at hl 5 rfl) ?_
              refine lv_if_lt (tgt := 89) hx hb dX11_copy_51 (by decide) (fun c7 => ?_) (fun c7 => ?_)
              · refine lv_aload_n hx hb dX11_copy_89 rfl (lv_at hl 0 rfl) ?_
                refine lv_iconst (v := 2) hx hb dX11_copy_90 (by decide) ?_
                refine va_calli (va_runV (As := [.int 2]) (rest := []) ⟨hx, hb, hml, hown, hts⟩ (c_X11_meets l dC dI h a cI cB cZ F M 2 A hD (ib_lit (by decide))) (cwV 1 hts gX11_copy_X11_meets rfl rfl rfl (by decide +kernel) ⟨Nat.le_of_ble_eq_true rfl, Nat.le_of_ble_eq_true rfl⟩) ⟨pm_blind, va_recv hK hP (ci := 10) (q0 := 0) rfl rfl, fun U hU hW => ⟨rfl, by rw [hU]; exact hP, va_K.moved hW.alike hK⟩⟩ rfl rfl hl.1 rfl (lv_room (Nat.le_of_ble_eq_true rfl)) dX11_copy_91 ⟨Nat.zero_le _, Nat.zero_le _⟩) hS (fun q _ h => h) (fun q h => h) (fun r u t H1 locs ht hvm hw hB hz1 hk1 hS => ?_)
                obtain ⟨hr9, hu9⟩ : r = (s_X11_meets F M 2).1 ∧ u = (s_X11_meets F M 2).2 := ⟨congrArg Prod.fst hw, congrArg Prod.snd hw⟩
                subst hr9; subst hu9
                obtain ⟨⟨hP, -⟩, hD⟩ := hB
                rw [ht] at hP
                clear hw hz1 hk1 ht hvm; generalize H1 = H at hP hS ⊢
                exact W.iret (v := (s_X11_meets F M 2).1) hx hb hr (fun t ht hW => ⟨⟨(s_X11_meets F M 2).1, ((s_X11_meets F M 2).2.1, (s_X11_meets F M 2).2.2), rfl, by unfold s_X11_copy; rw [if_pos c1, if_pos c2, if_neg c3, if_pos c4, if_neg c5, if_neg c6, if_pos c7], ⟨by rw [ht]; exact hP, va_K.moved hW.alike hK⟩, hD⟩, hS.F ht⟩) hS.2.2 dX11_copy_94
              · refine lv_iload_n hx hb dX11_copy_54 rfl (lv_at hl 2 rfl) ?_
                refine lv_i2l hx hb dX11_copy_55 (v := p1.toInt64) rfl ?_
                refine lv_iload hx hb dX11_copy_56 (lv_at hl 5 rfl) ?_
                refine lv_i2l hx hb dX11_copy_58 (v := p4.toInt64) rfl ?_
                refine lv_ladd hx hb dX11_copy_59 ?_
                refine lv_aload_n hx hb dX11_copy_60 rfl (lv_at hl 0 rfl) ?_
                refine va_get (D := (dC, dI)) (ci := 10) (v := .ref (a 43)) (C := RX11) (T := TX11) (N := 49) hx hb hts hin hown hK hP 0 rfl rfl 43 (by decide) (hts (.fieldLink RX11 110 "SocietyBookModel" "sheetSize" "[I") (by decide +kernel)) (fun _ h9 => h9) rfl dX11_copy_61 ?_
                refine lv_iload_n hx hb dX11_copy_64 rfl (lv_at hl 1 rfl) ?_
                refine va_iald (f := M 43) hx hb hK hP 34 0 rfl rfl (ib_in c1 (by decide)) dX11_copy_65 ?_
                refine lv_i2l hx hb dX11_copy_66 (v := ((M 43) p0.toNatClampNeg).toInt64) rfl ?_
                refine W.lcmp hx hb dX11_copy_67 ?_
                refine lv_if_gt (tgt := 89) hx hb dX11_copy_68 (by decide) (fun c8 => ?_) (fun c8 => ?_)
                · refine lv_aload_n hx hb dX11_copy_89 rfl (lv_at hl 0 rfl) ?_
                  refine lv_iconst (v := 2) hx hb dX11_copy_90 (by decide) ?_
                  refine va_calli (va_runV (As := [.int 2]) (rest := []) ⟨hx, hb, hml, hown, hts⟩ (c_X11_meets l dC dI h a cI cB cZ F M 2 A hD (ib_lit (by decide))) (cwV 1 hts gX11_copy_X11_meets rfl rfl rfl (by decide +kernel) ⟨Nat.le_of_ble_eq_true rfl, Nat.le_of_ble_eq_true rfl⟩) ⟨pm_blind, va_recv hK hP (ci := 10) (q0 := 0) rfl rfl, fun U hU hW => ⟨rfl, by rw [hU]; exact hP, va_K.moved hW.alike hK⟩⟩ rfl rfl hl.1 rfl (lv_room (Nat.le_of_ble_eq_true rfl)) dX11_copy_91 ⟨Nat.zero_le _, Nat.zero_le _⟩) hS (fun q _ h => h) (fun q h => h) (fun r u t H1 locs ht hvm hw hB hz1 hk1 hS => ?_)
                  obtain ⟨hr9, hu9⟩ : r = (s_X11_meets F M 2).1 ∧ u = (s_X11_meets F M 2).2 := ⟨congrArg Prod.fst hw, congrArg Prod.snd hw⟩
                  subst hr9; subst hu9
                  obtain ⟨⟨hP, -⟩, hD⟩ := hB
                  rw [ht] at hP
                  clear hw hz1 hk1 ht hvm; generalize H1 = H at hP hS ⊢
                  exact W.iret (v := (s_X11_meets F M 2).1) hx hb hr (fun t ht hW => ⟨⟨(s_X11_meets F M 2).1, ((s_X11_meets F M 2).2.1, (s_X11_meets F M 2).2.2), rfl, by unfold s_X11_copy; rw [if_pos c1, if_pos c2, if_neg c3, if_pos c4, if_neg c5, if_neg c6, if_neg c7, if_pos c8], ⟨by rw [ht]; exact hP, va_K.moved hW.alike hK⟩, hD⟩, hS.F ht⟩) hS.2.2 dX11_copy_94
                · refine lv_iload hx hb dX11_copy_71 (lv_at hl 4 rfl) ?_
                  refine lv_i2l hx hb dX11_copy_73 (v := p3.toInt64) rfl ?_
                  refine lv_iload hx hb dX11_copy_74 (lv_at hl 5 rfl) ?_
                  refine lv_i2l hx hb dX11_copy_76 (v := p4.toInt64) rfl ?_
                  refine lv_ladd hx hb dX11_copy_77 ?_
                  refine lv_aload_n hx hb dX11_copy_78 rfl (lv_at hl 0 rfl) ?_
                  refine va_get (D := (dC, dI)) (ci := 10) (v := .ref (a 43)) (C := RX11) (T := TX11) (N := 49) hx hb hts hin hown hK hP 0 rfl rfl 43 (by decide) (hts (.fieldLink RX11 110 "SocietyBookModel" "sheetSize" "[I") (by decide +kernel)) (fun _ h9 => h9) rfl dX11_copy_79 ?_
                  refine lv_iload_n hx hb dX11_copy_82 rfl (lv_at hl 3 rfl) ?_
                  refine va_iald (f := M 43) hx hb hK hP 34 0 rfl rfl (ib_in c2 (by decide)) dX11_copy_83 ?_
                  refine lv_i2l hx hb dX11_copy_84 (v := ((M 43) p2.toNatClampNeg).toInt64) rfl ?_
                  refine W.lcmp hx hb dX11_copy_85 ?_
                  refine lv_if_le (tgt := 95) hx hb dX11_copy_86 (by decide) (fun c9 => ?_) (fun c9 => ?_)
                  · refine lv_iconst (v := 0) hx hb dX11_copy_95 (by decide) ?_
                    refine lv_istore (lv' := [(6, .int 0), (0, .ref h), (1, .int p0), (2, .int p1), (3, .int p2), (4, .int p3), (5, .int p4)]) hx hb dX11_copy_96 hl (by decide) rfl (fun ls hl => ?_)
                    refine lp_forH (N := p4.toNatClampNeg) (lv := fun i1 => [(6, .int (nI i1)), (0, .ref h), (1, .int p0), (2, .int p1), (3, .int p2), (4, .int p3), (5, .int p4)]) (wd := fun i1 => wM h a cI cB cZ F (va_up M 45 (L_copy1 F M p0 p1 p2 p3 p4 i1))) hP hD hS (lv_sub hl [0, 1, 2, 3, 4, 5, 6] rfl) (fun i1 hi1 ls H locs hl hP hD hS kk1 => ?_) (fun ls H locs hl hP hD hS => ?_)
                    · replace hl : lv_has ls 7 [(6, .int (nI i1)), (0, .ref h), (1, .int p0), (2, .int p1), (3, .int p2), (4, .int p3), (5, .int p4)] := hl
                      replace hP : va_P (dC, dI) vwCl (wM h a cI cB cZ F (va_up M 45 (L_copy1 F M p0 p1 p2 p3 p4 i1))) H := hP
                      replace hD : va_D A (wM h a cI cB cZ F (va_up M 45 (L_copy1 F M p0 p1 p2 p3 p4 i1))) := hD
                      refine lv_iload hx hb dX11_copy_98 (lv_at hl 0 rfl) ?_
                      refine lv_iload hx hb dX11_copy_100 (lv_at hl 6 rfl) ?_
                      refine lv_icmp_ge (tgt := 132) hx hb dX11_copy_102 (by decide) (fun c => absurd c (lb_n (lb_c (Int32.not_lt.mp c7)) hi1)) (fun _ => ?_)
                      refine lv_aload_n hx hb dX11_copy_105 rfl (lv_at hl 1 rfl) ?_
                      refine va_get (D := (dC, dI)) (ci := 10) (v := .ref (a 45)) (C := RX11) (T := TX11) (N := 49) hx hb hts hin hown hK hP 0 rfl rfl 45 (by decide) (hts (.fieldLink RX11 117 "SocietyBookModel" "copied" "[B") (by decide +kernel)) (fun _ h9 => h9) rfl dX11_copy_106 ?_
                      refine lv_iload hx hb dX11_copy_109 (lv_at hl 0 rfl) ?_
                      refine lv_aload_n hx hb dX11_copy_111 rfl (lv_at hl 1 rfl) ?_
                      refine va_get (D := (dC, dI)) (ci := 10) (v := .ref (a 44)) (C := RX11) (T := TX11) (N := 49) hx hb hts hin hown hK hP 0 rfl rfl 44 (by decide) (hts (.fieldLink RX11 113 "SocietyBookModel" "sheets" "[B") (by decide +kernel)) (fun _ h9 => h9) rfl dX11_copy_112 ?_
                      refine lv_bipush (v := 12) hx hb dX11_copy_115 (by decide) ?_
                      refine lv_iload_n hx hb dX11_copy_117 rfl (lv_at hl 2 rfl) ?_
                      refine lv_imul hx hb dX11_copy_118 ?_
                      refine lv_iload_n hx hb dX11_copy_119 rfl (lv_at hl 3 rfl) ?_
                      refine lv_iadd hx hb dX11_copy_120 ?_
                      refine lv_iload hx hb dX11_copy_121 (lv_at hl 0 rfl) ?_
                      refine lv_iadd hx hb dX11_copy_123 ?_
                      refine va_bald (f := M 44) hx hb hK hP 35 1 rfl rfl (ib_cp hI (ib_in c1 (by decide)) c5 c7 c8 hi1).1 dX11_copy_124 ?_
                      refine va_bast (f := (L_copy1 F M p0 p1 p2 p3 p4 i1)) hx hb hK hP hD hS 36 1 rfl rfl (vp_in_nI (ib_cp hI (ib_in c1 (by decide)) c5 c7 c8 hi1).2 (by decide)) dX11_copy_125 (fun H locs hP hD hS => ?_)
                      rw [nI_clamp (show i1 < 2 ^ 31 by omega)] at hP hD
                      replace hP : va_P (dC, dI) vwCl (wM h a cI cB cZ F (va_up M 45 (upd (L_copy1 F M p0 p1 p2 p3 p4 i1) i1 (vp_nar .byte ((M 44) ((((12 * p0) + p1) + (nI i1)).toNatClampNeg)))))) H := hP
                      replace hD : va_D A (wM h a cI cB cZ F (va_up M 45 (upd (L_copy1 F M p0 p1 p2 p3 p4 i1) i1 (vp_nar .byte ((M 44) ((((12 * p0) + p1) + (nI i1)).toNatClampNeg)))))) := hD
                      refine lv_iinc (v := nI (i1 + 1)) (lv' := [(6, .int (nI (i1 + 1))), (0, .ref h), (1, .int p0), (2, .int p1), (3, .int p2), (4, .int p3), (5, .int p4)]) hx hb dX11_copy_126 hl (k := 0) rfl (nI_1 i1) (by decide) rfl (fun ls hl => ?_)
                      refine lv_goto (tgt := 98) hx hb dX11_copy_129 (by decide) ?_
                      have e9 : L_copy1 F M p0 p1 p2 p3 p4 (i1 + 1) = upd (L_copy1 F M p0 p1 p2 p3 p4 i1) i1 (vp_nar .byte ((M 44) ((((12 * p0) + p1) + (nI i1)).toNatClampNeg))) := by rw [L_copy1]
                      refine kk1 ls H locs (show lv_has ls 7 [(6, .int (nI (i1 + 1))), (0, .ref h), (1, .int p0), (2, .int p1), (3, .int p2), (4, .int p3), (5, .int p4)] from ?_) (show va_P (dC, dI) vwCl (wM h a cI cB cZ F (va_up M 45 (L_copy1 F M p0 p1 p2 p3 p4 (i1 + 1)))) H from ?_) (show va_D A (wM h a cI cB cZ F (va_up M 45 (L_copy1 F M p0 p1 p2 p3 p4 (i1 + 1)))) from ?_) hS
                      · exact lv_sub hl [0, 1, 2, 3, 4, 5, 6] rfl
                      · rw [e9]; exact hP
                      · rw [e9]; exact hD
                    · replace hl : lv_has ls 7 [(6, .int (nI p4.toNatClampNeg)), (0, .ref h), (1, .int p0), (2, .int p1), (3, .int p2), (4, .int p3), (5, .int p4)] := hl
                      replace hP : va_P (dC, dI) vwCl (wM h a cI cB cZ F (va_up M 45 (L_copy1 F M p0 p1 p2 p3 p4 p4.toNatClampNeg))) H := hP
                      replace hD : va_D A (wM h a cI cB cZ F (va_up M 45 (L_copy1 F M p0 p1 p2 p3 p4 p4.toNatClampNeg))) := hD
                      refine lv_iload hx hb dX11_copy_98 (lv_at hl 0 rfl) ?_
                      refine lv_iload hx hb dX11_copy_100 (lv_at hl 6 rfl) ?_
                      refine lv_icmp_ge (tgt := 132) hx hb dX11_copy_102 (by decide) (fun _ => ?_) (fun c => absurd (lb_y (lb_c (Int32.not_lt.mp c7))) c)
                      refine lv_iconst (v := 0) hx hb dX11_copy_132 (by decide) ?_
                      refine lv_istore (lv' := [(6, .int 0), (0, .ref h), (1, .int p0), (2, .int p1), (3, .int p2), (4, .int p3), (5, .int p4)]) hx hb dX11_copy_133 hl (by decide) rfl (fun ls hl => ?_)
                      refine lp_forH (N := p4.toNatClampNeg) (lv := fun i1 => [(6, .int (nI i1)), (0, .ref h), (1, .int p0), (2, .int p1), (3, .int p2), (4, .int p3), (5, .int p4)]) (wd := fun i1 => wM h a cI cB cZ F (va_up (va_up M 45 (L_copy1 F M p0 p1 p2 p3 p4 p4.toNatClampNeg)) 44 (L_copy2 F M p0 p1 p2 p3 p4 i1))) hP hD hS (lv_sub hl [0, 1, 2, 3, 4, 5, 6] rfl) (fun i1 hi1 ls H locs hl hP hD hS kk1 => ?_) (fun ls H locs hl hP hD hS => ?_)
                      · replace hl : lv_has ls 7 [(6, .int (nI i1)), (0, .ref h), (1, .int p0), (2, .int p1), (3, .int p2), (4, .int p3), (5, .int p4)] := hl
                        replace hP : va_P (dC, dI) vwCl (wM h a cI cB cZ F (va_up (va_up M 45 (L_copy1 F M p0 p1 p2 p3 p4 p4.toNatClampNeg)) 44 (L_copy2 F M p0 p1 p2 p3 p4 i1))) H := hP
                        replace hD : va_D A (wM h a cI cB cZ F (va_up (va_up M 45 (L_copy1 F M p0 p1 p2 p3 p4 p4.toNatClampNeg)) 44 (L_copy2 F M p0 p1 p2 p3 p4 i1))) := hD
                        refine lv_iload hx hb dX11_copy_135 (lv_at hl 0 rfl) ?_
                        refine lv_iload hx hb dX11_copy_137 (lv_at hl 6 rfl) ?_
                        refine lv_icmp_ge (tgt := 170) hx hb dX11_copy_139 (by decide) (fun c => absurd c (lb_n (lb_c (Int32.not_lt.mp c7)) hi1)) (fun _ => ?_)
                        refine lv_aload_n hx hb dX11_copy_142 rfl (lv_at hl 1 rfl) ?_
                        refine va_get (D := (dC, dI)) (ci := 10) (v := .ref (a 44)) (C := RX11) (T := TX11) (N := 49) hx hb hts hin hown hK hP 0 rfl rfl 44 (by decide) (hts (.fieldLink RX11 113 "SocietyBookModel" "sheets" "[B") (by decide +kernel)) (fun _ h9 => h9) rfl dX11_copy_143 ?_
                        refine lv_bipush (v := 12) hx hb dX11_copy_146 (by decide) ?_
                        refine lv_iload_n hx hb dX11_copy_148 rfl (lv_at hl 4 rfl) ?_
                        refine lv_imul hx hb dX11_copy_149 ?_
                        refine lv_iload hx hb dX11_copy_150 (lv_at hl 5 rfl) ?_
                        refine lv_iadd hx hb dX11_copy_152 ?_
                        refine lv_iload hx hb dX11_copy_153 (lv_at hl 0 rfl) ?_
                        refine lv_iadd hx hb dX11_copy_155 ?_
                        refine lv_aload_n hx hb dX11_copy_156 rfl (lv_at hl 1 rfl) ?_
                        refine va_get (D := (dC, dI)) (ci := 10) (v := .ref (a 45)) (C := RX11) (T := TX11) (N := 49) hx hb hts hin hown hK hP 0 rfl rfl 45 (by decide) (hts (.fieldLink RX11 117 "SocietyBookModel" "copied" "[B") (by decide +kernel)) (fun _ h9 => h9) rfl dX11_copy_157 ?_
                        refine lv_iload hx hb dX11_copy_160 (lv_at hl 0 rfl) ?_
                        refine va_bald (f := (L_copy1 F M p0 p1 p2 p3 p4 p4.toNatClampNeg)) hx hb hK hP 36 1 rfl rfl (vp_in_nI (ib_cp hI (ib_in c1 (by decide)) c5 c7 c8 hi1).2 (by decide)) dX11_copy_162 ?_
                        rw [nI_clamp (show i1 < 2 ^ 31 by omega)]
                        refine va_bast (f := (L_copy2 F M p0 p1 p2 p3 p4 i1)) hx hb hK hP hD hS 35 1 rfl rfl (ib_cp hI (ib_in c2 (by decide)) c6 c7 (Int32.not_lt.mpr c9) hi1).1 dX11_copy_163 (fun H locs hP hD hS => ?_)
                        replace hP : va_P (dC, dI) vwCl (wM h a cI cB cZ F (va_up (va_up M 45 (L_copy1 F M p0 p1 p2 p3 p4 p4.toNatClampNeg)) 44 (upd (L_copy2 F M p0 p1 p2 p3 p4 i1) ((((12 * p2) + p3) + (nI i1)).toNatClampNeg) (vp_nar .byte ((L_copy1 F M p0 p1 p2 p3 p4 p4.toNatClampNeg) i1))))) H := hP
                        replace hD : va_D A (wM h a cI cB cZ F (va_up (va_up M 45 (L_copy1 F M p0 p1 p2 p3 p4 p4.toNatClampNeg)) 44 (upd (L_copy2 F M p0 p1 p2 p3 p4 i1) ((((12 * p2) + p3) + (nI i1)).toNatClampNeg) (vp_nar .byte ((L_copy1 F M p0 p1 p2 p3 p4 p4.toNatClampNeg) i1))))) := hD
                        refine lv_iinc (v := nI (i1 + 1)) (lv' := [(6, .int (nI (i1 + 1))), (0, .ref h), (1, .int p0), (2, .int p1), (3, .int p2), (4, .int p3), (5, .int p4)]) hx hb dX11_copy_164 hl (k := 0) rfl (nI_1 i1) (by decide) rfl (fun ls hl => ?_)
                        refine lv_goto (tgt := 135) hx hb dX11_copy_167 (by decide) ?_
                        have e9 : L_copy2 F M p0 p1 p2 p3 p4 (i1 + 1) = upd (L_copy2 F M p0 p1 p2 p3 p4 i1) ((((12 * p2) + p3) + (nI i1)).toNatClampNeg) (vp_nar .byte ((L_copy1 F M p0 p1 p2 p3 p4 p4.toNatClampNeg) i1)) := by rw [L_copy2]
                        refine kk1 ls H locs (show lv_has ls 7 [(6, .int (nI (i1 + 1))), (0, .ref h), (1, .int p0), (2, .int p1), (3, .int p2), (4, .int p3), (5, .int p4)] from ?_) (show va_P (dC, dI) vwCl (wM h a cI cB cZ F (va_up (va_up M 45 (L_copy1 F M p0 p1 p2 p3 p4 p4.toNatClampNeg)) 44 (L_copy2 F M p0 p1 p2 p3 p4 (i1 + 1)))) H from ?_) (show va_D A (wM h a cI cB cZ F (va_up (va_up M 45 (L_copy1 F M p0 p1 p2 p3 p4 p4.toNatClampNeg)) 44 (L_copy2 F M p0 p1 p2 p3 p4 (i1 + 1)))) from ?_) hS
                        · exact lv_sub hl [0, 1, 2, 3, 4, 5, 6] rfl
                        · rw [e9]; exact hP
                        · rw [e9]; exact hD
                      · replace hl : lv_has ls 7 [(6, .int (nI p4.toNatClampNeg)), (0, .ref h), (1, .int p0), (2, .int p1), (3, .int p2), (4, .int p3), (5, .int p4)] := hl
                        replace hP : va_P (dC, dI) vwCl (wM h a cI cB cZ F (va_up (va_up M 45 (L_copy1 F M p0 p1 p2 p3 p4 p4.toNatClampNeg)) 44 (L_copy2 F M p0 p1 p2 p3 p4 p4.toNatClampNeg))) H := hP
                        replace hD : va_D A (wM h a cI cB cZ F (va_up (va_up M 45 (L_copy1 F M p0 p1 p2 p3 p4 p4.toNatClampNeg)) 44 (L_copy2 F M p0 p1 p2 p3 p4 p4.toNatClampNeg))) := hD
                        refine lv_iload hx hb dX11_copy_135 (lv_at hl 0 rfl) ?_
                        refine lv_iload hx hb dX11_copy_137 (lv_at hl 6 rfl) ?_
                        refine lv_icmp_ge (tgt := 170) hx hb dX11_copy_139 (by decide) (fun _ => ?_) (fun c => absurd (lb_y (lb_c (Int32.not_lt.mp c7))) c)
                        refine lv_iconst (v := 1) hx hb dX11_copy_170 (by decide) ?_
                        exact W.iret (v := 1) hx hb hr (fun t ht hW => ⟨⟨1, (F, va_up (va_up M 45 (L_copy1 F M p0 p1 p2 p3 p4 p4.toNatClampNeg)) 44 (L_copy2 F M p0 p1 p2 p3 p4 p4.toNatClampNeg)), rfl, by unfold s_X11_copy; rw [if_pos c1, if_pos c2, if_neg c3, if_pos c4, if_neg c5, if_neg c6, if_neg c7, if_neg c8, if_pos c9], ⟨by rw [ht]; exact hP, va_K.moved hW.alike hK⟩, hD⟩, hS.F ht⟩) hS.2.2 dX11_copy_171
                  · refine lv_aload_n hx hb dX11_copy_89 rfl (lv_at hl 0 rfl) ?_
                    refine lv_iconst (v := 2) hx hb dX11_copy_90 (by decide) ?_
                    refine va_calli (va_runV (As := [.int 2]) (rest := []) ⟨hx, hb, hml, hown, hts⟩ (c_X11_meets l dC dI h a cI cB cZ F M 2 A hD (ib_lit (by decide))) (cwV 1 hts gX11_copy_X11_meets rfl rfl rfl (by decide +kernel) ⟨Nat.le_of_ble_eq_true rfl, Nat.le_of_ble_eq_true rfl⟩) ⟨pm_blind, va_recv hK hP (ci := 10) (q0 := 0) rfl rfl, fun U hU hW => ⟨rfl, by rw [hU]; exact hP, va_K.moved hW.alike hK⟩⟩ rfl rfl hl.1 rfl (lv_room (Nat.le_of_ble_eq_true rfl)) dX11_copy_91 ⟨Nat.zero_le _, Nat.zero_le _⟩) hS (fun q _ h => h) (fun q h => h) (fun r u t H1 locs ht hvm hw hB hz1 hk1 hS => ?_)
                    obtain ⟨hr9, hu9⟩ : r = (s_X11_meets F M 2).1 ∧ u = (s_X11_meets F M 2).2 := ⟨congrArg Prod.fst hw, congrArg Prod.snd hw⟩
                    subst hr9; subst hu9
                    obtain ⟨⟨hP, -⟩, hD⟩ := hB
                    rw [ht] at hP
                    clear hw hz1 hk1 ht hvm; generalize H1 = H at hP hS ⊢
                    exact W.iret (v := (s_X11_meets F M 2).1) hx hb hr (fun t ht hW => ⟨⟨(s_X11_meets F M 2).1, ((s_X11_meets F M 2).2.1, (s_X11_meets F M 2).2.2), rfl, by unfold s_X11_copy; rw [if_pos c1, if_pos c2, if_neg c3, if_pos c4, if_neg c5, if_neg c6, if_neg c7, if_neg c8, if_neg c9], ⟨by rw [ht]; exact hP, va_K.moved hW.alike hK⟩, hD⟩, hS.F ht⟩) hS.2.2 dX11_copy_94
        · refine lv_aload_n hx hb dX11_copy_34 rfl (lv_at hl 0 rfl) ?_
          refine lv_iconst (v := 1) hx hb dX11_copy_35 (by decide) ?_
          refine va_calli (va_runV (As := [.int 1]) (rest := []) ⟨hx, hb, hml, hown, hts⟩ (c_X11_meets l dC dI h a cI cB cZ F M 1 A hD (ib_lit (by decide))) (cwV 1 hts gX11_copy_X11_meets rfl rfl rfl (by decide +kernel) ⟨Nat.le_of_ble_eq_true rfl, Nat.le_of_ble_eq_true rfl⟩) ⟨pm_blind, va_recv hK hP (ci := 10) (q0 := 0) rfl rfl, fun U hU hW => ⟨rfl, by rw [hU]; exact hP, va_K.moved hW.alike hK⟩⟩ rfl rfl hl.1 rfl (lv_room (Nat.le_of_ble_eq_true rfl)) dX11_copy_36 ⟨Nat.zero_le _, Nat.zero_le _⟩) hS (fun q _ h => h) (fun q h => h) (fun r u t H1 locs ht hvm hw hB hz1 hk1 hS => ?_)
          obtain ⟨hr9, hu9⟩ : r = (s_X11_meets F M 1).1 ∧ u = (s_X11_meets F M 1).2 := ⟨congrArg Prod.fst hw, congrArg Prod.snd hw⟩
          subst hr9; subst hu9
          obtain ⟨⟨hP, -⟩, hD⟩ := hB
          rw [ht] at hP
          clear hw hz1 hk1 ht hvm; generalize H1 = H at hP hS ⊢
          exact W.iret (v := (s_X11_meets F M 1).1) hx hb hr (fun t ht hW => ⟨⟨(s_X11_meets F M 1).1, ((s_X11_meets F M 1).2.1, (s_X11_meets F M 1).2.2), rfl, by unfold s_X11_copy; rw [if_pos c1, if_pos c2, if_neg c3, if_neg c4], ⟨by rw [ht]; exact hP, va_K.moved hW.alike hK⟩, hD⟩, hS.F ht⟩) hS.2.2 dX11_copy_39
    · replace c2 := bo_f c2
      refine lv_iconst (v := (-1)) hx hb dX11_copy_14 (by decide) ?_
      exact W.iret (v := (-1)) hx hb hr (fun t ht hW => ⟨⟨(-1), (F, M), rfl, by unfold s_X11_copy; rw [if_pos c1, if_neg c2], ⟨by rw [ht]; exact hP, va_K.moved hW.alike hK⟩, hD⟩, hS.F ht⟩) hS.2.2 dX11_copy_15

def L_fill (F : Nat → Int32) (M : Nat → Nat → Int32) (p0 : Int32) (p1 : Int32) : Nat → Int32 × (Nat → Int32)
  | 0 => (0, M 42)
  | i1 + 1 =>
    if ((M 43) p1.toNatClampNeg) ≤ (nI i1) then (((L_fill F M p0 p1 i1).1) + (((L_fill F M p0 p1 i1).2) (((12 * p0) + (nI i1)).toNatClampNeg)), (L_fill F M p0 p1 i1).2) else
    if 0 ≤ ((M 44) (((12 * p1) + (nI i1)).toNatClampNeg)) then (if ((M 44) (((12 * p1) + (nI i1)).toNatClampNeg)) ≤ 9 then (((L_fill F M p0 p1 i1).1) + ((upd ((L_fill F M p0 p1 i1).2) (((12 * p0) + (nI i1)).toNatClampNeg) ((M 44) (((12 * p1) + (nI i1)).toNatClampNeg))) (((12 * p0) + (nI i1)).toNatClampNeg)), upd ((L_fill F M p0 p1 i1).2) (((12 * p0) + (nI i1)).toNatClampNeg) ((M 44) (((12 * p1) + (nI i1)).toNatClampNeg))) else
      (((L_fill F M p0 p1 i1).1) + ((upd ((L_fill F M p0 p1 i1).2) (((12 * p0) + (nI i1)).toNatClampNeg) 9) (((12 * p0) + (nI i1)).toNatClampNeg)), upd ((L_fill F M p0 p1 i1).2) (((12 * p0) + (nI i1)).toNatClampNeg) 9)) else
    (((L_fill F M p0 p1 i1).1) + ((upd ((L_fill F M p0 p1 i1).2) (((12 * p0) + (nI i1)).toNatClampNeg) 0) (((12 * p0) + (nI i1)).toNatClampNeg)), upd ((L_fill F M p0 p1 i1).2) (((12 * p0) + (nI i1)).toNatClampNeg) 0)
def s_X11_fill (F : Nat → Int32) (M : Nat → Nat → Int32) (p0 : Int32) (p1 : Int32) : Int32 × ((Nat → Int32) × (Nat → Nat → Int32)) :=
  if 0 ≤ p0 ∧ p0 ≤ 5 then (if 0 ≤ p1 ∧ p1 ≤ 3 then (if 0 ≤ ((M 43) p1.toNatClampNeg) then ((L_fill F M p0 p1 12).1, (F, va_up M 42 ((L_fill F M p0 p1 12).2))) else
      ((s_X11_meets F M 1).1, ((s_X11_meets F M 1).2.1, (s_X11_meets F M 1).2.2))) else
    ((-1), (F, M))) else
  ((-1), (F, M))
set_option maxHeartbeats 4000000 in
set_option maxRecDepth 100000 in
theorem c_X11_fill (l : Launch) (dC : Nat → ClassId) (dI : Nat → Nat → Nat) (h : Nat) (a : Nat → Nat) (cI cB cZ : ClassId) (F : Nat → Int32) (M : Nat → Nat → Int32) (p0 : Int32) (p1 : Int32) (A : Nat → Prop) (hD : va_D A (wM h a cI cB cZ F M)) : Met l yX11_fill wsX11_fill ({ frames := 2, cells := 0, slots := 0, locals := 42 } : Room) (va_Pc [.ref h, .int p0, .int p1] (pM dC dI h a cI cB cZ F M)) (va_Qi (fun r u => (r, u) = s_X11_fill F M p0 p1) (qM A dC dI h a cI cB cZ) A) 0 0 A := by
  refine Met.ofW (cc := cX11_fill) (maxL := 6) (ret := (some .int)) (by decide) rfl ?_
  intro p e s m args below meth c s₁ B hml hv
  obtain ⟨rfl, hP, hK⟩ := hv
  have hx := B.exec
  have hb := B.bytes
  have hr := B.returns
  have hts := atoms_spec (ws := wsX11_fill) B.pre
  have hown : s.vm.findClass RX11 = some m.cls := findClass_of_methodNamed B.named
  have hlocks := B.notSynchronized
  have hin : ∀ w ∈ wsX110, w ∈ wsX11_fill := by decide +kernel
  have hS : va_S A s.heap s.heap [] := va_S.rf
  have hl := lv_entry ([.ref h, .int p0, .int p1]) (n := 6) (Nat.le_of_ble_eq_true rfl)
  rw [lg_entry_eq]
  generalize (lg_sl ([.ref h, .int p0, .int p1]) ++ List.replicate (6 - (lg_sl ([.ref h, .int p0, .int p1])).length) Slot.unset).toArray = ls at hl ⊢
  have hl : lv_has ls 6 [(0, .ref h), (1, .int p0), (2, .int p1)] := hl
  refine lv_iload_n hx hb dX11_fill_0 rfl (lv_at hl 1 rfl) ?_
  refine lv_iconst (v := 0) hx hb dX11_fill_1 (by decide) ?_
  refine lv_iconst (v := 5) hx hb dX11_fill_2 (by decide) ?_
  refine vp_callSi (W.runS (As := [.int p0, .int 0, .int 5]) (rest := []) ⟨hx, hb, hml, hown, hts⟩ (c_X11_in l p0 0 5) (va_cwS 3 hts gX11_fill_X11_in rfl rfl rfl (by decide +kernel) ⟨Nat.le_of_ble_eq_true rfl, Nat.le_of_ble_eq_true rfl⟩) ⟨fun _ _ _ _ q => q, fun U hU hW => ⟨rfl, trivial⟩⟩ rfl rfl hl.1 rfl (lv_room (Nat.le_of_ble_eq_true rfl)) dX11_fill_3 ⟨Nat.zero_le _, Nat.zero_le _⟩) (fun r hr9 => ?_)
  subst hr9
  refine lv_if_eq (tgt := 16) hx hb dX11_fill_6 (by decide) (fun c1 => ?_) (fun c1 => ?_)
  · replace c1 := bo_f c1
    refine lv_iconst (v := (-1)) hx hb dX11_fill_16 (by decide) ?_
    exact W.iret (v := (-1)) hx hb hr (fun t ht hW => ⟨⟨(-1), (F, M), rfl, by unfold s_X11_fill; rw [if_neg c1], ⟨by rw [ht]; exact hP, va_K.moved hW.alike hK⟩, hD⟩, hS.F ht⟩) hS.2.2 dX11_fill_17
  · replace c1 := bo_t c1
    refine lv_iload_n hx hb dX11_fill_9 rfl (lv_at hl 2 rfl) ?_
    refine vp_callSi (W.runS (As := [.int p1]) (rest := []) ⟨hx, hb, hml, hown, hts⟩ (c_X11_isSheet l p1) (va_cwS 1 hts gX11_fill_X11_isSheet rfl rfl rfl (by decide +kernel) ⟨Nat.le_of_ble_eq_true rfl, Nat.le_of_ble_eq_true rfl⟩) ⟨fun _ _ _ _ q => q, fun U hU hW => ⟨rfl, trivial⟩⟩ rfl rfl hl.1 rfl (lv_room (Nat.le_of_ble_eq_true rfl)) dX11_fill_10 ⟨Nat.zero_le _, Nat.zero_le _⟩) (fun r hr9 => ?_)
    subst hr9
    refine lv_if_ne (tgt := 18) hx hb dX11_fill_13 (by decide) (fun c2 => ?_) (fun c2 => ?_)
    · replace c2 := bo_t c2
      refine lv_aload_n hx hb dX11_fill_18 rfl (lv_at hl 0 rfl) ?_
      refine va_get (D := (dC, dI)) (ci := 10) (v := .ref (a 43)) (C := RX11) (T := TX11) (N := 49) hx hb hts hin hown hK hP 0 rfl rfl 43 (by decide) (hts (.fieldLink RX11 110 "SocietyBookModel" "sheetSize" "[I") (by decide +kernel)) (fun _ h9 => h9) rfl dX11_fill_19 ?_
      refine lv_iload_n hx hb dX11_fill_22 rfl (lv_at hl 2 rfl) ?_
      refine va_iald (f := M 43) hx hb hK hP 34 0 rfl rfl (ib_in c2 (by decide)) dX11_fill_23 ?_
      refine lv_if_ge (tgt := 33) hx hb dX11_fill_24 (by decide) (fun c3 => ?_) (fun c3 => ?_)
      · refine lv_iconst (v := 0) hx hb dX11_fill_33 (by decide) ?_
        refine lv_istore_n (lv' := [(3, .int 0), (0, .ref h), (1, .int p0), (2, .int p1)]) hx hb dX11_fill_34 rfl hl (by decide) rfl (fun ls hl => ?_)
        refine lv_iconst (v := 0) hx hb dX11_fill_35 (by decide) ?_
        refine lv_istore (lv' := [(4, .int 0), (3, .int 0), (0, .ref h), (1, .int p0), (2, .int p1)]) hx hb dX11_fill_36 hl (by decide) rfl (fun ls hl => ?_)
        refine lp_forH (N := 12) (lv := fun i1 => [(4, .int (nI i1)), (3, .int ((L_fill F M p0 p1 i1).1)), (0, .ref h), (1, .int p0), (2, .int p1)]) (wd := fun i1 => wM h a cI cB cZ F (va_up M 42 ((L_fill F M p0 p1 i1).2))) hP hD hS (lv_sub hl [0, 1, 2, 3, 4] rfl) (fun i1 hi1 ls H locs hl hP hD hS kk1 => ?_) (fun ls H locs hl hP hD hS => ?_)
        · replace hl : lv_has ls 6 [(4, .int (nI i1)), (3, .int ((L_fill F M p0 p1 i1).1)), (0, .ref h), (1, .int p0), (2, .int p1)] := hl
          replace hP : va_P (dC, dI) vwCl (wM h a cI cB cZ F (va_up M 42 ((L_fill F M p0 p1 i1).2))) H := hP
          replace hD : va_D A (wM h a cI cB cZ F (va_up M 42 ((L_fill F M p0 p1 i1).2))) := hD
          refine lv_iload hx hb dX11_fill_38 (lv_at hl 0 rfl) ?_
          refine lv_bipush (v := 12) hx hb dX11_fill_40 (by decide) ?_
          refine lv_icmp_ge (tgt := 126) hx hb dX11_fill_42 (by decide) (fun c => absurd c (lb_n (by decide) hi1)) (fun _ => ?_)
          refine lv_iload hx hb dX11_fill_45 (lv_at hl 0 rfl) ?_
          refine lv_aload_n hx hb dX11_fill_47 rfl (lv_at hl 2 rfl) ?_
          refine va_get (D := (dC, dI)) (ci := 10) (v := .ref (a 43)) (C := RX11) (T := TX11) (N := 49) hx hb hts hin hown hK hP 0 rfl rfl 43 (by decide) (hts (.fieldLink RX11 110 "SocietyBookModel" "sheetSize" "[I") (by decide +kernel)) (fun _ h9 => h9) rfl dX11_fill_48 ?_
          refine lv_iload_n hx hb dX11_fill_51 rfl (lv_at hl 4 rfl) ?_
          refine va_iald (f := M 43) hx hb hK hP 34 0 rfl rfl (ib_in c2 (by decide)) dX11_fill_52 ?_
          refine lv_icmp_ge (tgt := 105) hx hb dX11_fill_53 (by decide) (fun c4 => ?_) (fun c4 => ?_)
          · refine lv_iload_n hx hb dX11_fill_105 rfl (lv_at hl 1 rfl) ?_
            refine lv_aload_n hx hb dX11_fill_106 rfl (lv_at hl 2 rfl) ?_
            refine va_get (D := (dC, dI)) (ci := 10) (v := .ref (a 42)) (C := RX11) (T := TX11) (N := 49) hx hb hts hin hown hK hP 0 rfl rfl 42 (by decide) (hts (.fieldLink RX11 107 "SocietyBookModel" "copies" "[I") (by decide +kernel)) (fun _ h9 => h9) rfl dX11_fill_107 ?_
            refine lv_bipush (v := 12) hx hb dX11_fill_110 (by decide) ?_
            refine lv_iload_n hx hb dX11_fill_112 rfl (lv_at hl 3 rfl) ?_
            refine lv_imul hx hb dX11_fill_113 ?_
            refine lv_iload hx hb dX11_fill_114 (lv_at hl 0 rfl) ?_
            refine lv_iadd hx hb dX11_fill_116 ?_
            refine va_iald (f := (L_fill F M p0 p1 i1).2) hx hb hK hP 33 0 rfl rfl (ib_12 (S := 6) (ib_in c1 (by decide)) (vp_in_nI (show i1 < 12 by omega) (by decide)) (by decide)) dX11_fill_117 ?_
            refine lv_iadd hx hb dX11_fill_118 ?_
            refine lv_istore_n (lv' := [(3, .int (((L_fill F M p0 p1 i1).1) + (((L_fill F M p0 p1 i1).2) (((12 * p0) + (nI i1)).toNatClampNeg)))), (4, .int (nI i1)), (0, .ref h), (1, .int p0), (2, .int p1)]) hx hb dX11_fill_119 rfl hl (by decide) rfl (fun ls hl => ?_)
            refine lv_iinc (v := nI (i1 + 1)) (lv' := [(4, .int (nI (i1 + 1))), (3, .int (((L_fill F M p0 p1 i1).1) + (((L_fill F M p0 p1 i1).2) (((12 * p0) + (nI i1)).toNatClampNeg)))), (0, .ref h), (1, .int p0), (2, .int p1)]) hx hb dX11_fill_120 hl (k := 1) rfl (nI_1 i1) (by decide) rfl (fun ls hl => ?_)
            refine lv_goto (tgt := 38) hx hb dX11_fill_123 (by decide) ?_
            have e9 : L_fill F M p0 p1 (i1 + 1) = (((L_fill F M p0 p1 i1).1) + (((L_fill F M p0 p1 i1).2) (((12 * p0) + (nI i1)).toNatClampNeg)), (L_fill F M p0 p1 i1).2) := by rw [L_fill]; rw [if_pos c4]
            refine kk1 ls H locs (show lv_has ls 6 [(4, .int (nI (i1 + 1))), (3, .int ((L_fill F M p0 p1 (i1 + 1)).1)), (0, .ref h), (1, .int p0), (2, .int p1)] from ?_) (show va_P (dC, dI) vwCl (wM h a cI cB cZ F (va_up M 42 ((L_fill F M p0 p1 (i1 + 1)).2))) H from ?_) (show va_D A (wM h a cI cB cZ F (va_up M 42 ((L_fill F M p0 p1 (i1 + 1)).2))) from ?_) hS
            · rw [e9]; exact lv_sub hl [0, 1, 2, 3, 4] rfl
            · rw [e9]; exact hP
            · rw [e9]; exact hD
          · refine lv_aload_n hx hb dX11_fill_56 rfl (lv_at hl 2 rfl) ?_
            refine va_get (D := (dC, dI)) (ci := 10) (v := .ref (a 44)) (C := RX11) (T := TX11) (N := 49) hx hb hts hin hown hK hP 0 rfl rfl 44 (by decide) (hts (.fieldLink RX11 113 "SocietyBookModel" "sheets" "[B") (by decide +kernel)) (fun _ h9 => h9) rfl dX11_fill_57 ?_
            refine lv_bipush (v := 12) hx hb dX11_fill_60 (by decide) ?_
            refine lv_iload_n hx hb dX11_fill_62 rfl (lv_at hl 4 rfl) ?_
            refine lv_imul hx hb dX11_fill_63 ?_
            refine lv_iload hx hb dX11_fill_64 (lv_at hl 0 rfl) ?_
            refine lv_iadd hx hb dX11_fill_66 ?_
            refine va_bald (f := M 44) hx hb hK hP 35 1 rfl rfl (ib_12 (S := 4) (ib_in c2 (by decide)) (vp_in_nI (show i1 < 12 by omega) (by decide)) (by decide)) dX11_fill_67 ?_
            refine lv_istore (lv' := [(5, .int ((M 44) (((12 * p1) + (nI i1)).toNatClampNeg))), (4, .int (nI i1)), (3, .int ((L_fill F M p0 p1 i1).1)), (0, .ref h), (1, .int p0), (2, .int p1)]) hx hb dX11_fill_68 hl (by decide) rfl (fun ls hl => ?_)
            refine lv_aload_n hx hb dX11_fill_70 rfl (lv_at hl 3 rfl) ?_
            refine va_get (D := (dC, dI)) (ci := 10) (v := .ref (a 42)) (C := RX11) (T := TX11) (N := 49) hx hb hts hin hown hK hP 0 rfl rfl 42 (by decide) (hts (.fieldLink RX11 107 "SocietyBookModel" "copies" "[I") (by decide +kernel)) (fun _ h9 => h9) rfl dX11_fill_71 ?_
            refine lv_bipush (v := 12) hx hb dX11_fill_74 (by decide) ?_
            refine lv_iload_n hx hb dX11_fill_76 rfl (lv_at hl 4 rfl) ?_
            refine lv_imul hx hb dX11_fill_77 ?_
            refine lv_iload hx hb dX11_fill_78 (lv_at hl 1 rfl) ?_
            refine lv_iadd hx hb dX11_fill_80 ?_
            refine lv_iload hx hb dX11_fill_81 (lv_at hl 0 rfl) ?_
            refine lv_if_ge (tgt := 90) hx hb dX11_fill_83 (by decide) (fun c5 => ?_) (fun c5 => ?_)
            · refine lv_iload hx hb dX11_fill_90 (lv_at hl 0 rfl) ?_
              refine lv_bipush (v := 9) hx hb dX11_fill_92 (by decide) ?_
              refine lv_icmp_le (tgt := 102) hx hb dX11_fill_94 (by decide) (fun c6 => ?_) (fun c6 => ?_)
              · refine lv_iload hx hb dX11_fill_102 (lv_at hl 0 rfl) ?_
                refine va_iast (f := (L_fill F M p0 p1 i1).2) hx hb hK hP hD hS 33 0 rfl rfl (ib_12 (S := 6) (ib_in c1 (by decide)) (vp_in_nI (show i1 < 12 by omega) (by decide)) (by decide)) dX11_fill_104 (fun H locs hP hD hS => ?_)
                replace hP : va_P (dC, dI) vwCl (wM h a cI cB cZ F (va_up M 42 (upd ((L_fill F M p0 p1 i1).2) (((12 * p0) + (nI i1)).toNatClampNeg) ((M 44) (((12 * p1) + (nI i1)).toNatClampNeg))))) H := hP
                replace hD : va_D A (wM h a cI cB cZ F (va_up M 42 (upd ((L_fill F M p0 p1 i1).2) (((12 * p0) + (nI i1)).toNatClampNeg) ((M 44) (((12 * p1) + (nI i1)).toNatClampNeg))))) := hD
                refine lv_iload_n hx hb dX11_fill_105 rfl (lv_at hl 2 rfl) ?_
                refine lv_aload_n hx hb dX11_fill_106 rfl (lv_at hl 3 rfl) ?_
                refine va_get (D := (dC, dI)) (ci := 10) (v := .ref (a 42)) (C := RX11) (T := TX11) (N := 49) hx hb hts hin hown hK hP 0 rfl rfl 42 (by decide) (hts (.fieldLink RX11 107 "SocietyBookModel" "copies" "[I") (by decide +kernel)) (fun _ h9 => h9) rfl dX11_fill_107 ?_
                refine lv_bipush (v := 12) hx hb dX11_fill_110 (by decide) ?_
                refine lv_iload_n hx hb dX11_fill_112 rfl (lv_at hl 4 rfl) ?_
                refine lv_imul hx hb dX11_fill_113 ?_
                refine lv_iload hx hb dX11_fill_114 (lv_at hl 1 rfl) ?_
                refine lv_iadd hx hb dX11_fill_116 ?_
                refine va_iald (f := upd ((L_fill F M p0 p1 i1).2) (((12 * p0) + (nI i1)).toNatClampNeg) ((M 44) (((12 * p1) + (nI i1)).toNatClampNeg))) hx hb hK hP 33 0 rfl rfl (ib_12 (S := 6) (ib_in c1 (by decide)) (vp_in_nI (show i1 < 12 by omega) (by decide)) (by decide)) dX11_fill_117 ?_
                refine lv_iadd hx hb dX11_fill_118 ?_
                refine lv_istore_n (lv' := [(3, .int (((L_fill F M p0 p1 i1).1) + ((upd ((L_fill F M p0 p1 i1).2) (((12 * p0) + (nI i1)).toNatClampNeg) ((M 44) (((12 * p1) + (nI i1)).toNatClampNeg))) (((12 * p0) + (nI i1)).toNatClampNeg)))), (5, .int ((M 44) (((12 * p1) + (nI i1)).toNatClampNeg))), (4, .int (nI i1)), (0, .ref h), (1, .int p0), (2, .int p1)]) hx hb dX11_fill_119 rfl hl (by decide) rfl (fun ls hl => ?_)
                refine lv_iinc (v := nI (i1 + 1)) (lv' := [(4, .int (nI (i1 + 1))), (3, .int (((L_fill F M p0 p1 i1).1) + ((upd ((L_fill F M p0 p1 i1).2) (((12 * p0) + (nI i1)).toNatClampNeg) ((M 44) (((12 * p1) + (nI i1)).toNatClampNeg))) (((12 * p0) + (nI i1)).toNatClampNeg)))), (5, .int ((M 44) (((12 * p1) + (nI i1)).toNatClampNeg))), (0, .ref h), (1, .int p0), (2, .int p1)]) hx hb dX11_fill_120 hl (k := 2) rfl (nI_1 i1) (by decide) rfl (fun ls hl => ?_)
                refine lv_goto (tgt := 38) hx hb dX11_fill_123 (by decide) ?_
                have e9 : L_fill F M p0 p1 (i1 + 1) = (((L_fill F M p0 p1 i1).1) + ((upd ((L_fill F M p0 p1 i1).2) (((12 * p0) + (nI i1)).toNatClampNeg) ((M 44) (((12 * p1) + (nI i1)).toNatClampNeg))) (((12 * p0) + (nI i1)).toNatClampNeg)), upd ((L_fill F M p0 p1 i1).2) (((12 * p0) + (nI i1)).toNatClampNeg) ((M 44) (((12 * p1) + (nI i1)).toNatClampNeg))) := by rw [L_fill]; rw [if_neg c4, if_pos c5, if_pos c6]
                refine kk1 ls H locs (show lv_has ls 6 [(4, .int (nI (i1 + 1))), (3, .int ((L_fill F M p0 p1 (i1 + 1)).1)), (0, .ref h), (1, .int p0), (2, .int p1)] from ?_) (show va_P (dC, dI) vwCl (wM h a cI cB cZ F (va_up M 42 ((L_fill F M p0 p1 (i1 + 1)).2))) H from ?_) (show va_D A (wM h a cI cB cZ F (va_up M 42 ((L_fill F M p0 p1 (i1 + 1)).2))) from ?_) hS
                · rw [e9]; exact lv_sub hl [0, 1, 3, 4, 5] rfl
                · rw [e9]; exact hP
                · rw [e9]; exact hD
              · refine lv_bipush (v := 9) hx hb dX11_fill_97 (by decide) ?_
                refine lv_goto (tgt := 104) hx hb dX11_fill_99 (by decide) ?_
                refine va_iast (f := (L_fill F M p0 p1 i1).2) hx hb hK hP hD hS 33 0 rfl rfl (ib_12 (S := 6) (ib_in c1 (by decide)) (vp_in_nI (show i1 < 12 by omega) (by decide)) (by decide)) dX11_fill_104 (fun H locs hP hD hS => ?_)
                replace hP : va_P (dC, dI) vwCl (wM h a cI cB cZ F (va_up M 42 (upd ((L_fill F M p0 p1 i1).2) (((12 * p0) + (nI i1)).toNatClampNeg) 9))) H := hP
                replace hD : va_D A (wM h a cI cB cZ F (va_up M 42 (upd ((L_fill F M p0 p1 i1).2) (((12 * p0) + (nI i1)).toNatClampNeg) 9))) := hD
                refine lv_iload_n hx hb dX11_fill_105 rfl (lv_at hl 2 rfl) ?_
                refine lv_aload_n hx hb dX11_fill_106 rfl (lv_at hl 3 rfl) ?_
                refine va_get (D := (dC, dI)) (ci := 10) (v := .ref (a 42)) (C := RX11) (T := TX11) (N := 49) hx hb hts hin hown hK hP 0 rfl rfl 42 (by decide) (hts (.fieldLink RX11 107 "SocietyBookModel" "copies" "[I") (by decide +kernel)) (fun _ h9 => h9) rfl dX11_fill_107 ?_
                refine lv_bipush (v := 12) hx hb dX11_fill_110 (by decide) ?_
                refine lv_iload_n hx hb dX11_fill_112 rfl (lv_at hl 4 rfl) ?_
                refine lv_imul hx hb dX11_fill_113 ?_
                refine lv_iload hx hb dX11_fill_114 (lv_at hl 1 rfl) ?_
                refine lv_iadd hx hb dX11_fill_116 ?_
                refine va_iald (f := upd ((L_fill F M p0 p1 i1).2) (((12 * p0) + (nI i1)).toNatClampNeg) 9) hx hb hK hP 33 0 rfl rfl (ib_12 (S := 6) (ib_in c1 (by decide)) (vp_in_nI (show i1 < 12 by omega) (by decide)) (by decide)) dX11_fill_117 ?_
                refine lv_iadd hx hb dX11_fill_118 ?_
                refine lv_istore_n (lv' := [(3, .int (((L_fill F M p0 p1 i1).1) + ((upd ((L_fill F M p0 p1 i1).2) (((12 * p0) + (nI i1)).toNatClampNeg) 9) (((12 * p0) + (nI i1)).toNatClampNeg)))), (5, .int ((M 44) (((12 * p1) + (nI i1)).toNatClampNeg))), (4, .int (nI i1)), (0, .ref h), (1, .int p0), (2, .int p1)]) hx hb dX11_fill_119 rfl hl (by decide) rfl (fun ls hl => ?_)
                refine lv_iinc (v := nI (i1 + 1)) (lv' := [(4, .int (nI (i1 + 1))), (3, .int (((L_fill F M p0 p1 i1).1) + ((upd ((L_fill F M p0 p1 i1).2) (((12 * p0) + (nI i1)).toNatClampNeg) 9) (((12 * p0) + (nI i1)).toNatClampNeg)))), (5, .int ((M 44) (((12 * p1) + (nI i1)).toNatClampNeg))), (0, .ref h), (1, .int p0), (2, .int p1)]) hx hb dX11_fill_120 hl (k := 2) rfl (nI_1 i1) (by decide) rfl (fun ls hl => ?_)
                refine lv_goto (tgt := 38) hx hb dX11_fill_123 (by decide) ?_
                have e9 : L_fill F M p0 p1 (i1 + 1) = (((L_fill F M p0 p1 i1).1) + ((upd ((L_fill F M p0 p1 i1).2) (((12 * p0) + (nI i1)).toNatClampNeg) 9) (((12 * p0) + (nI i1)).toNatClampNeg)), upd ((L_fill F M p0 p1 i1).2) (((12 * p0) + (nI i1)).toNatClampNeg) 9) := by rw [L_fill]; rw [if_neg c4, if_pos c5, if_neg c6]
                refine kk1 ls H locs (show lv_has ls 6 [(4, .int (nI (i1 + 1))), (3, .int ((L_fill F M p0 p1 (i1 + 1)).1)), (0, .ref h), (1, .int p0), (2, .int p1)] from ?_) (show va_P (dC, dI) vwCl (wM h a cI cB cZ F (va_up M 42 ((L_fill F M p0 p1 (i1 + 1)).2))) H from ?_) (show va_D A (wM h a cI cB cZ F (va_up M 42 ((L_fill F M p0 p1 (i1 + 1)).2))) from ?_) hS
                · rw [e9]; exact lv_sub hl [0, 1, 3, 4, 5] rfl
                · rw [e9]; exact hP
                · rw [e9]; exact hD
            · refine lv_iconst (v := 0) hx hb dX11_fill_86 (by decide) ?_
              refine lv_goto (tgt := 104) hx hb dX11_fill_87 (by decide) ?_
              refine va_iast (f := (L_fill F M p0 p1 i1).2) hx hb hK hP hD hS 33 0 rfl rfl (ib_12 (S := 6) (ib_in c1 (by decide)) (vp_in_nI (show i1 < 12 by omega) (by decide)) (by decide)) dX11_fill_104 (fun H locs hP hD hS => ?_)
              replace hP : va_P (dC, dI) vwCl (wM h a cI cB cZ F (va_up M 42 (upd ((L_fill F M p0 p1 i1).2) (((12 * p0) + (nI i1)).toNatClampNeg) 0))) H := hP
              replace hD : va_D A (wM h a cI cB cZ F (va_up M 42 (upd ((L_fill F M p0 p1 i1).2) (((12 * p0) + (nI i1)).toNatClampNeg) 0))) := hD
              refine lv_iload_n hx hb dX11_fill_105 rfl (lv_at hl 2 rfl) ?_
              refine lv_aload_n hx hb dX11_fill_106 rfl (lv_at hl 3 rfl) ?_
              refine va_get (D := (dC, dI)) (ci := 10) (v := .ref (a 42)) (C := RX11) (T := TX11) (N := 49) hx hb hts hin hown hK hP 0 rfl rfl 42 (by decide) (hts (.fieldLink RX11 107 "SocietyBookModel" "copies" "[I") (by decide +kernel)) (fun _ h9 => h9) rfl dX11_fill_107 ?_
              refine lv_bipush (v := 12) hx hb dX11_fill_110 (by decide) ?_
              refine lv_iload_n hx hb dX11_fill_112 rfl (lv_at hl 4 rfl) ?_
              refine lv_imul hx hb dX11_fill_113 ?_
              refine lv_iload hx hb dX11_fill_114 (lv_at hl 1 rfl) ?_
              refine lv_iadd hx hb dX11_fill_116 ?_
              refine va_iald (f := upd ((L_fill F M p0 p1 i1).2) (((12 * p0) + (nI i1)).toNatClampNeg) 0) hx hb hK hP 33 0 rfl rfl (ib_12 (S := 6) (ib_in c1 (by decide)) (vp_in_nI (show i1 < 12 by omega) (by decide)) (by decide)) dX11_fill_117 ?_
              refine lv_iadd hx hb dX11_fill_118 ?_
              refine lv_istore_n (lv' := [(3, .int (((L_fill F M p0 p1 i1).1) + ((upd ((L_fill F M p0 p1 i1).2) (((12 * p0) + (nI i1)).toNatClampNeg) 0) (((12 * p0) + (nI i1)).toNatClampNeg)))), (5, .int ((M 44) (((12 * p1) + (nI i1)).toNatClampNeg))), (4, .int (nI i1)), (0, .ref h), (1, .int p0), (2, .int p1)]) hx hb dX11_fill_119 rfl hl (by decide) rfl (fun ls hl => ?_)
              refine lv_iinc (v := nI (i1 + 1)) (lv' := [(4, .int (nI (i1 + 1))), (3, .int (((L_fill F M p0 p1 i1).1) + ((upd ((L_fill F M p0 p1 i1).2) (((12 * p0) + (nI i1)).toNatClampNeg) 0) (((12 * p0) + (nI i1)).toNatClampNeg)))), (5, .int ((M 44) (((12 * p1) + (nI i1)).toNatClampNeg))), (0, .ref h), (1, .int p0), (2, .int p1)]) hx hb dX11_fill_120 hl (k := 2) rfl (nI_1 i1) (by decide) rfl (fun ls hl => ?_)
              refine lv_goto (tgt := 38) hx hb dX11_fill_123 (by decide) ?_
              have e9 : L_fill F M p0 p1 (i1 + 1) = (((L_fill F M p0 p1 i1).1) + ((upd ((L_fill F M p0 p1 i1).2) (((12 * p0) + (nI i1)).toNatClampNeg) 0) (((12 * p0) + (nI i1)).toNatClampNeg)), upd ((L_fill F M p0 p1 i1).2) (((12 * p0) + (nI i1)).toNatClampNeg) 0) := by rw [L_fill]; rw [if_neg c4, if_neg c5]
              refine kk1 ls H locs (show lv_has ls 6 [(4, .int (nI (i1 + 1))), (3, .int ((L_fill F M p0 p1 (i1 + 1)).1)), (0, .ref h), (1, .int p0), (2, .int p1)] from ?_) (show va_P (dC, dI) vwCl (wM h a cI cB cZ F (va_up M 42 ((L_fill F M p0 p1 (i1 + 1)).2))) H from ?_) (show va_D A (wM h a cI cB cZ F (va_up M 42 ((L_fill F M p0 p1 (i1 + 1)).2))) from ?_) hS
              · rw [e9]; exact lv_sub hl [0, 1, 3, 4, 5] rfl
              · rw [e9]; exact hP
              · rw [e9]; exact hD
        · replace hl : lv_has ls 6 [(4, .int (nI 12)), (3, .int ((L_fill F M p0 p1 12).1)), (0, .ref h), (1, .int p0), (2, .int p1)] := hl
          replace hP : va_P (dC, dI) vwCl (wM h a cI cB cZ F (va_up M 42 ((L_fill F M p0 p1 12).2))) H := hP
          replace hD : va_D A (wM h a cI cB cZ F (va_up M 42 ((L_fill F M p0 p1 12).2))) := hD
          refine lv_iload hx hb dX11_fill_38 (lv_at hl 0 rfl) ?_
          refine lv_bipush (v := 12) hx hb dX11_fill_40 (by decide) ?_
          refine lv_icmp_ge (tgt := 126) hx hb dX11_fill_42 (by decide) (fun _ => ?_) (fun c => absurd (lb_y (by decide)) c)
          refine lv_iload_n hx hb dX11_fill_126 rfl (lv_at hl 1 rfl) ?_
          exact W.iret (v := (L_fill F M p0 p1 12).1) hx hb hr (fun t ht hW => ⟨⟨(L_fill F M p0 p1 12).1, (F, va_up M 42 ((L_fill F M p0 p1 12).2)), rfl, by unfold s_X11_fill; rw [if_pos c1, if_pos c2, if_pos c3], ⟨by rw [ht]; exact hP, va_K.moved hW.alike hK⟩, hD⟩, hS.F ht⟩) hS.2.2 dX11_fill_127
      · refine lv_aload_n hx hb dX11_fill_27 rfl (lv_at hl 0 rfl) ?_
        refine lv_iconst (v := 1) hx hb dX11_fill_28 (by decide) ?_
        refine va_calli (va_runV (As := [.int 1]) (rest := []) ⟨hx, hb, hml, hown, hts⟩ (c_X11_meets l dC dI h a cI cB cZ F M 1 A hD (ib_lit (by decide))) (cwV 1 hts gX11_fill_X11_meets rfl rfl rfl (by decide +kernel) ⟨Nat.le_of_ble_eq_true rfl, Nat.le_of_ble_eq_true rfl⟩) ⟨pm_blind, va_recv hK hP (ci := 10) (q0 := 0) rfl rfl, fun U hU hW => ⟨rfl, by rw [hU]; exact hP, va_K.moved hW.alike hK⟩⟩ rfl rfl hl.1 rfl (lv_room (Nat.le_of_ble_eq_true rfl)) dX11_fill_29 ⟨Nat.zero_le _, Nat.zero_le _⟩) hS (fun q _ h => h) (fun q h => h) (fun r u t H1 locs ht hvm hw hB hz1 hk1 hS => ?_)
        obtain ⟨hr9, hu9⟩ : r = (s_X11_meets F M 1).1 ∧ u = (s_X11_meets F M 1).2 := ⟨congrArg Prod.fst hw, congrArg Prod.snd hw⟩
        subst hr9; subst hu9
        obtain ⟨⟨hP, -⟩, hD⟩ := hB
        rw [ht] at hP
        clear hw hz1 hk1 ht hvm; generalize H1 = H at hP hS ⊢
        exact W.iret (v := (s_X11_meets F M 1).1) hx hb hr (fun t ht hW => ⟨⟨(s_X11_meets F M 1).1, ((s_X11_meets F M 1).2.1, (s_X11_meets F M 1).2.2), rfl, by unfold s_X11_fill; rw [if_pos c1, if_pos c2, if_neg c3], ⟨by rw [ht]; exact hP, va_K.moved hW.alike hK⟩, hD⟩, hS.F ht⟩) hS.2.2 dX11_fill_32
    · replace c2 := bo_f c2
      refine lv_iconst (v := (-1)) hx hb dX11_fill_16 (by decide) ?_
      exact W.iret (v := (-1)) hx hb hr (fun t ht hW => ⟨⟨(-1), (F, M), rfl, by unfold s_X11_fill; rw [if_pos c1, if_neg c2], ⟨by rw [ht]; exact hP, va_K.moved hW.alike hK⟩, hD⟩, hS.F ht⟩) hS.2.2 dX11_fill_17

def L_lacking (F : Nat → Int32) (M : Nat → Nat → Int32)  : Nat → Int32
  | 0 => 0
  | i1 + 1 =>
    if ((M 42) i1) = 0 then (L_lacking F M i1) ||| (1 <<< ((nI i1) &&& 31)) else
    (L_lacking F M i1) ||| 0
def s_X11_lacking (F : Nat → Int32) (M : Nat → Nat → Int32)  : Int32 :=
  (L_lacking F M 12)
set_option maxHeartbeats 4000000 in
set_option maxRecDepth 100000 in
theorem c_X11_lacking (l : Launch) (dC : Nat → ClassId) (dI : Nat → Nat → Nat) (h : Nat) (a : Nat → Nat) (cI cB cZ : ClassId) (F : Nat → Int32) (M : Nat → Nat → Int32) : Met l yX11_lacking wsX11_lacking ({ frames := 0, cells := 0, slots := 0, locals := 0 } : Room) (va_Pc [.ref h] (pM dC dI h a cI cB cZ F M)) (vp_Si (fun r => r = s_X11_lacking F M)) 0 0 (fun _ => False) := by
  refine Met.ofW (cc := cX11_lacking) (maxL := 3) (ret := (some .int)) (by decide) rfl ?_
  intro p e s m args below meth c s₁ B hml hv
  obtain ⟨rfl, hP, hK⟩ := hv
  have hx := B.exec
  have hb := B.bytes
  have hr := B.returns
  have hts := atoms_spec (ws := wsX11_lacking) B.pre
  have hown : s.vm.findClass RX11 = some m.cls := findClass_of_methodNamed B.named
  have hlocks := B.notSynchronized
  have hin : ∀ w ∈ wsX110, w ∈ wsX11_lacking := by decide +kernel
  have hl := lv_entry ([.ref h]) (n := 3) (Nat.le_of_ble_eq_true rfl)
  rw [lg_entry_eq]
  generalize (lg_sl ([.ref h]) ++ List.replicate (3 - (lg_sl ([.ref h])).length) Slot.unset).toArray = ls at hl ⊢
  have hl : lv_has ls 3 [(0, .ref h)] := hl
  refine lv_iconst (v := 0) hx hb dX11_lacking_0 (by decide) ?_
  refine lv_istore_n (lv' := [(1, .int 0), (0, .ref h)]) hx hb dX11_lacking_1 rfl hl (by decide) rfl (fun ls hl => ?_)
  refine lv_iconst (v := 0) hx hb dX11_lacking_2 (by decide) ?_
  refine lv_istore_n (lv' := [(2, .int 0), (1, .int 0), (0, .ref h)]) hx hb dX11_lacking_3 rfl hl (by decide) rfl (fun ls hl => ?_)
  refine lp_for (N := 12) (lv := fun i1 => [(2, .int (nI i1)), (1, .int (L_lacking F M i1)), (0, .ref h)]) (lv_sub hl [0, 1, 2] rfl) (fun i1 hi1 ls hl kk1 => ?_) (fun ls hl => ?_)
  · replace hl : lv_has ls 3 [(2, .int (nI i1)), (1, .int (L_lacking F M i1)), (0, .ref h)] := hl
    refine lv_iload_n hx hb dX11_lacking_4 rfl (lv_at hl 0 rfl) ?_
    refine lv_bipush (v := 12) hx hb dX11_lacking_5 (by decide) ?_
    refine lv_icmp_ge (tgt := 35) hx hb dX11_lacking_7 (by decide) (fun c => absurd c (lb_n (by decide) hi1)) (fun _ => ?_)
    refine lv_iload_n hx hb dX11_lacking_10 rfl (lv_at hl 1 rfl) ?_
    refine lv_aload_n hx hb dX11_lacking_11 rfl (lv_at hl 2 rfl) ?_
    refine va_get (D := (dC, dI)) (ci := 10) (v := .ref (a 42)) (C := RX11) (T := TX11) (N := 49) hx hb hts hin hown hK hP 0 rfl rfl 42 (by decide) (hts (.fieldLink RX11 107 "SocietyBookModel" "copies" "[I") (by decide +kernel)) (fun _ h9 => h9) rfl dX11_lacking_12 ?_
    refine lv_iload_n hx hb dX11_lacking_15 rfl (lv_at hl 0 rfl) ?_
    refine va_iald (f := M 42) hx hb hK hP 33 0 rfl rfl (vp_in_nI (show i1 < 72 by omega) (by decide)) dX11_lacking_16 ?_
    rw [nI_clamp (show i1 < 2 ^ 31 by omega)]
    refine lv_if_ne (tgt := 26) hx hb dX11_lacking_17 (by decide) (fun c1 => ?_) (fun c1 => ?_)
    · refine lv_iconst (v := 0) hx hb dX11_lacking_26 (by decide) ?_
      refine lv_ior hx hb dX11_lacking_27 ?_
      refine lv_istore_n (lv' := [(1, .int ((L_lacking F M i1) ||| 0)), (2, .int (nI i1)), (0, .ref h)]) hx hb dX11_lacking_28 rfl hl (by decide) rfl (fun ls hl => ?_)
      refine lv_iinc (v := nI (i1 + 1)) (lv' := [(2, .int (nI (i1 + 1))), (1, .int ((L_lacking F M i1) ||| 0)), (0, .ref h)]) hx hb dX11_lacking_29 hl (k := 1) rfl (nI_1 i1) (by decide) rfl (fun ls hl => ?_)
      refine lv_goto (tgt := 4) hx hb dX11_lacking_32 (by decide) ?_
      have e9 : L_lacking F M (i1 + 1) = (L_lacking F M i1) ||| 0 := by rw [L_lacking]; rw [if_neg c1]
      refine kk1 ls (show lv_has ls 3 [(2, .int (nI (i1 + 1))), (1, .int (L_lacking F M (i1 + 1))), (0, .ref h)] from ?_)
      rw [e9]; exact lv_sub hl [0, 1, 2] rfl
    · refine lv_iconst (v := 1) hx hb dX11_lacking_20 (by decide) ?_
      refine lv_iload_n hx hb dX11_lacking_21 rfl (lv_at hl 0 rfl) ?_
      refine lv_ishl hx hb dX11_lacking_22 ?_
      refine lv_goto (tgt := 27) hx hb dX11_lacking_23 (by decide) ?_
      refine lv_ior hx hb dX11_lacking_27 ?_
      refine lv_istore_n (lv' := [(1, .int ((L_lacking F M i1) ||| (1 <<< ((nI i1) &&& 31)))), (2, .int (nI i1)), (0, .ref h)]) hx hb dX11_lacking_28 rfl hl (by decide) rfl (fun ls hl => ?_)
      refine lv_iinc (v := nI (i1 + 1)) (lv' := [(2, .int (nI (i1 + 1))), (1, .int ((L_lacking F M i1) ||| (1 <<< ((nI i1) &&& 31)))), (0, .ref h)]) hx hb dX11_lacking_29 hl (k := 1) rfl (nI_1 i1) (by decide) rfl (fun ls hl => ?_)
      refine lv_goto (tgt := 4) hx hb dX11_lacking_32 (by decide) ?_
      have e9 : L_lacking F M (i1 + 1) = (L_lacking F M i1) ||| (1 <<< ((nI i1) &&& 31)) := by rw [L_lacking]; rw [if_pos c1]
      refine kk1 ls (show lv_has ls 3 [(2, .int (nI (i1 + 1))), (1, .int (L_lacking F M (i1 + 1))), (0, .ref h)] from ?_)
      rw [e9]; exact lv_sub hl [0, 1, 2] rfl
  · replace hl : lv_has ls 3 [(2, .int (nI 12)), (1, .int (L_lacking F M 12)), (0, .ref h)] := hl
    refine lv_iload_n hx hb dX11_lacking_4 rfl (lv_at hl 0 rfl) ?_
    refine lv_bipush (v := 12) hx hb dX11_lacking_5 (by decide) ?_
    refine lv_icmp_ge (tgt := 35) hx hb dX11_lacking_7 (by decide) (fun _ => ?_) (fun c => absurd (lb_y (by decide)) c)
    refine lv_iload_n hx hb dX11_lacking_35 rfl (lv_at hl 1 rfl) ?_
    exact W.iret (v := (L_lacking F M 12)) hx hb hr (fun t ht hW => ⟨(L_lacking F M 12), rfl, by unfold s_X11_lacking; rfl, ht⟩) (fun _ h => by cases h) dX11_lacking_36

def s_X11_lacks (F : Nat → Int32) (M : Nat → Nat → Int32)  : Int32 :=
  s_X11_lacking F M
set_option maxHeartbeats 4000000 in
set_option maxRecDepth 100000 in
theorem c_X11_lacks (l : Launch) (dC : Nat → ClassId) (dI : Nat → Nat → Nat) (h : Nat) (a : Nat → Nat) (cI cB cZ : ClassId) (F : Nat → Int32) (M : Nat → Nat → Int32) : Met l yX11_lacks wsX11_lacks ({ frames := 1, cells := 0, slots := 0, locals := 22 } : Room) (va_Pc [.ref h] (pM dC dI h a cI cB cZ F M)) (vp_Si (fun r => r = s_X11_lacks F M)) 0 0 (fun _ => False) := by
  refine Met.ofW (cc := cX11_lacks) (maxL := 1) (ret := (some .int)) (by decide) rfl ?_
  intro p e s m args below meth c s₁ B hml hv
  obtain ⟨rfl, hP, hK⟩ := hv
  have hx := B.exec
  have hb := B.bytes
  have hr := B.returns
  have hts := atoms_spec (ws := wsX11_lacks) B.pre
  have hown : s.vm.findClass RX11 = some m.cls := findClass_of_methodNamed B.named
  have hlocks := B.notSynchronized
  have hl := lv_entry ([.ref h]) (n := 1) (Nat.le_of_ble_eq_true rfl)
  rw [lg_entry_eq]
  generalize (lg_sl ([.ref h]) ++ List.replicate (1 - (lg_sl ([.ref h])).length) Slot.unset).toArray = ls at hl ⊢
  have hl : lv_has ls 1 [(0, .ref h)] := hl
  refine lv_aload_n hx hb dX11_lacks_0 rfl (lv_at hl 0 rfl) ?_
  refine vp_callSi (W.runV (As := []) (rest := []) ⟨hx, hb, hml, hown, hts⟩ (c_X11_lacking l dC dI h a cI cB cZ F M ) (cwV 0 hts gX11_lacks_X11_lacking rfl rfl rfl (by decide +kernel) ⟨Nat.le_of_ble_eq_true rfl, Nat.le_of_ble_eq_true rfl⟩) ⟨pm_blind, va_recv hK hP (ci := 10) (q0 := 0) rfl rfl, fun U hU hW => ⟨rfl, by rw [hU]; exact hP, va_K.moved hW.alike hK⟩⟩ rfl rfl hl.1 rfl (lv_room (Nat.le_of_ble_eq_true rfl)) dX11_lacks_1 ⟨Nat.zero_le _, Nat.zero_le _⟩) (fun r hr9 => ?_)
  subst hr9
  exact W.iret (v := s_X11_lacking F M) hx hb hr (fun t ht hW => ⟨s_X11_lacking F M, rfl, by unfold s_X11_lacks; rfl, ht⟩) (fun _ h => by cases h) dX11_lacks_4

def s_X11_count (F : Nat → Int32) (M : Nat → Nat → Int32) (p0 : Int32) : Int32 :=
  if p0 = 0 then F 3 else
  if p0 = 1 then F 4 else
  if p0 = 2 then F 7 else
  if p0 = 3 then F 16 else
  if p0 = 4 then F 21 else
  if p0 = 5 then F 25 else
  if p0 = 6 then F 32 else
  if p0 = 7 then F 38 else
  (-1)
set_option maxHeartbeats 4000000 in
set_option maxRecDepth 100000 in
theorem c_X11_count (l : Launch) (dC : Nat → ClassId) (dI : Nat → Nat → Nat) (h : Nat) (a : Nat → Nat) (cI cB cZ : ClassId) (F : Nat → Int32) (M : Nat → Nat → Int32) (p0 : Int32) : Met l yX11_count wsX11_count ({ frames := 0, cells := 0, slots := 0, locals := 0 } : Room) (va_Pc [.ref h, .int p0] (pM dC dI h a cI cB cZ F M)) (vp_Si (fun r => r = s_X11_count F M p0)) 0 0 (fun _ => False) := by
  refine Met.ofW (cc := cX11_count) (maxL := 2) (ret := (some .int)) (by decide) rfl ?_
  intro p e s m args below meth c s₁ B hml hv
  obtain ⟨rfl, hP, hK⟩ := hv
  have hx := B.exec
  have hb := B.bytes
  have hr := B.returns
  have hts := atoms_spec (ws := wsX11_count) B.pre
  have hown : s.vm.findClass RX11 = some m.cls := findClass_of_methodNamed B.named
  have hlocks := B.notSynchronized
  have hin : ∀ w ∈ wsX110, w ∈ wsX11_count := by decide +kernel
  have hl := lv_entry ([.ref h, .int p0]) (n := 2) (Nat.le_of_ble_eq_true rfl)
  rw [lg_entry_eq]
  generalize (lg_sl ([.ref h, .int p0]) ++ List.replicate (2 - (lg_sl ([.ref h, .int p0])).length) Slot.unset).toArray = ls at hl ⊢
  have hl : lv_has ls 2 [(0, .ref h), (1, .int p0)] := hl
  refine lv_iload_n hx hb dX11_count_0 rfl (lv_at hl 1 rfl) ?_
  by_cases c1 : p0 = 0
  · refine lv_tableIn (tgt := 48) (off := 47) hx hb dX11_count_1 (by rw [c1]; decide) (by rw [c1]; decide) (by rw [c1]; decide +kernel) (by decide) ?_
    refine lv_aload_n hx hb dX11_count_48 rfl (lv_at hl 0 rfl) ?_
    refine va_get (D := (dC, dI)) (ci := 10) (v := .int (F 3)) (C := RX11) (T := TX11) (N := 49) hx hb hts hin hown hK hP 0 rfl rfl 3 (by decide) (hts (.fieldLink RX11 140 "SocietyBookModel" "today" "I") (by decide +kernel)) (fun _ h9 => h9) rfl dX11_count_49 ?_
    exact W.iret (v := F 3) hx hb hr (fun t ht hW => ⟨F 3, rfl, by unfold s_X11_count; rw [if_pos c1], ht⟩) (fun _ h => by cases h) dX11_count_52
  · by_cases c2 : p0 = 1
    · refine lv_tableIn (tgt := 53) (off := 52) hx hb dX11_count_1 (by rw [c2]; decide) (by rw [c2]; decide) (by rw [c2]; decide +kernel) (by decide) ?_
      refine lv_aload_n hx hb dX11_count_53 rfl (lv_at hl 0 rfl) ?_
      refine va_get (D := (dC, dI)) (ci := 10) (v := .int (F 4)) (C := RX11) (T := TX11) (N := 49) hx hb hts hin hown hK hP 0 rfl rfl 4 (by decide) (hts (.fieldLink RX11 143 "SocietyBookModel" "fellows" "I") (by decide +kernel)) (fun _ h9 => h9) rfl dX11_count_54 ?_
      exact W.iret (v := F 4) hx hb hr (fun t ht hW => ⟨F 4, rfl, by unfold s_X11_count; rw [if_neg c1, if_pos c2], ht⟩) (fun _ h => by cases h) dX11_count_57
    · by_cases c3 : p0 = 2
      · refine lv_tableIn (tgt := 58) (off := 57) hx hb dX11_count_1 (by rw [c3]; decide) (by rw [c3]; decide) (by rw [c3]; decide +kernel) (by decide) ?_
        refine lv_aload_n hx hb dX11_count_58 rfl (lv_at hl 0 rfl) ?_
        refine va_get (D := (dC, dI)) (ci := 10) (v := .int (F 7)) (C := RX11) (T := TX11) (N := 49) hx hb hts hin hown hK hP 0 rfl rfl 7 (by decide) (hts (.fieldLink RX11 146 "SocietyBookModel" "papers" "I") (by decide +kernel)) (fun _ h9 => h9) rfl dX11_count_59 ?_
        exact W.iret (v := F 7) hx hb hr (fun t ht hW => ⟨F 7, rfl, by unfold s_X11_count; rw [if_neg c1, if_neg c2, if_pos c3], ht⟩) (fun _ h => by cases h) dX11_count_62
      · by_cases c4 : p0 = 3
        · refine lv_tableIn (tgt := 63) (off := 62) hx hb dX11_count_1 (by rw [c4]; decide) (by rw [c4]; decide) (by rw [c4]; decide +kernel) (by decide) ?_
          refine lv_aload_n hx hb dX11_count_63 rfl (lv_at hl 0 rfl) ?_
          refine va_get (D := (dC, dI)) (ci := 10) (v := .int (F 16)) (C := RX11) (T := TX11) (N := 49) hx hb hts hin hown hK hP 0 rfl rfl 16 (by decide) (hts (.fieldLink RX11 154 "SocietyBookModel" "notes" "I") (by decide +kernel)) (fun _ h9 => h9) rfl dX11_count_64 ?_
          exact W.iret (v := F 16) hx hb hr (fun t ht hW => ⟨F 16, rfl, by unfold s_X11_count; rw [if_neg c1, if_neg c2, if_neg c3, if_pos c4], ht⟩) (fun _ h => by cases h) dX11_count_67
        · by_cases c5 : p0 = 4
          · refine lv_tableIn (tgt := 68) (off := 67) hx hb dX11_count_1 (by rw [c5]; decide) (by rw [c5]; decide) (by rw [c5]; decide +kernel) (by decide) ?_
            refine lv_aload_n hx hb dX11_count_68 rfl (lv_at hl 0 rfl) ?_
            refine va_get (D := (dC, dI)) (ci := 10) (v := .int (F 21)) (C := RX11) (T := TX11) (N := 49) hx hb hts hin hown hK hP 0 rfl rfl 21 (by decide) (hts (.fieldLink RX11 181 "SocietyBookModel" "statutes" "I") (by decide +kernel)) (fun _ h9 => h9) rfl dX11_count_69 ?_
            exact W.iret (v := F 21) hx hb hr (fun t ht hW => ⟨F 21, rfl, by unfold s_X11_count; rw [if_neg c1, if_neg c2, if_neg c3, if_neg c4, if_pos c5], ht⟩) (fun _ h => by cases h) dX11_count_72
          · by_cases c6 : p0 = 5
            · refine lv_tableIn (tgt := 73) (off := 72) hx hb dX11_count_1 (by rw [c6]; decide) (by rw [c6]; decide) (by rw [c6]; decide +kernel) (by decide) ?_
              refine lv_aload_n hx hb dX11_count_73 rfl (lv_at hl 0 rfl) ?_
              refine va_get (D := (dC, dI)) (ci := 10) (v := .int (F 25)) (C := RX11) (T := TX11) (N := 49) hx hb hts hin hown hK hP 0 rfl rfl 25 (by decide) (hts (.fieldLink RX11 196 "SocietyBookModel" "byelaws" "I") (by decide +kernel)) (fun _ h9 => h9) rfl dX11_count_74 ?_
              exact W.iret (v := F 25) hx hb hr (fun t ht hW => ⟨F 25, rfl, by unfold s_X11_count; rw [if_neg c1, if_neg c2, if_neg c3, if_neg c4, if_neg c5, if_pos c6], ht⟩) (fun _ h => by cases h) dX11_count_77
            · by_cases c7 : p0 = 6
              · refine lv_tableIn (tgt := 78) (off := 77) hx hb dX11_count_1 (by rw [c7]; decide) (by rw [c7]; decide) (by rw [c7]; decide +kernel) (by decide) ?_
                refine lv_aload_n hx hb dX11_count_78 rfl (lv_at hl 0 rfl) ?_
                refine va_get (D := (dC, dI)) (ci := 10) (v := .int (F 32)) (C := RX11) (T := TX11) (N := 49) hx hb hts hin hown hK hP 0 rfl rfl 32 (by decide) (hts (.fieldLink RX11 199 "SocietyBookModel" "candidates" "I") (by decide +kernel)) (fun _ h9 => h9) rfl dX11_count_79 ?_
                exact W.iret (v := F 32) hx hb hr (fun t ht hW => ⟨F 32, rfl, by unfold s_X11_count; rw [if_neg c1, if_neg c2, if_neg c3, if_neg c4, if_neg c5, if_neg c6, if_pos c7], ht⟩) (fun _ h => by cases h) dX11_count_82
              · by_cases c8 : p0 = 7
                · refine lv_tableIn (tgt := 83) (off := 82) hx hb dX11_count_1 (by rw [c8]; decide) (by rw [c8]; decide) (by rw [c8]; decide +kernel) (by decide) ?_
                  refine lv_aload_n hx hb dX11_count_83 rfl (lv_at hl 0 rfl) ?_
                  refine va_get (D := (dC, dI)) (ci := 10) (v := .int (F 38)) (C := RX11) (T := TX11) (N := 49) hx hb hts hin hown hK hP 0 rfl rfl 38 (by decide) (hts (.fieldLink RX11 210 "SocietyBookModel" "awards" "I") (by decide +kernel)) (fun _ h9 => h9) rfl dX11_count_84 ?_
                  exact W.iret (v := F 38) hx hb hr (fun t ht hW => ⟨F 38, rfl, by unfold s_X11_count; rw [if_neg c1, if_neg c2, if_neg c3, if_neg c4, if_neg c5, if_neg c6, if_neg c7, if_pos c8], ht⟩) (fun _ h => by cases h) dX11_count_87
                · refine lv_tableOut (tgt := 88) hx hb dX11_count_1 (ts_out8 c1 c2 c3 c4 c5 c6 c7 c8) (by decide) ?_
                  refine lv_iconst (v := (-1)) hx hb dX11_count_88 (by decide) ?_
                  exact W.iret (v := (-1)) hx hb hr (fun t ht hW => ⟨(-1), rfl, by unfold s_X11_count; rw [if_neg c1, if_neg c2, if_neg c3, if_neg c4, if_neg c5, if_neg c6, if_neg c7, if_neg c8], ht⟩) (fun _ h => by cases h) dX11_count_89
