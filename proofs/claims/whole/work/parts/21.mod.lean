set_option maxHeartbeats 4000000 in
set_option maxRecDepth 100000 in
theorem c_X11_in (l : Launch) (p0 : Int32) (p1 : Int32) (p2 : Int32) : Met l yX11_in wsX11_in ({ frames := 0, cells := 0, slots := 0, locals := 0 } : Room) (va_Pc [.int p0, .int p1, .int p2] (fun _ => True)) (vp_Si (fun r => r = if p1 ≤ p0 ∧ p0 ≤ p2 then 1 else 0)) 0 0 (fun _ => False) := by
  refine Met.ofW (cc := cX11_in) (maxL := 3) (ret := (some .boolean)) (by decide) rfl ?_
  intro p e s m args below meth c s₁ B hml hv
  obtain ⟨rfl, -⟩ := hv
  have hx := B.exec
  have hb := B.bytes
  have hr := B.returns
  have hts := atoms_spec (ws := wsX11_in) B.pre
  have hown : s.vm.findClass RX11 = some m.cls := findClass_of_methodNamed B.named
  have hlocks := B.notSynchronized
  have hl := lv_entry ([.int p0, .int p1, .int p2]) (n := 3) (Nat.le_of_ble_eq_true rfl)
  rw [lg_entry_eq]
  generalize (lg_sl ([.int p0, .int p1, .int p2]) ++ List.replicate (3 - (lg_sl ([.int p0, .int p1, .int p2])).length) Slot.unset).toArray = ls at hl ⊢
  have hl : lv_has ls 3 [(0, .int p0), (1, .int p1), (2, .int p2)] := hl
  refine lv_iload_n hx hb dX11_in_0 rfl (lv_at hl 0 rfl) ?_
  refine lv_iload_n hx hb dX11_in_1 rfl (lv_at hl 1 rfl) ?_
  refine lv_icmp_lt (tgt := 14) hx hb dX11_in_2 (by decide) (fun c1 => ?_) (fun c1 => ?_)
  · refine lv_iconst (v := 0) hx hb dX11_in_14 (by decide) ?_
    exact W.zret (v := 0) hx hb hr (rfl) (fun t ht hW => ⟨0, rfl, by exact (if_neg (fun q => absurd c1 (Int32.not_lt.mpr q.1))).symm, ht⟩) (fun _ h => by cases h) dX11_in_15
  · refine lv_iload_n hx hb dX11_in_5 rfl (lv_at hl 0 rfl) ?_
    refine lv_iload_n hx hb dX11_in_6 rfl (lv_at hl 2 rfl) ?_
    refine lv_icmp_gt (tgt := 14) hx hb dX11_in_7 (by decide) (fun c2 => ?_) (fun c2 => ?_)
    · refine lv_iconst (v := 0) hx hb dX11_in_14 (by decide) ?_
      exact W.zret (v := 0) hx hb hr (rfl) (fun t ht hW => ⟨0, rfl, by exact (if_neg (fun q => absurd c2 (Int32.not_lt.mpr q.2))).symm, ht⟩) (fun _ h => by cases h) dX11_in_15
    · refine lv_iconst (v := 1) hx hb dX11_in_10 (by decide) ?_
      refine lv_goto (tgt := 15) hx hb dX11_in_11 (by decide) ?_
      exact W.zret (v := 1) hx hb hr (rfl) (fun t ht hW => ⟨1, rfl, by exact (if_pos ⟨Int32.not_lt.mp c1, Int32.not_lt.mp c2⟩).symm, ht⟩) (fun _ h => by cases h) dX11_in_15

set_option maxHeartbeats 4000000 in
set_option maxRecDepth 100000 in
theorem c_X11_has (l : Launch) (p0 : Int32) (p1 : Int32) : Met l yX11_has wsX11_has ({ frames := 0, cells := 0, slots := 0, locals := 0 } : Room) (va_Pc [.int p0, .int p1] (fun _ => True)) (vp_Si (fun r => r = if ((p0 >>> (p1 &&& 31)) &&& 1) = 1 then 1 else 0)) 0 0 (fun _ => False) := by
  refine Met.ofW (cc := cX11_has) (maxL := 2) (ret := (some .boolean)) (by decide) rfl ?_
  intro p e s m args below meth c s₁ B hml hv
  obtain ⟨rfl, -⟩ := hv
  have hx := B.exec
  have hb := B.bytes
  have hr := B.returns
  have hts := atoms_spec (ws := wsX11_has) B.pre
  have hown : s.vm.findClass RX11 = some m.cls := findClass_of_methodNamed B.named
  have hlocks := B.notSynchronized
  have hl := lv_entry ([.int p0, .int p1]) (n := 2) (Nat.le_of_ble_eq_true rfl)
  rw [lg_entry_eq]
  generalize (lg_sl ([.int p0, .int p1]) ++ List.replicate (2 - (lg_sl ([.int p0, .int p1])).length) Slot.unset).toArray = ls at hl ⊢
  have hl : lv_has ls 2 [(0, .int p0), (1, .int p1)] := hl
  refine lv_iload_n hx hb dX11_has_0 rfl (lv_at hl 0 rfl) ?_
  refine lv_iload_n hx hb dX11_has_1 rfl (lv_at hl 1 rfl) ?_
  refine lv_ishr hx hb dX11_has_2 ?_
  refine lv_iconst (v := 1) hx hb dX11_has_3 (by decide) ?_
  refine lv_iand hx hb dX11_has_4 ?_
  refine lv_iconst (v := 1) hx hb dX11_has_5 (by decide) ?_
  refine lv_icmp_ne (tgt := 13) hx hb dX11_has_6 (by decide) (fun c1 => ?_) (fun c1 => ?_)
  · refine lv_iconst (v := 0) hx hb dX11_has_13 (by decide) ?_
    exact W.zret (v := 0) hx hb hr (rfl) (fun t ht hW => ⟨0, rfl, by exact (if_neg c1).symm, ht⟩) (fun _ h => by cases h) dX11_has_14
  · refine lv_iconst (v := 1) hx hb dX11_has_9 (by decide) ?_
    refine lv_goto (tgt := 14) hx hb dX11_has_10 (by decide) ?_
    exact W.zret (v := 1) hx hb hr (rfl) (fun t ht hW => ⟨1, rfl, by exact (if_pos c1).symm, ht⟩) (fun _ h => by cases h) dX11_has_14

def L_bitsOf (p0 : Int32) : Nat → Int32
  | 0 => 0
  | i1 + 1 =>
    (L_bitsOf p0 i1) + ((p0 >>> ((nI i1) &&& 31)) &&& 1)
def s_X11_bitsOf (p0 : Int32) : Int32 :=
  (L_bitsOf p0 31)
set_option maxHeartbeats 4000000 in
set_option maxRecDepth 100000 in
theorem c_X11_bitsOf (l : Launch) (p0 : Int32) : Met l yX11_bitsOf wsX11_bitsOf ({ frames := 0, cells := 0, slots := 0, locals := 0 } : Room) (va_Pc [.int p0] (fun _ => True)) (vp_Si (fun r => r = s_X11_bitsOf p0)) 0 0 (fun _ => False) := by
  refine Met.ofW (cc := cX11_bitsOf) (maxL := 3) (ret := (some .int)) (by decide) rfl ?_
  intro p e s m args below meth c s₁ B hml hv
  obtain ⟨rfl, -⟩ := hv
  have hx := B.exec
  have hb := B.bytes
  have hr := B.returns
  have hts := atoms_spec (ws := wsX11_bitsOf) B.pre
  have hown : s.vm.findClass RX11 = some m.cls := findClass_of_methodNamed B.named
  have hlocks := B.notSynchronized
  have hl := lv_entry ([.int p0]) (n := 3) (Nat.le_of_ble_eq_true rfl)
  rw [lg_entry_eq]
  generalize (lg_sl ([.int p0]) ++ List.replicate (3 - (lg_sl ([.int p0])).length) Slot.unset).toArray = ls at hl ⊢
  have hl : lv_has ls 3 [(0, .int p0)] := hl
  refine lv_iconst (v := 0) hx hb dX11_bitsOf_0 (by decide) ?_
  refine lv_istore_n (lv' := [(1, .int 0), (0, .int p0)]) hx hb dX11_bitsOf_1 rfl hl (by decide) rfl (fun ls hl => ?_)
  refine lv_iconst (v := 0) hx hb dX11_bitsOf_2 (by decide) ?_
  refine lv_istore_n (lv' := [(2, .int 0), (1, .int 0), (0, .int p0)]) hx hb dX11_bitsOf_3 rfl hl (by decide) rfl (fun ls hl => ?_)
  refine lp_for (N := 31) (lv := fun i1 => [(2, .int (nI i1)), (1, .int (L_bitsOf p0 i1)), (0, .int p0)]) (lv_sub hl [0, 1, 2] rfl) (fun i1 hi1 ls hl kk1 => ?_) (fun ls hl => ?_)
  · replace hl : lv_has ls 3 [(2, .int (nI i1)), (1, .int (L_bitsOf p0 i1)), (0, .int p0)] := hl
    refine lv_iload_n hx hb dX11_bitsOf_4 rfl (lv_at hl 0 rfl) ?_
    refine lv_bipush (v := 31) hx hb dX11_bitsOf_5 (by decide) ?_
    refine lv_icmp_ge (tgt := 24) hx hb dX11_bitsOf_7 (by decide) (fun c => absurd c (lb_n (by decide) hi1)) (fun _ => ?_)
    refine lv_iload_n hx hb dX11_bitsOf_10 rfl (lv_at hl 1 rfl) ?_
    refine lv_iload_n hx hb dX11_bitsOf_11 rfl (lv_at hl 2 rfl) ?_
    refine lv_iload_n hx hb dX11_bitsOf_12 rfl (lv_at hl 0 rfl) ?_
    refine lv_ishr hx hb dX11_bitsOf_13 ?_
    refine lv_iconst (v := 1) hx hb dX11_bitsOf_14 (by decide) ?_
    refine lv_iand hx hb dX11_bitsOf_15 ?_
    refine lv_iadd hx hb dX11_bitsOf_16 ?_
    refine lv_istore_n (lv' := [(1, .int ((L_bitsOf p0 i1) + ((p0 >>> ((nI i1) &&& 31)) &&& 1))), (2, .int (nI i1)), (0, .int p0)]) hx hb dX11_bitsOf_17 rfl hl (by decide) rfl (fun ls hl => ?_)
    refine lv_iinc (v := nI (i1 + 1)) (lv' := [(2, .int (nI (i1 + 1))), (1, .int ((L_bitsOf p0 i1) + ((p0 >>> ((nI i1) &&& 31)) &&& 1))), (0, .int p0)]) hx hb dX11_bitsOf_18 hl (k := 1) rfl (nI_1 i1) (by decide) rfl (fun ls hl => ?_)
    refine lv_goto (tgt := 4) hx hb dX11_bitsOf_21 (by decide) ?_
    have e9 : L_bitsOf p0 (i1 + 1) = (L_bitsOf p0 i1) + ((p0 >>> ((nI i1) &&& 31)) &&& 1) := by rw [L_bitsOf]
    refine kk1 ls (show lv_has ls 3 [(2, .int (nI (i1 + 1))), (1, .int (L_bitsOf p0 (i1 + 1))), (0, .int p0)] from ?_)
    rw [e9]; exact lv_sub hl [0, 1, 2] rfl
  · replace hl : lv_has ls 3 [(2, .int (nI 31)), (1, .int (L_bitsOf p0 31)), (0, .int p0)] := hl
    refine lv_iload_n hx hb dX11_bitsOf_4 rfl (lv_at hl 0 rfl) ?_
    refine lv_bipush (v := 31) hx hb dX11_bitsOf_5 (by decide) ?_
    refine lv_icmp_ge (tgt := 24) hx hb dX11_bitsOf_7 (by decide) (fun _ => ?_) (fun c => absurd (lb_y (by decide)) c)
    refine lv_iload_n hx hb dX11_bitsOf_24 rfl (lv_at hl 1 rfl) ?_
    exact W.iret (v := (L_bitsOf p0 31)) hx hb hr (fun t ht hW => ⟨(L_bitsOf p0 31), rfl, by unfold s_X11_bitsOf; rfl, ht⟩) (fun _ h => by cases h) dX11_bitsOf_25

def s_X11_meets (F : Nat → Int32) (M : Nat → Nat → Int32) (p0 : Int32) : Int32 × ((Nat → Int32) × (Nat → Nat → Int32)) :=
  ((-3), (va_up F 0 p0, va_up M 1 (upd (M 1) p0.toNatClampNeg (((M 1) p0.toNatClampNeg) + 1))))
set_option maxHeartbeats 4000000 in
set_option maxRecDepth 100000 in
theorem c_X11_meets (l : Launch) (dC : Nat → ClassId) (dI : Nat → Nat → Nat) (h : Nat) (a : Nat → Nat) (cI cB cZ : ClassId) (F : Nat → Int32) (M : Nat → Nat → Int32) (p0 : Int32) (A : Nat → Prop) (hD : va_D A (wM h a cI cB cZ F M)) (hf : vp_in p0 6) : Met l yX11_meets wsX11_meets ({ frames := 0, cells := 0, slots := 0, locals := 0 } : Room) (va_Pc [.ref h, .int p0] (pM dC dI h a cI cB cZ F M)) (va_Qi (fun r u => (r, u) = s_X11_meets F M p0) (qM A dC dI h a cI cB cZ) A) 0 0 A := by
  refine Met.ofW (cc := cX11_meets) (maxL := 2) (ret := (some .int)) (by decide) rfl ?_
  intro p e s m args below meth c s₁ B hml hv
  obtain ⟨rfl, hP, hK⟩ := hv
  have hx := B.exec
  have hb := B.bytes
  have hr := B.returns
  have hts := atoms_spec (ws := wsX11_meets) B.pre
  have hown : s.vm.findClass RX11 = some m.cls := findClass_of_methodNamed B.named
  have hlocks := B.notSynchronized
  have hin : ∀ w ∈ wsX110, w ∈ wsX11_meets := by decide +kernel
  have hS : va_S A s.heap s.heap [] := va_S.rf
  have hl := lv_entry ([.ref h, .int p0]) (n := 2) (Nat.le_of_ble_eq_true rfl)
  rw [lg_entry_eq]
  generalize (lg_sl ([.ref h, .int p0]) ++ List.replicate (2 - (lg_sl ([.ref h, .int p0])).length) Slot.unset).toArray = ls at hl ⊢
  have hl : lv_has ls 2 [(0, .ref h), (1, .int p0)] := hl
  refine lv_aload_n hx hb dX11_meets_0 rfl (lv_at hl 0 rfl) ?_
  refine lv_iload_n hx hb dX11_meets_1 rfl (lv_at hl 1 rfl) ?_
  refine va_put (D := (dC, dI)) (ci := 10) (v := .int p0) (ty := .int) (C := RX11) (T := TX11) (N := 49) hx hb hts hin tyX11 tyX11_ok nmX11 hown hK hP hD hS 0 rfl rfl 0 (by decide) (hts (.fieldLink RX11 129 "SocietyBookModel" "latest" "I") (by decide +kernel)) (fun _ h9 => h9) rfl (by decide +kernel) rfl rfl (Nat.le_of_ble_eq_true rfl) dX11_meets_2 (fun H locs hP hD hS => ?_)
  replace hP : va_P (dC, dI) vwCl (wM h a cI cB cZ (va_up F 0 p0) M) H := hP
  replace hD : va_D A (wM h a cI cB cZ (va_up F 0 p0) M) := hD
  refine lv_aload_n hx hb dX11_meets_5 rfl (lv_at hl 0 rfl) ?_
  refine va_get (D := (dC, dI)) (ci := 10) (v := .ref (a 1)) (C := RX11) (T := TX11) (N := 49) hx hb hts hin hown hK hP 0 rfl rfl 1 (by decide) (hts (.fieldLink RX11 7 "SocietyBookModel" "came" "[I") (by decide +kernel)) (fun _ h9 => h9) rfl dX11_meets_6 ?_
  refine lv_iload_n hx hb dX11_meets_9 rfl (lv_at hl 1 rfl) ?_
  refine lv_dup2_11 hx hb dX11_meets_10 rfl rfl ?_
  refine va_iald (f := M 1) hx hb hK hP 1 0 rfl rfl hf dX11_meets_11 ?_
  refine lv_iconst (v := 1) hx hb dX11_meets_12 (by decide) ?_
  refine lv_iadd hx hb dX11_meets_13 ?_
  refine va_iast (f := M 1) hx hb hK hP hD hS 1 0 rfl rfl hf dX11_meets_14 (fun H locs hP hD hS => ?_)
  replace hP : va_P (dC, dI) vwCl (wM h a cI cB cZ (va_up F 0 p0) (va_up M 1 (upd (M 1) p0.toNatClampNeg (((M 1) p0.toNatClampNeg) + 1)))) H := hP
  replace hD : va_D A (wM h a cI cB cZ (va_up F 0 p0) (va_up M 1 (upd (M 1) p0.toNatClampNeg (((M 1) p0.toNatClampNeg) + 1)))) := hD
  refine lv_bipush (v := (-3)) hx hb dX11_meets_15 (by decide) ?_
  exact W.iret (v := (-3)) hx hb hr (fun t ht hW => ⟨⟨(-3), (va_up F 0 p0, va_up M 1 (upd (M 1) p0.toNatClampNeg (((M 1) p0.toNatClampNeg) + 1))), rfl, by unfold s_X11_meets; rfl, ⟨by rw [ht]; exact hP, va_K.moved hW.alike hK⟩, hD⟩, hS.F ht⟩) hS.2.2 dX11_meets_17

def s_X11_finding (F : Nat → Int32) (M : Nat → Nat → Int32)  : Int32 :=
  F 0
set_option maxHeartbeats 4000000 in
set_option maxRecDepth 100000 in
theorem c_X11_finding (l : Launch) (dC : Nat → ClassId) (dI : Nat → Nat → Nat) (h : Nat) (a : Nat → Nat) (cI cB cZ : ClassId) (F : Nat → Int32) (M : Nat → Nat → Int32) : Met l yX11_finding wsX11_finding ({ frames := 0, cells := 0, slots := 0, locals := 0 } : Room) (va_Pc [.ref h] (pM dC dI h a cI cB cZ F M)) (vp_Si (fun r => r = s_X11_finding F M)) 0 0 (fun _ => False) := by
  refine Met.ofW (cc := cX11_finding) (maxL := 1) (ret := (some .int)) (by decide) rfl ?_
  intro p e s m args below meth c s₁ B hml hv
  obtain ⟨rfl, hP, hK⟩ := hv
  have hx := B.exec
  have hb := B.bytes
  have hr := B.returns
  have hts := atoms_spec (ws := wsX11_finding) B.pre
  have hown : s.vm.findClass RX11 = some m.cls := findClass_of_methodNamed B.named
  have hlocks := B.notSynchronized
  have hin : ∀ w ∈ wsX110, w ∈ wsX11_finding := by decide +kernel
  have hl := lv_entry ([.ref h]) (n := 1) (Nat.le_of_ble_eq_true rfl)
  rw [lg_entry_eq]
  generalize (lg_sl ([.ref h]) ++ List.replicate (1 - (lg_sl ([.ref h])).length) Slot.unset).toArray = ls at hl ⊢
  have hl : lv_has ls 1 [(0, .ref h)] := hl
  refine lv_aload_n hx hb dX11_finding_0 rfl (lv_at hl 0 rfl) ?_
  refine va_get (D := (dC, dI)) (ci := 10) (v := .int (F 0)) (C := RX11) (T := TX11) (N := 49) hx hb hts hin hown hK hP 0 rfl rfl 0 (by decide) (hts (.fieldLink RX11 129 "SocietyBookModel" "latest" "I") (by decide +kernel)) (fun _ h9 => h9) rfl dX11_finding_1 ?_
  exact W.iret (v := F 0) hx hb hr (fun t ht hW => ⟨F 0, rfl, by unfold s_X11_finding; rfl, ht⟩) (fun _ h => by cases h) dX11_finding_4

def s_X11_findings (F : Nat → Int32) (M : Nat → Nat → Int32) (p0 : Int32) : Int32 :=
  if 1 ≤ p0 ∧ p0 ≤ 5 then (M 1) p0.toNatClampNeg else
  (-1)
set_option maxHeartbeats 4000000 in
set_option maxRecDepth 100000 in
theorem c_X11_findings (l : Launch) (dC : Nat → ClassId) (dI : Nat → Nat → Nat) (h : Nat) (a : Nat → Nat) (cI cB cZ : ClassId) (F : Nat → Int32) (M : Nat → Nat → Int32) (p0 : Int32) : Met l yX11_findings wsX11_findings ({ frames := 1, cells := 0, slots := 0, locals := 22 } : Room) (va_Pc [.ref h, .int p0] (pM dC dI h a cI cB cZ F M)) (vp_Si (fun r => r = s_X11_findings F M p0)) 0 0 (fun _ => False) := by
  refine Met.ofW (cc := cX11_findings) (maxL := 2) (ret := (some .int)) (by decide) rfl ?_
  intro p e s m args below meth c s₁ B hml hv
  obtain ⟨rfl, hP, hK⟩ := hv
  have hx := B.exec
  have hb := B.bytes
  have hr := B.returns
  have hts := atoms_spec (ws := wsX11_findings) B.pre
  have hown : s.vm.findClass RX11 = some m.cls := findClass_of_methodNamed B.named
  have hlocks := B.notSynchronized
  have hin : ∀ w ∈ wsX110, w ∈ wsX11_findings := by decide +kernel
  have hl := lv_entry ([.ref h, .int p0]) (n := 2) (Nat.le_of_ble_eq_true rfl)
  rw [lg_entry_eq]
  generalize (lg_sl ([.ref h, .int p0]) ++ List.replicate (2 - (lg_sl ([.ref h, .int p0])).length) Slot.unset).toArray = ls at hl ⊢
  have hl : lv_has ls 2 [(0, .ref h), (1, .int p0)] := hl
  refine lv_iload_n hx hb dX11_findings_0 rfl (lv_at hl 1 rfl) ?_
  refine lv_iconst (v := 1) hx hb dX11_findings_1 (by decide) ?_
  refine lv_iconst (v := 5) hx hb dX11_findings_2 (by decide) ?_
  refine vp_callSi (W.runS (As := [.int p0, .int 1, .int 5]) (rest := []) ⟨hx, hb, hml, hown, hts⟩ (c_X11_in l p0 1 5) (va_cwS 3 hts gX11_findings_X11_in rfl rfl rfl (by decide +kernel) ⟨Nat.le_of_ble_eq_true rfl, Nat.le_of_ble_eq_true rfl⟩) ⟨fun _ _ _ _ q => q, fun U hU hW => ⟨rfl, trivial⟩⟩ rfl rfl hl.1 rfl (lv_room (Nat.le_of_ble_eq_true rfl)) dX11_findings_3 ⟨Nat.zero_le _, Nat.zero_le _⟩) (fun r hr9 => ?_)
  subst hr9
  refine lv_if_eq (tgt := 18) hx hb dX11_findings_6 (by decide) (fun c1 => ?_) (fun c1 => ?_)
  · replace c1 := bo_f c1
    refine lv_iconst (v := (-1)) hx hb dX11_findings_18 (by decide) ?_
    exact W.iret (v := (-1)) hx hb hr (fun t ht hW => ⟨(-1), rfl, by unfold s_X11_findings; rw [if_neg c1], ht⟩) (fun _ h => by cases h) dX11_findings_19
  · replace c1 := bo_t c1
    refine lv_aload_n hx hb dX11_findings_9 rfl (lv_at hl 0 rfl) ?_
    refine va_get (D := (dC, dI)) (ci := 10) (v := .ref (a 1)) (C := RX11) (T := TX11) (N := 49) hx hb hts hin hown hK hP 0 rfl rfl 1 (by decide) (hts (.fieldLink RX11 7 "SocietyBookModel" "came" "[I") (by decide +kernel)) (fun _ h9 => h9) rfl dX11_findings_10 ?_
    refine lv_iload_n hx hb dX11_findings_13 rfl (lv_at hl 1 rfl) ?_
    refine va_iald (f := M 1) hx hb hK hP 1 0 rfl rfl (ib_in c1 (by decide)) dX11_findings_14 ?_
    refine lv_goto (tgt := 19) hx hb dX11_findings_15 (by decide) ?_
    exact W.iret (v := (M 1) p0.toNatClampNeg) hx hb hr (fun t ht hW => ⟨(M 1) p0.toNatClampNeg, rfl, by unfold s_X11_findings; rw [if_pos c1], ht⟩) (fun _ h => by cases h) dX11_findings_19

def s_X11_asked (F : Nat → Int32) (M : Nat → Nat → Int32)  : Int32 :=
  F 2
set_option maxHeartbeats 4000000 in
set_option maxRecDepth 100000 in
theorem c_X11_asked (l : Launch) (dC : Nat → ClassId) (dI : Nat → Nat → Nat) (h : Nat) (a : Nat → Nat) (cI cB cZ : ClassId) (F : Nat → Int32) (M : Nat → Nat → Int32) : Met l yX11_asked wsX11_asked ({ frames := 0, cells := 0, slots := 0, locals := 0 } : Room) (va_Pc [.ref h] (pM dC dI h a cI cB cZ F M)) (vp_Si (fun r => r = s_X11_asked F M)) 0 0 (fun _ => False) := by
  refine Met.ofW (cc := cX11_asked) (maxL := 1) (ret := (some .int)) (by decide) rfl ?_
  intro p e s m args below meth c s₁ B hml hv
  obtain ⟨rfl, hP, hK⟩ := hv
  have hx := B.exec
  have hb := B.bytes
  have hr := B.returns
  have hts := atoms_spec (ws := wsX11_asked) B.pre
  have hown : s.vm.findClass RX11 = some m.cls := findClass_of_methodNamed B.named
  have hlocks := B.notSynchronized
  have hin : ∀ w ∈ wsX110, w ∈ wsX11_asked := by decide +kernel
  have hl := lv_entry ([.ref h]) (n := 1) (Nat.le_of_ble_eq_true rfl)
  rw [lg_entry_eq]
  generalize (lg_sl ([.ref h]) ++ List.replicate (1 - (lg_sl ([.ref h])).length) Slot.unset).toArray = ls at hl ⊢
  have hl : lv_has ls 1 [(0, .ref h)] := hl
  refine lv_aload_n hx hb dX11_asked_0 rfl (lv_at hl 0 rfl) ?_
  refine va_get (D := (dC, dI)) (ci := 10) (v := .int (F 2)) (C := RX11) (T := TX11) (N := 49) hx hb hts hin hown hK hP 0 rfl rfl 2 (by decide) (hts (.fieldLink RX11 137 "SocietyBookModel" "asked" "I") (by decide +kernel)) (fun _ h9 => h9) rfl dX11_asked_1 ?_
  exact W.iret (v := F 2) hx hb hr (fun t ht hW => ⟨F 2, rfl, by unfold s_X11_asked; rfl, ht⟩) (fun _ h => by cases h) dX11_asked_4

set_option maxHeartbeats 4000000 in
set_option maxRecDepth 100000 in
theorem c_X11_isDay (l : Launch) (p0 : Int32) : Met l yX11_isDay wsX11_isDay ({ frames := 1, cells := 0, slots := 0, locals := 22 } : Room) (va_Pc [.int p0] (fun _ => True)) (vp_Si (fun r => r = if 0 ≤ p0 ∧ p0 ≤ 30000 then 1 else 0)) 0 0 (fun _ => False) := by
  refine Met.ofW (cc := cX11_isDay) (maxL := 1) (ret := (some .boolean)) (by decide) rfl ?_
  intro p e s m args below meth c s₁ B hml hv
  obtain ⟨rfl, -⟩ := hv
  have hx := B.exec
  have hb := B.bytes
  have hr := B.returns
  have hts := atoms_spec (ws := wsX11_isDay) B.pre
  have hown : s.vm.findClass RX11 = some m.cls := findClass_of_methodNamed B.named
  have hlocks := B.notSynchronized
  have hl := lv_entry ([.int p0]) (n := 1) (Nat.le_of_ble_eq_true rfl)
  rw [lg_entry_eq]
  generalize (lg_sl ([.int p0]) ++ List.replicate (1 - (lg_sl ([.int p0])).length) Slot.unset).toArray = ls at hl ⊢
  have hl : lv_has ls 1 [(0, .int p0)] := hl
  refine lv_iload_n hx hb dX11_isDay_0 rfl (lv_at hl 0 rfl) ?_
  refine lv_iconst (v := 0) hx hb dX11_isDay_1 (by decide) ?_
  refine lv_sipush (v := 30000) hx hb dX11_isDay_2 (by decide) ?_
  refine vp_callSi (W.runS (As := [.int p0, .int 0, .int 30000]) (rest := []) ⟨hx, hb, hml, hown, hts⟩ (c_X11_in l p0 0 30000) (va_cwS 3 hts gX11_isDay_X11_in rfl rfl rfl (by decide +kernel) ⟨Nat.le_of_ble_eq_true rfl, Nat.le_of_ble_eq_true rfl⟩) ⟨fun _ _ _ _ q => q, fun U hU hW => ⟨rfl, trivial⟩⟩ rfl rfl hl.1 rfl (lv_room (Nat.le_of_ble_eq_true rfl)) dX11_isDay_5 ⟨Nat.zero_le _, Nat.zero_le _⟩) (fun r hr9 => ?_)
  subst hr9
  exact W.zret (v := if 0 ≤ p0 ∧ p0 ≤ 30000 then (1 : Int32) else 0) hx hb hr (bo_n _) (fun t ht hW => ⟨if 0 ≤ p0 ∧ p0 ≤ 30000 then (1 : Int32) else 0, rfl, by rfl, ht⟩) (fun _ h => by cases h) dX11_isDay_8

def s_X11_later (F : Nat → Int32) (M : Nat → Nat → Int32) (p0 : Int32) : Int32 × ((Nat → Int32) × (Nat → Nat → Int32)) :=
  if p0 < 0 then ((-1), (F, M)) else
  if p0 ≤ (30000 - (F 3)) then ((F 3) + p0, (va_up F 3 ((F 3) + p0), M)) else
  ((-1), (F, M))
set_option maxHeartbeats 4000000 in
set_option maxRecDepth 100000 in
theorem c_X11_later (l : Launch) (dC : Nat → ClassId) (dI : Nat → Nat → Nat) (h : Nat) (a : Nat → Nat) (cI cB cZ : ClassId) (F : Nat → Int32) (M : Nat → Nat → Int32) (p0 : Int32) (A : Nat → Prop) (hD : va_D A (wM h a cI cB cZ F M)) : Met l yX11_later wsX11_later ({ frames := 0, cells := 0, slots := 0, locals := 0 } : Room) (va_Pc [.ref h, .int p0] (pM dC dI h a cI cB cZ F M)) (va_Qi (fun r u => (r, u) = s_X11_later F M p0) (qM A dC dI h a cI cB cZ) A) 0 0 A := by
  refine Met.ofW (cc := cX11_later) (maxL := 2) (ret := (some .int)) (by decide) rfl ?_
  intro p e s m args below meth c s₁ B hml hv
  obtain ⟨rfl, hP, hK⟩ := hv
  have hx := B.exec
  have hb := B.bytes
  have hr := B.returns
  have hts := atoms_spec (ws := wsX11_later) B.pre
  have hown : s.vm.findClass RX11 = some m.cls := findClass_of_methodNamed B.named
  have hlocks := B.notSynchronized
  have hin : ∀ w ∈ wsX110, w ∈ wsX11_later := by decide +kernel
  have hS : va_S A s.heap s.heap [] := va_S.rf
  have hl := lv_entry ([.ref h, .int p0]) (n := 2) (Nat.le_of_ble_eq_true rfl)
  rw [lg_entry_eq]
  generalize (lg_sl ([.ref h, .int p0]) ++ List.replicate (2 - (lg_sl ([.ref h, .int p0])).length) Slot.unset).toArray = ls at hl ⊢
  have hl : lv_has ls 2 [(0, .ref h), (1, .int p0)] := hl
  refine lv_iload_n hx hb dX11_later_0 rfl (lv_at hl 1 rfl) ?_
  refine lv_if_lt (tgt := 16) hx hb dX11_later_1 (by decide) (fun c1 => ?_) (fun c1 => ?_)
  · refine lv_iconst (v := (-1)) hx hb dX11_later_16 (by decide) ?_
    exact W.iret (v := (-1)) hx hb hr (fun t ht hW => ⟨⟨(-1), (F, M), rfl, by unfold s_X11_later; rw [if_pos c1], ⟨by rw [ht]; exact hP, va_K.moved hW.alike hK⟩, hD⟩, hS.F ht⟩) hS.2.2 dX11_later_17
  · refine lv_iload_n hx hb dX11_later_4 rfl (lv_at hl 1 rfl) ?_
    refine lv_sipush (v := 30000) hx hb dX11_later_5 (by decide) ?_
    refine lv_aload_n hx hb dX11_later_8 rfl (lv_at hl 0 rfl) ?_
    refine va_get (D := (dC, dI)) (ci := 10) (v := .int (F 3)) (C := RX11) (T := TX11) (N := 49) hx hb hts hin hown hK hP 0 rfl rfl 3 (by decide) (hts (.fieldLink RX11 140 "SocietyBookModel" "today" "I") (by decide +kernel)) (fun _ h9 => h9) rfl dX11_later_9 ?_
    refine lv_isub hx hb dX11_later_12 ?_
    refine lv_icmp_le (tgt := 18) hx hb dX11_later_13 (by decide) (fun c2 => ?_) (fun c2 => ?_)
    · refine lv_aload_n hx hb dX11_later_18 rfl (lv_at hl 0 rfl) ?_
      refine lv_dup hx hb dX11_later_19 rfl ?_
      refine va_get (D := (dC, dI)) (ci := 10) (v := .int (F 3)) (C := RX11) (T := TX11) (N := 49) hx hb hts hin hown hK hP 0 rfl rfl 3 (by decide) (hts (.fieldLink RX11 140 "SocietyBookModel" "today" "I") (by decide +kernel)) (fun _ h9 => h9) rfl dX11_later_20 ?_
      refine lv_iload_n hx hb dX11_later_23 rfl (lv_at hl 1 rfl) ?_
      refine lv_iadd hx hb dX11_later_24 ?_
      refine va_put (D := (dC, dI)) (ci := 10) (v := .int ((F 3) + p0)) (ty := .int) (C := RX11) (T := TX11) (N := 49) hx hb hts hin tyX11 tyX11_ok nmX11 hown hK hP hD hS 0 rfl rfl 3 (by decide) (hts (.fieldLink RX11 140 "SocietyBookModel" "today" "I") (by decide +kernel)) (fun _ h9 => h9) rfl (by decide +kernel) rfl rfl (Nat.le_of_ble_eq_true rfl) dX11_later_25 (fun H locs hP hD hS => ?_)
      replace hP : va_P (dC, dI) vwCl (wM h a cI cB cZ (va_up F 3 ((F 3) + p0)) M) H := hP
      replace hD : va_D A (wM h a cI cB cZ (va_up F 3 ((F 3) + p0)) M) := hD
      refine lv_aload_n hx hb dX11_later_28 rfl (lv_at hl 0 rfl) ?_
      refine va_get (D := (dC, dI)) (ci := 10) (v := .int ((F 3) + p0)) (C := RX11) (T := TX11) (N := 49) hx hb hts hin hown hK hP 0 rfl rfl 3 (by decide) (hts (.fieldLink RX11 140 "SocietyBookModel" "today" "I") (by decide +kernel)) (fun _ h9 => h9) rfl dX11_later_29 ?_
      exact W.iret (v := (F 3) + p0) hx hb hr (fun t ht hW => ⟨⟨(F 3) + p0, (va_up F 3 ((F 3) + p0), M), rfl, by unfold s_X11_later; rw [if_neg c1, if_pos c2], ⟨by rw [ht]; exact hP, va_K.moved hW.alike hK⟩, hD⟩, hS.F ht⟩) hS.2.2 dX11_later_32
    · refine lv_iconst (v := (-1)) hx hb dX11_later_16 (by decide) ?_
      exact W.iret (v := (-1)) hx hb hr (fun t ht hW => ⟨⟨(-1), (F, M), rfl, by unfold s_X11_later; rw [if_neg c1, if_neg c2], ⟨by rw [ht]; exact hP, va_K.moved hW.alike hK⟩, hD⟩, hS.F ht⟩) hS.2.2 dX11_later_17

def s_X11_fellow (F : Nat → Int32) (M : Nat → Nat → Int32)  : Int32 × ((Nat → Int32) × (Nat → Nat → Int32)) :=
  if (F 4) = 16 then ((-2), (F, M)) else
  (((F 4) + 1) - 1, (va_up F 4 ((F 4) + 1), M))
set_option maxHeartbeats 4000000 in
set_option maxRecDepth 100000 in
theorem c_X11_fellow (l : Launch) (dC : Nat → ClassId) (dI : Nat → Nat → Nat) (h : Nat) (a : Nat → Nat) (cI cB cZ : ClassId) (F : Nat → Int32) (M : Nat → Nat → Int32)  (A : Nat → Prop) (hD : va_D A (wM h a cI cB cZ F M)) : Met l yX11_fellow wsX11_fellow ({ frames := 0, cells := 0, slots := 0, locals := 0 } : Room) (va_Pc [.ref h] (pM dC dI h a cI cB cZ F M)) (va_Qi (fun r u => (r, u) = s_X11_fellow F M) (qM A dC dI h a cI cB cZ) A) 0 0 A := by
  refine Met.ofW (cc := cX11_fellow) (maxL := 1) (ret := (some .int)) (by decide) rfl ?_
  intro p e s m args below meth c s₁ B hml hv
  obtain ⟨rfl, hP, hK⟩ := hv
  have hx := B.exec
  have hb := B.bytes
  have hr := B.returns
  have hts := atoms_spec (ws := wsX11_fellow) B.pre
  have hown : s.vm.findClass RX11 = some m.cls := findClass_of_methodNamed B.named
  have hlocks := B.notSynchronized
  have hin : ∀ w ∈ wsX110, w ∈ wsX11_fellow := by decide +kernel
  have hS : va_S A s.heap s.heap [] := va_S.rf
  have hl := lv_entry ([.ref h]) (n := 1) (Nat.le_of_ble_eq_true rfl)
  rw [lg_entry_eq]
  generalize (lg_sl ([.ref h]) ++ List.replicate (1 - (lg_sl ([.ref h])).length) Slot.unset).toArray = ls at hl ⊢
  have hl : lv_has ls 1 [(0, .ref h)] := hl
  refine lv_aload_n hx hb dX11_fellow_0 rfl (lv_at hl 0 rfl) ?_
  refine va_get (D := (dC, dI)) (ci := 10) (v := .int (F 4)) (C := RX11) (T := TX11) (N := 49) hx hb hts hin hown hK hP 0 rfl rfl 4 (by decide) (hts (.fieldLink RX11 143 "SocietyBookModel" "fellows" "I") (by decide +kernel)) (fun _ h9 => h9) rfl dX11_fellow_1 ?_
  refine lv_bipush (v := 16) hx hb dX11_fellow_4 (by decide) ?_
  refine lv_icmp_ne (tgt := 12) hx hb dX11_fellow_6 (by decide) (fun c1 => ?_) (fun c1 => ?_)
  · refine lv_aload_n hx hb dX11_fellow_12 rfl (lv_at hl 0 rfl) ?_
    refine lv_dup hx hb dX11_fellow_13 rfl ?_
    refine va_get (D := (dC, dI)) (ci := 10) (v := .int (F 4)) (C := RX11) (T := TX11) (N := 49) hx hb hts hin hown hK hP 0 rfl rfl 4 (by decide) (hts (.fieldLink RX11 143 "SocietyBookModel" "fellows" "I") (by decide +kernel)) (fun _ h9 => h9) rfl dX11_fellow_14 ?_
    refine lv_iconst (v := 1) hx hb dX11_fellow_17 (by decide) ?_
    refine lv_iadd hx hb dX11_fellow_18 ?_
    refine va_put (D := (dC, dI)) (ci := 10) (v := .int ((F 4) + 1)) (ty := .int) (C := RX11) (T := TX11) (N := 49) hx hb hts hin tyX11 tyX11_ok nmX11 hown hK hP hD hS 0 rfl rfl 4 (by decide) (hts (.fieldLink RX11 143 "SocietyBookModel" "fellows" "I") (by decide +kernel)) (fun _ h9 => h9) rfl (by decide +kernel) rfl rfl (Nat.le_of_ble_eq_true rfl) dX11_fellow_19 (fun H locs hP hD hS => ?_)
    replace hP : va_P (dC, dI) vwCl (wM h a cI cB cZ (va_up F 4 ((F 4) + 1)) M) H := hP
    replace hD : va_D A (wM h a cI cB cZ (va_up F 4 ((F 4) + 1)) M) := hD
    refine lv_aload_n hx hb dX11_fellow_22 rfl (lv_at hl 0 rfl) ?_
    refine va_get (D := (dC, dI)) (ci := 10) (v := .int ((F 4) + 1)) (C := RX11) (T := TX11) (N := 49) hx hb hts hin hown hK hP 0 rfl rfl 4 (by decide) (hts (.fieldLink RX11 143 "SocietyBookModel" "fellows" "I") (by decide +kernel)) (fun _ h9 => h9) rfl dX11_fellow_23 ?_
    refine lv_iconst (v := 1) hx hb dX11_fellow_26 (by decide) ?_
    refine lv_isub hx hb dX11_fellow_27 ?_
    exact W.iret (v := ((F 4) + 1) - 1) hx hb hr (fun t ht hW => ⟨⟨((F 4) + 1) - 1, (va_up F 4 ((F 4) + 1), M), rfl, by unfold s_X11_fellow; rw [if_neg c1], ⟨by rw [ht]; exact hP, va_K.moved hW.alike hK⟩, hD⟩, hS.F ht⟩) hS.2.2 dX11_fellow_28
  · refine lv_bipush (v := (-2)) hx hb dX11_fellow_9 (by decide) ?_
    exact W.iret (v := (-2)) hx hb hr (fun t ht hW => ⟨⟨(-2), (F, M), rfl, by unfold s_X11_fellow; rw [if_pos c1], ⟨by rw [ht]; exact hP, va_K.moved hW.alike hK⟩, hD⟩, hS.F ht⟩) hS.2.2 dX11_fellow_11

set_option maxHeartbeats 4000000 in
set_option maxRecDepth 100000 in
theorem c_X11_isFellow (l : Launch) (dC : Nat → ClassId) (dI : Nat → Nat → Nat) (h : Nat) (a : Nat → Nat) (cI cB cZ : ClassId) (F : Nat → Int32) (M : Nat → Nat → Int32) (p0 : Int32) : Met l yX11_isFellow wsX11_isFellow ({ frames := 1, cells := 0, slots := 0, locals := 22 } : Room) (va_Pc [.ref h, .int p0] (pM dC dI h a cI cB cZ F M)) (vp_Si (fun r => r = if 0 ≤ p0 ∧ p0 ≤ ((F 4) - 1) then 1 else 0)) 0 0 (fun _ => False) := by
  refine Met.ofW (cc := cX11_isFellow) (maxL := 2) (ret := (some .boolean)) (by decide) rfl ?_
  intro p e s m args below meth c s₁ B hml hv
  obtain ⟨rfl, hP, hK⟩ := hv
  have hx := B.exec
  have hb := B.bytes
  have hr := B.returns
  have hts := atoms_spec (ws := wsX11_isFellow) B.pre
  have hown : s.vm.findClass RX11 = some m.cls := findClass_of_methodNamed B.named
  have hlocks := B.notSynchronized
  have hin : ∀ w ∈ wsX110, w ∈ wsX11_isFellow := by decide +kernel
  have hl := lv_entry ([.ref h, .int p0]) (n := 2) (Nat.le_of_ble_eq_true rfl)
  rw [lg_entry_eq]
  generalize (lg_sl ([.ref h, .int p0]) ++ List.replicate (2 - (lg_sl ([.ref h, .int p0])).length) Slot.unset).toArray = ls at hl ⊢
  have hl : lv_has ls 2 [(0, .ref h), (1, .int p0)] := hl
  refine lv_iload_n hx hb dX11_isFellow_0 rfl (lv_at hl 1 rfl) ?_
  refine lv_iconst (v := 0) hx hb dX11_isFellow_1 (by decide) ?_
  refine lv_aload_n hx hb dX11_isFellow_2 rfl (lv_at hl 0 rfl) ?_
  refine va_get (D := (dC, dI)) (ci := 10) (v := .int (F 4)) (C := RX11) (T := TX11) (N := 49) hx hb hts hin hown hK hP 0 rfl rfl 4 (by decide) (hts (.fieldLink RX11 143 "SocietyBookModel" "fellows" "I") (by decide +kernel)) (fun _ h9 => h9) rfl dX11_isFellow_3 ?_
  refine lv_iconst (v := 1) hx hb dX11_isFellow_6 (by decide) ?_
  refine lv_isub hx hb dX11_isFellow_7 ?_
  refine vp_callSi (W.runS (As := [.int p0, .int 0, .int ((F 4) - 1)]) (rest := []) ⟨hx, hb, hml, hown, hts⟩ (c_X11_in l p0 0 ((F 4) - 1)) (va_cwS 3 hts gX11_isFellow_X11_in rfl rfl rfl (by decide +kernel) ⟨Nat.le_of_ble_eq_true rfl, Nat.le_of_ble_eq_true rfl⟩) ⟨fun _ _ _ _ q => q, fun U hU hW => ⟨rfl, trivial⟩⟩ rfl rfl hl.1 rfl (lv_room (Nat.le_of_ble_eq_true rfl)) dX11_isFellow_8 ⟨Nat.zero_le _, Nat.zero_le _⟩) (fun r hr9 => ?_)
  subst hr9
  exact W.zret (v := if 0 ≤ p0 ∧ p0 ≤ ((F 4) - 1) then (1 : Int32) else 0) hx hb hr (bo_n _) (fun t ht hW => ⟨if 0 ≤ p0 ∧ p0 ≤ ((F 4) - 1) then (1 : Int32) else 0, rfl, by rfl, ht⟩) (fun _ h => by cases h) dX11_isFellow_11

def s_X11_post (F : Nat → Int32) (M : Nat → Nat → Int32) (p0 : Int32) (p1 : Int32) (p2 : Int32) : Int32 × ((Nat → Int32) × (Nat → Nat → Int32)) :=
  if 0 ≤ p0 ∧ p0 ≤ 5 then (if 0 ≤ p1 ∧ p1 ≤ 500 then (if p1 ≤ p2 ∧ p2 ≤ 500 then (1, (F, va_up (va_up M 5 (upd (M 5) p0.toNatClampNeg p1)) 6 (upd (M 6) p0.toNatClampNeg p2))) else
      ((-1), (F, M))) else
    ((-1), (F, M))) else
  ((-1), (F, M))
set_option maxHeartbeats 4000000 in
set_option maxRecDepth 100000 in
theorem c_X11_post (l : Launch) (dC : Nat → ClassId) (dI : Nat → Nat → Nat) (h : Nat) (a : Nat → Nat) (cI cB cZ : ClassId) (F : Nat → Int32) (M : Nat → Nat → Int32) (p0 : Int32) (p1 : Int32) (p2 : Int32) (A : Nat → Prop) (hD : va_D A (wM h a cI cB cZ F M)) : Met l yX11_post wsX11_post ({ frames := 1, cells := 0, slots := 0, locals := 22 } : Room) (va_Pc [.ref h, .int p0, .int p1, .int p2] (pM dC dI h a cI cB cZ F M)) (va_Qi (fun r u => (r, u) = s_X11_post F M p0 p1 p2) (qM A dC dI h a cI cB cZ) A) 0 0 A := by
  refine Met.ofW (cc := cX11_post) (maxL := 4) (ret := (some .int)) (by decide) rfl ?_
  intro p e s m args below meth c s₁ B hml hv
  obtain ⟨rfl, hP, hK⟩ := hv
  have hx := B.exec
  have hb := B.bytes
  have hr := B.returns
  have hts := atoms_spec (ws := wsX11_post) B.pre
  have hown : s.vm.findClass RX11 = some m.cls := findClass_of_methodNamed B.named
  have hlocks := B.notSynchronized
  have hin : ∀ w ∈ wsX110, w ∈ wsX11_post := by decide +kernel
  have hS : va_S A s.heap s.heap [] := va_S.rf
  have hl := lv_entry ([.ref h, .int p0, .int p1, .int p2]) (n := 4) (Nat.le_of_ble_eq_true rfl)
  rw [lg_entry_eq]
  generalize (lg_sl ([.ref h, .int p0, .int p1, .int p2]) ++ List.replicate (4 - (lg_sl ([.ref h, .int p0, .int p1, .int p2])).length) Slot.unset).toArray = ls at hl ⊢
  have hl : lv_has ls 4 [(0, .ref h), (1, .int p0), (2, .int p1), (3, .int p2)] := hl
  refine lv_iload_n hx hb dX11_post_0 rfl (lv_at hl 1 rfl) ?_
  refine lv_iconst (v := 0) hx hb dX11_post_1 (by decide) ?_
  refine lv_iconst (v := 5) hx hb dX11_post_2 (by decide) ?_
  refine vp_callSi (W.runS (As := [.int p0, .int 0, .int 5]) (rest := []) ⟨hx, hb, hml, hown, hts⟩ (c_X11_in l p0 0 5) (va_cwS 3 hts gX11_post_X11_in rfl rfl rfl (by decide +kernel) ⟨Nat.le_of_ble_eq_true rfl, Nat.le_of_ble_eq_true rfl⟩) ⟨fun _ _ _ _ q => q, fun U hU hW => ⟨rfl, trivial⟩⟩ rfl rfl hl.1 rfl (lv_room (Nat.le_of_ble_eq_true rfl)) dX11_post_3 ⟨Nat.zero_le _, Nat.zero_le _⟩) (fun r hr9 => ?_)
  subst hr9
  refine lv_if_eq (tgt := 31) hx hb dX11_post_6 (by decide) (fun c1 => ?_) (fun c1 => ?_)
  · replace c1 := bo_f c1
    refine lv_iconst (v := (-1)) hx hb dX11_post_31 (by decide) ?_
    exact W.iret (v := (-1)) hx hb hr (fun t ht hW => ⟨⟨(-1), (F, M), rfl, by unfold s_X11_post; rw [if_neg c1], ⟨by rw [ht]; exact hP, va_K.moved hW.alike hK⟩, hD⟩, hS.F ht⟩) hS.2.2 dX11_post_32
  · replace c1 := bo_t c1
    refine lv_iload_n hx hb dX11_post_9 rfl (lv_at hl 2 rfl) ?_
    refine lv_iconst (v := 0) hx hb dX11_post_10 (by decide) ?_
    refine lv_sipush (v := 500) hx hb dX11_post_11 (by decide) ?_
    refine vp_callSi (W.runS (As := [.int p1, .int 0, .int 500]) (rest := []) ⟨hx, hb, hml, hown, hts⟩ (c_X11_in l p1 0 500) (va_cwS 3 hts gX11_post_X11_in rfl rfl rfl (by decide +kernel) ⟨Nat.le_of_ble_eq_true rfl, Nat.le_of_ble_eq_true rfl⟩) ⟨fun _ _ _ _ q => q, fun U hU hW => ⟨rfl, trivial⟩⟩ rfl rfl hl.1 rfl (lv_room (Nat.le_of_ble_eq_true rfl)) dX11_post_14 ⟨Nat.zero_le _, Nat.zero_le _⟩) (fun r hr9 => ?_)
    subst hr9
    refine lv_if_eq (tgt := 31) hx hb dX11_post_17 (by decide) (fun c2 => ?_) (fun c2 => ?_)
    · replace c2 := bo_f c2
      refine lv_iconst (v := (-1)) hx hb dX11_post_31 (by decide) ?_
      exact W.iret (v := (-1)) hx hb hr (fun t ht hW => ⟨⟨(-1), (F, M), rfl, by unfold s_X11_post; rw [if_pos c1, if_neg c2], ⟨by rw [ht]; exact hP, va_K.moved hW.alike hK⟩, hD⟩, hS.F ht⟩) hS.2.2 dX11_post_32
    · replace c2 := bo_t c2
      refine lv_iload_n hx hb dX11_post_20 rfl (lv_at hl 3 rfl) ?_
      refine lv_iload_n hx hb dX11_post_21 rfl (lv_at hl 2 rfl) ?_
      refine lv_sipush (v := 500) hx hb dX11_post_22 (by decide) ?_
      refine vp_callSi (W.runS (As := [.int p2, .int p1, .int 500]) (rest := []) ⟨hx, hb, hml, hown, hts⟩ (c_X11_in l p2 p1 500) (va_cwS 3 hts gX11_post_X11_in rfl rfl rfl (by decide +kernel) ⟨Nat.le_of_ble_eq_true rfl, Nat.le_of_ble_eq_true rfl⟩) ⟨fun _ _ _ _ q => q, fun U hU hW => ⟨rfl, trivial⟩⟩ rfl rfl hl.1 rfl (lv_room (Nat.le_of_ble_eq_true rfl)) dX11_post_25 ⟨Nat.zero_le _, Nat.zero_le _⟩) (fun r hr9 => ?_)
      subst hr9
      refine lv_if_ne (tgt := 33) hx hb dX11_post_28 (by decide) (fun c3 => ?_) (fun c3 => ?_)
      · replace c3 := bo_t c3
        refine lv_aload_n hx hb dX11_post_33 rfl (lv_at hl 0 rfl) ?_
        refine va_get (D := (dC, dI)) (ci := 10) (v := .ref (a 5)) (C := RX11) (T := TX11) (N := 49) hx hb hts hin hown hK hP 0 rfl rfl 5 (by decide) (hts (.fieldLink RX11 13 "SocietyBookModel" "postLeast" "[I") (by decide +kernel)) (fun _ h9 => h9) rfl dX11_post_34 ?_
        refine lv_iload_n hx hb dX11_post_37 rfl (lv_at hl 1 rfl) ?_
        refine lv_iload_n hx hb dX11_post_38 rfl (lv_at hl 2 rfl) ?_
        refine va_iast (f := M 5) hx hb hK hP hD hS 2 0 rfl rfl (ib_in c1 (by decide)) dX11_post_39 (fun H locs hP hD hS => ?_)
        replace hP : va_P (dC, dI) vwCl (wM h a cI cB cZ F (va_up M 5 (upd (M 5) p0.toNatClampNeg p1))) H := hP
        replace hD : va_D A (wM h a cI cB cZ F (va_up M 5 (upd (M 5) p0.toNatClampNeg p1))) := hD
        refine lv_aload_n hx hb dX11_post_40 rfl (lv_at hl 0 rfl) ?_
        refine va_get (D := (dC, dI)) (ci := 10) (v := .ref (a 6)) (C := RX11) (T := TX11) (N := 49) hx hb hts hin hown hK hP 0 rfl rfl 6 (by decide) (hts (.fieldLink RX11 16 "SocietyBookModel" "postMost" "[I") (by decide +kernel)) (fun _ h9 => h9) rfl dX11_post_41 ?_
        refine lv_iload_n hx hb dX11_post_44 rfl (lv_at hl 1 rfl) ?_
        refine lv_iload_n hx hb dX11_post_45 rfl (lv_at hl 3 rfl) ?_
        refine va_iast (f := M 6) hx hb hK hP hD hS 3 0 rfl rfl (ib_in c1 (by decide)) dX11_post_46 (fun H locs hP hD hS => ?_)
        replace hP : va_P (dC, dI) vwCl (wM h a cI cB cZ F (va_up (va_up M 5 (upd (M 5) p0.toNatClampNeg p1)) 6 (upd (M 6) p0.toNatClampNeg p2))) H := hP
        replace hD : va_D A (wM h a cI cB cZ F (va_up (va_up M 5 (upd (M 5) p0.toNatClampNeg p1)) 6 (upd (M 6) p0.toNatClampNeg p2))) := hD
        refine lv_iconst (v := 1) hx hb dX11_post_47 (by decide) ?_
        exact W.iret (v := 1) hx hb hr (fun t ht hW => ⟨⟨1, (F, va_up (va_up M 5 (upd (M 5) p0.toNatClampNeg p1)) 6 (upd (M 6) p0.toNatClampNeg p2)), rfl, by unfold s_X11_post; rw [if_pos c1, if_pos c2, if_pos c3], ⟨by rw [ht]; exact hP, va_K.moved hW.alike hK⟩, hD⟩, hS.F ht⟩) hS.2.2 dX11_post_48
      · replace c3 := bo_f c3
        refine lv_iconst (v := (-1)) hx hb dX11_post_31 (by decide) ?_
        exact W.iret (v := (-1)) hx hb hr (fun t ht hW => ⟨⟨(-1), (F, M), rfl, by unfold s_X11_post; rw [if_pos c1, if_pos c2, if_neg c3], ⟨by rw [ht]; exact hP, va_K.moved hW.alike hK⟩, hD⟩, hS.F ht⟩) hS.2.2 dX11_post_32

set_option maxHeartbeats 4000000 in
set_option maxRecDepth 100000 in
theorem c_X11_isPaper (l : Launch) (dC : Nat → ClassId) (dI : Nat → Nat → Nat) (h : Nat) (a : Nat → Nat) (cI cB cZ : ClassId) (F : Nat → Int32) (M : Nat → Nat → Int32) (p0 : Int32) : Met l yX11_isPaper wsX11_isPaper ({ frames := 1, cells := 0, slots := 0, locals := 22 } : Room) (va_Pc [.ref h, .int p0] (pM dC dI h a cI cB cZ F M)) (vp_Si (fun r => r = if 0 ≤ p0 ∧ p0 ≤ ((F 7) - 1) then 1 else 0)) 0 0 (fun _ => False) := by
  refine Met.ofW (cc := cX11_isPaper) (maxL := 2) (ret := (some .boolean)) (by decide) rfl ?_
  intro p e s m args below meth c s₁ B hml hv
  obtain ⟨rfl, hP, hK⟩ := hv
  have hx := B.exec
  have hb := B.bytes
  have hr := B.returns
  have hts := atoms_spec (ws := wsX11_isPaper) B.pre
  have hown : s.vm.findClass RX11 = some m.cls := findClass_of_methodNamed B.named
  have hlocks := B.notSynchronized
  have hin : ∀ w ∈ wsX110, w ∈ wsX11_isPaper := by decide +kernel
  have hl := lv_entry ([.ref h, .int p0]) (n := 2) (Nat.le_of_ble_eq_true rfl)
  rw [lg_entry_eq]
  generalize (lg_sl ([.ref h, .int p0]) ++ List.replicate (2 - (lg_sl ([.ref h, .int p0])).length) Slot.unset).toArray = ls at hl ⊢
  have hl : lv_has ls 2 [(0, .ref h), (1, .int p0)] := hl
  refine lv_iload_n hx hb dX11_isPaper_0 rfl (lv_at hl 1 rfl) ?_
  refine lv_iconst (v := 0) hx hb dX11_isPaper_1 (by decide) ?_
  refine lv_aload_n hx hb dX11_isPaper_2 rfl (lv_at hl 0 rfl) ?_
  refine va_get (D := (dC, dI)) (ci := 10) (v := .int (F 7)) (C := RX11) (T := TX11) (N := 49) hx hb hts hin hown hK hP 0 rfl rfl 7 (by decide) (hts (.fieldLink RX11 146 "SocietyBookModel" "papers" "I") (by decide +kernel)) (fun _ h9 => h9) rfl dX11_isPaper_3 ?_
  refine lv_iconst (v := 1) hx hb dX11_isPaper_6 (by decide) ?_
  refine lv_isub hx hb dX11_isPaper_7 ?_
  refine vp_callSi (W.runS (As := [.int p0, .int 0, .int ((F 7) - 1)]) (rest := []) ⟨hx, hb, hml, hown, hts⟩ (c_X11_in l p0 0 ((F 7) - 1)) (va_cwS 3 hts gX11_isPaper_X11_in rfl rfl rfl (by decide +kernel) ⟨Nat.le_of_ble_eq_true rfl, Nat.le_of_ble_eq_true rfl⟩) ⟨fun _ _ _ _ q => q, fun U hU hW => ⟨rfl, trivial⟩⟩ rfl rfl hl.1 rfl (lv_room (Nat.le_of_ble_eq_true rfl)) dX11_isPaper_8 ⟨Nat.zero_le _, Nat.zero_le _⟩) (fun r hr9 => ?_)
  subst hr9
  exact W.zret (v := if 0 ≤ p0 ∧ p0 ≤ ((F 7) - 1) then (1 : Int32) else 0) hx hb hr (bo_n _) (fun t ht hW => ⟨if 0 ≤ p0 ∧ p0 ≤ ((F 7) - 1) then (1 : Int32) else 0, rfl, by rfl, ht⟩) (fun _ h => by cases h) dX11_isPaper_11

def s_X11_paper (F : Nat → Int32) (M : Nat → Nat → Int32) (p0 : Int32) (p1 : Int32) (p2 : Int32) (p3 : Int32) (p4 : Int32) : Int32 × ((Nat → Int32) × (Nat → Nat → Int32)) :=
  if 0 ≤ p0 ∧ p0 ≤ 2 then (if 0 ≤ p1 ∧ p1 ≤ ((F 4) - 1) then (if 0 ≤ p2 ∧ p2 ≤ (65535) then (if p0 = 2 then (if 0 ≤ p3 ∧ p3 ≤ (F 3) then (if 0 ≤ p4 ∧ p4 ≤ 5 then (if (F 7) = 24 then ((-2), (F, M)) else
              (F 7, (va_up F 7 ((F 7) + 1), va_up (va_up (va_up (va_up (va_up (va_up (va_up (va_up M 8 (upd (M 8) ((F 7).toNatClampNeg) p0)) 9 (upd (M 9) ((F 7).toNatClampNeg) p1)) 10 (upd (M 10) ((F 7).toNatClampNeg) p2)) 11 (upd (M 11) ((F 7).toNatClampNeg) (F 3))) 15 (upd (M 15) ((F 7).toNatClampNeg) (-9))) 12 (upd (M 12) ((F 7).toNatClampNeg) p3)) 13 (upd (M 13) ((F 7).toNatClampNeg) (p3 + ((M 5) p4.toNatClampNeg)))) 14 (upd (M 14) ((F 7).toNatClampNeg) (p3 + ((M 6) p4.toNatClampNeg)))))) else
            ((-1), (F, M))) else
          ((-1), (F, M))) else
        if (F 7) = 24 then ((-2), (F, M)) else
        (F 7, (va_up F 7 ((F 7) + 1), va_up (va_up (va_up (va_up (va_up (va_up (va_up (va_up M 8 (upd (M 8) ((F 7).toNatClampNeg) p0)) 9 (upd (M 9) ((F 7).toNatClampNeg) p1)) 10 (upd (M 10) ((F 7).toNatClampNeg) p2)) 11 (upd (M 11) ((F 7).toNatClampNeg) (F 3))) 15 (upd (M 15) ((F 7).toNatClampNeg) (-9))) 12 (upd (M 12) ((F 7).toNatClampNeg) (-9))) 13 (upd (M 13) ((F 7).toNatClampNeg) 0)) 14 (upd (M 14) ((F 7).toNatClampNeg) 0)))) else
      ((-1), (F, M))) else
    ((-1), (F, M))) else
  ((-1), (F, M))
set_option maxHeartbeats 4000000 in
set_option maxRecDepth 100000 in
theorem c_X11_paper (l : Launch) (dC : Nat → ClassId) (dI : Nat → Nat → Nat) (h : Nat) (a : Nat → Nat) (cI cB cZ : ClassId) (F : Nat → Int32) (M : Nat → Nat → Int32) (p0 : Int32) (p1 : Int32) (p2 : Int32) (p3 : Int32) (p4 : Int32) (A : Nat → Prop) (hD : va_D A (wM h a cI cB cZ F M)) (hI : iv F M) : Met l yX11_paper wsX11_paper ({ frames := 2, cells := 0, slots := 0, locals := 43 } : Room) (va_Pc [.ref h, .int p0, .int p1, .int p2, .int p3, .int p4] (pM dC dI h a cI cB cZ F M)) (va_Qi (fun r u => (r, u) = s_X11_paper F M p0 p1 p2 p3 p4) (qM A dC dI h a cI cB cZ) A) 0 0 A := by
  refine Met.ofW (cc := cX11_paper) (maxL := 7) (ret := (some .int)) (by decide) rfl ?_
  intro p e s m args below meth c s₁ B hml hv
  obtain ⟨rfl, hP, hK⟩ := hv
  have hx := B.exec
  have hb := B.bytes
  have hr := B.returns
  have hts := atoms_spec (ws := wsX11_paper) B.pre
  have hown : s.vm.findClass RX11 = some m.cls := findClass_of_methodNamed B.named
  have hlocks := B.notSynchronized
  have hin : ∀ w ∈ wsX110, w ∈ wsX11_paper := by decide +kernel
  have hS : va_S A s.heap s.heap [] := va_S.rf
  have hl := lv_entry ([.ref h, .int p0, .int p1, .int p2, .int p3, .int p4]) (n := 7) (Nat.le_of_ble_eq_true rfl)
  rw [lg_entry_eq]
  generalize (lg_sl ([.ref h, .int p0, .int p1, .int p2, .int p3, .int p4]) ++ List.replicate (7 - (lg_sl ([.ref h, .int p0, .int p1, .int p2, .int p3, .int p4])).length) Slot.unset).toArray = ls at hl ⊢
  have hl : lv_has ls 7 [(0, .ref h), (1, .int p0), (2, .int p1), (3, .int p2), (4, .int p3), (5, .int p4)] := hl
  refine lv_iload_n hx hb dX11_paper_0 rfl (lv_at hl 1 rfl) ?_
  refine lv_iconst (v := 0) hx hb dX11_paper_1 (by decide) ?_
  refine lv_iconst (v := 2) hx hb dX11_paper_2 (by decide) ?_
  refine vp_callSi (W.runS (As := [.int p0, .int 0, .int 2]) (rest := []) ⟨hx, hb, hml, hown, hts⟩ (c_X11_in l p0 0 2) (va_cwS 3 hts gX11_paper_X11_in rfl rfl rfl (by decide +kernel) ⟨Nat.le_of_ble_eq_true rfl, Nat.le_of_ble_eq_true rfl⟩) ⟨fun _ _ _ _ q => q, fun U hU hW => ⟨rfl, trivial⟩⟩ rfl rfl hl.1 rfl (lv_room (Nat.le_of_ble_eq_true rfl)) dX11_paper_3 ⟨Nat.zero_le _, Nat.zero_le _⟩) (fun r hr9 => ?_)
  subst hr9
  refine lv_if_eq (tgt := 55) hx hb dX11_paper_6 (by decide) (fun c1 => ?_) (fun c1 => ?_)
  · replace c1 := bo_f c1
    refine lv_iconst (v := (-1)) hx hb dX11_paper_55 (by decide) ?_
    exact W.iret (v := (-1)) hx hb hr (fun t ht hW => ⟨⟨(-1), (F, M), rfl, by unfold s_X11_paper; rw [if_neg c1], ⟨by rw [ht]; exact hP, va_K.moved hW.alike hK⟩, hD⟩, hS.F ht⟩) hS.2.2 dX11_paper_56
  · replace c1 := bo_t c1
    refine lv_aload_n hx hb dX11_paper_9 rfl (lv_at hl 0 rfl) ?_
    refine lv_iload_n hx hb dX11_paper_10 rfl (lv_at hl 2 rfl) ?_
    refine vp_callSi (W.runV (As := [.int p1]) (rest := []) ⟨hx, hb, hml, hown, hts⟩ (c_X11_isFellow l dC dI h a cI cB cZ F M p1) (cwV 1 hts gX11_paper_X11_isFellow rfl rfl rfl (by decide +kernel) ⟨Nat.le_of_ble_eq_true rfl, Nat.le_of_ble_eq_true rfl⟩) ⟨pm_blind, va_recv hK hP (ci := 10) (q0 := 0) rfl rfl, fun U hU hW => ⟨rfl, by rw [hU]; exact hP, va_K.moved hW.alike hK⟩⟩ rfl rfl hl.1 rfl (lv_room (Nat.le_of_ble_eq_true rfl)) dX11_paper_11 ⟨Nat.zero_le _, Nat.zero_le _⟩) (fun r hr9 => ?_)
    subst hr9
    refine lv_if_eq (tgt := 55) hx hb dX11_paper_14 (by decide) (fun c2 => ?_) (fun c2 => ?_)
    · replace c2 := bo_f c2
      refine lv_iconst (v := (-1)) hx hb dX11_paper_55 (by decide) ?_
      exact W.iret (v := (-1)) hx hb hr (fun t ht hW => ⟨⟨(-1), (F, M), rfl, by unfold s_X11_paper; rw [if_pos c1, if_neg c2], ⟨by rw [ht]; exact hP, va_K.moved hW.alike hK⟩, hD⟩, hS.F ht⟩) hS.2.2 dX11_paper_56
    · replace c2 := bo_t c2
      refine lv_iload_n hx hb dX11_paper_17 rfl (lv_at hl 3 rfl) ?_
      refine lv_iconst (v := 0) hx hb dX11_paper_18 (by decide) ?_
      refine lv_ldc (v := (65535)) hx hb hown (hts (.constant RX11 153 (65535)) (by decide +kernel)) dX11_paper_19 ?_
      refine vp_callSi (W.runS (As := [.int p2, .int 0, .int (65535)]) (rest := []) ⟨hx, hb, hml, hown, hts⟩ (c_X11_in l p2 0 (65535)) (va_cwS 3 hts gX11_paper_X11_in rfl rfl rfl (by decide +kernel) ⟨Nat.le_of_ble_eq_true rfl, Nat.le_of_ble_eq_true rfl⟩) ⟨fun _ _ _ _ q => q, fun U hU hW => ⟨rfl, trivial⟩⟩ rfl rfl hl.1 rfl (lv_room (Nat.le_of_ble_eq_true rfl)) dX11_paper_21 ⟨Nat.zero_le _, Nat.zero_le _⟩) (fun r hr9 => ?_)
      subst hr9
      refine lv_if_eq (tgt := 55) hx hb dX11_paper_24 (by decide) (fun c3 => ?_) (fun c3 => ?_)
      · replace c3 := bo_f c3
        refine lv_iconst (v := (-1)) hx hb dX11_paper_55 (by decide) ?_
        exact W.iret (v := (-1)) hx hb hr (fun t ht hW => ⟨⟨(-1), (F, M), rfl, by unfold s_X11_paper; rw [if_pos c1, if_pos c2, if_neg c3], ⟨by rw [ht]; exact hP, va_K.moved hW.alike hK⟩, hD⟩, hS.F ht⟩) hS.2.2 dX11_paper_56
      · replace c3 := bo_t c3
        refine lv_iload_n hx hb dX11_paper_27 rfl (lv_at hl 1 rfl) ?_
        refine lv_iconst (v := 2) hx hb dX11_paper_28 (by decide) ?_
        refine lv_icmp_ne (tgt := 57) hx hb dX11_paper_29 (by decide) (fun c4 => ?_) (fun c4 => ?_)
        · refine lv_aload_n hx hb dX11_paper_57 rfl (lv_at hl 0 rfl) ?_
          refine va_get (D := (dC, dI)) (ci := 10) (v := .int (F 7)) (C := RX11) (T := TX11) (N := 49) hx hb hts hin hown hK hP 0 rfl rfl 7 (by decide) (hts (.fieldLink RX11 146 "SocietyBookModel" "papers" "I") (by decide +kernel)) (fun _ h9 => h9) rfl dX11_paper_58 ?_
          refine lv_bipush (v := 24) hx hb dX11_paper_61 (by decide) ?_
          refine lv_icmp_ne (tgt := 69) hx hb dX11_paper_63 (by decide) (fun c5 => ?_) (fun c5 => ?_)
          · refine lv_aload_n hx hb dX11_paper_69 rfl (lv_at hl 0 rfl) ?_
            refine va_get (D := (dC, dI)) (ci := 10) (v := .int (F 7)) (C := RX11) (T := TX11) (N := 49) hx hb hts hin hown hK hP 0 rfl rfl 7 (by decide) (hts (.fieldLink RX11 146 "SocietyBookModel" "papers" "I") (by decide +kernel)) (fun _ h9 => h9) rfl dX11_paper_70 ?_
            refine lv_istore (lv' := [(6, .int (F 7)), (0, .ref h), (1, .int p0), (2, .int p1), (3, .int p2), (4, .int p3), (5, .int p4)]) hx hb dX11_paper_73 hl (by decide) rfl (fun ls hl => ?_)
            refine lv_aload_n hx hb dX11_paper_75 rfl (lv_at hl 1 rfl) ?_
            refine va_get (D := (dC, dI)) (ci := 10) (v := .ref (a 8)) (C := RX11) (T := TX11) (N := 49) hx hb hts hin hown hK hP 0 rfl rfl 8 (by decide) (hts (.fieldLink RX11 19 "SocietyBookModel" "kindOf" "[I") (by decide +kernel)) (fun _ h9 => h9) rfl dX11_paper_76 ?_
            refine lv_iload hx hb dX11_paper_79 (lv_at hl 0 rfl) ?_
            refine lv_iload_n hx hb dX11_paper_81 rfl (lv_at hl 2 rfl) ?_
            refine va_iast (f := M 8) hx hb hK hP hD hS 4 0 rfl rfl (ib_ct (iv_7 hI) c5 (by decide)) dX11_paper_82 (fun H locs hP hD hS => ?_)
            replace hP : va_P (dC, dI) vwCl (wM h a cI cB cZ F (va_up M 8 (upd (M 8) ((F 7).toNatClampNeg) p0))) H := hP
            replace hD : va_D A (wM h a cI cB cZ F (va_up M 8 (upd (M 8) ((F 7).toNatClampNeg) p0))) := hD
            refine lv_aload_n hx hb dX11_paper_83 rfl (lv_at hl 1 rfl) ?_
            refine va_get (D := (dC, dI)) (ci := 10) (v := .ref (a 9)) (C := RX11) (T := TX11) (N := 49) hx hb hts hin hown hK hP 0 rfl rfl 9 (by decide) (hts (.fieldLink RX11 22 "SocietyBookModel" "authorOf" "[I") (by decide +kernel)) (fun _ h9 => h9) rfl dX11_paper_84 ?_
            refine lv_iload hx hb dX11_paper_87 (lv_at hl 0 rfl) ?_
            refine lv_iload_n hx hb dX11_paper_89 rfl (lv_at hl 3 rfl) ?_
            refine va_iast (f := M 9) hx hb hK hP hD hS 5 0 rfl rfl (ib_ct (iv_7 hI) c5 (by decide)) dX11_paper_90 (fun H locs hP hD hS => ?_)
            replace hP : va_P (dC, dI) vwCl (wM h a cI cB cZ F (va_up (va_up M 8 (upd (M 8) ((F 7).toNatClampNeg) p0)) 9 (upd (M 9) ((F 7).toNatClampNeg) p1))) H := hP
            replace hD : va_D A (wM h a cI cB cZ F (va_up (va_up M 8 (upd (M 8) ((F 7).toNatClampNeg) p0)) 9 (upd (M 9) ((F 7).toNatClampNeg) p1))) := hD
            refine lv_aload_n hx hb dX11_paper_91 rfl (lv_at hl 1 rfl) ?_
            refine va_get (D := (dC, dI)) (ci := 10) (v := .ref (a 10)) (C := RX11) (T := TX11) (N := 49) hx hb hts hin hown hK hP 0 rfl rfl 10 (by decide) (hts (.fieldLink RX11 25 "SocietyBookModel" "claimsOf" "[I") (by decide +kernel)) (fun _ h9 => h9) rfl dX11_paper_92 ?_
            refine lv_iload hx hb dX11_paper_95 (lv_at hl 0 rfl) ?_
            refine lv_iload_n hx hb dX11_paper_97 rfl (lv_at hl 4 rfl) ?_
            refine va_iast (f := M 10) hx hb hK hP hD hS 6 0 rfl rfl (ib_ct (iv_7 hI) c5 (by decide)) dX11_paper_98 (fun H locs hP hD hS => ?_)
            replace hP : va_P (dC, dI) vwCl (wM h a cI cB cZ F (va_up (va_up (va_up M 8 (upd (M 8) ((F 7).toNatClampNeg) p0)) 9 (upd (M 9) ((F 7).toNatClampNeg) p1)) 10 (upd (M 10) ((F 7).toNatClampNeg) p2))) H := hP
            replace hD : va_D A (wM h a cI cB cZ F (va_up (va_up (va_up M 8 (upd (M 8) ((F 7).toNatClampNeg) p0)) 9 (upd (M 9) ((F 7).toNatClampNeg) p1)) 10 (upd (M 10) ((F 7).toNatClampNeg) p2))) := hD
            refine lv_aload_n hx hb dX11_paper_99 rfl (lv_at hl 1 rfl) ?_
            refine va_get (D := (dC, dI)) (ci := 10) (v := .ref (a 11)) (C := RX11) (T := TX11) (N := 49) hx hb hts hin hown hK hP 0 rfl rfl 11 (by decide) (hts (.fieldLink RX11 28 "SocietyBookModel" "toldOn" "[I") (by decide +kernel)) (fun _ h9 => h9) rfl dX11_paper_100 ?_
            refine lv_iload hx hb dX11_paper_103 (lv_at hl 0 rfl) ?_
            refine lv_aload_n hx hb dX11_paper_105 rfl (lv_at hl 1 rfl) ?_
            refine va_get (D := (dC, dI)) (ci := 10) (v := .int (F 3)) (C := RX11) (T := TX11) (N := 49) hx hb hts hin hown hK hP 0 rfl rfl 3 (by decide) (hts (.fieldLink RX11 140 "SocietyBookModel" "today" "I") (by decide +kernel)) (fun _ h9 => h9) rfl dX11_paper_106 ?_
            refine va_iast (f := M 11) hx hb hK hP hD hS 7 0 rfl rfl (ib_ct (iv_7 hI) c5 (by decide)) dX11_paper_109 (fun H locs hP hD hS => ?_)
            replace hP : va_P (dC, dI) vwCl (wM h a cI cB cZ F (va_up (va_up (va_up (va_up M 8 (upd (M 8) ((F 7).toNatClampNeg) p0)) 9 (upd (M 9) ((F 7).toNatClampNeg) p1)) 10 (upd (M 10) ((F 7).toNatClampNeg) p2)) 11 (upd (M 11) ((F 7).toNatClampNeg) (F 3)))) H := hP
            replace hD : va_D A (wM h a cI cB cZ F (va_up (va_up (va_up (va_up M 8 (upd (M 8) ((F 7).toNatClampNeg) p0)) 9 (upd (M 9) ((F 7).toNatClampNeg) p1)) 10 (upd (M 10) ((F 7).toNatClampNeg) p2)) 11 (upd (M 11) ((F 7).toNatClampNeg) (F 3)))) := hD
            refine lv_aload_n hx hb dX11_paper_110 rfl (lv_at hl 1 rfl) ?_
            refine va_get (D := (dC, dI)) (ci := 10) (v := .ref (a 15)) (C := RX11) (T := TX11) (N := 49) hx hb hts hin hown hK hP 0 rfl rfl 15 (by decide) (hts (.fieldLink RX11 40 "SocietyBookModel" "openedOn" "[I") (by decide +kernel)) (fun _ h9 => h9) rfl dX11_paper_111 ?_
            refine lv_iload hx hb dX11_paper_114 (lv_at hl 0 rfl) ?_
            refine lv_bipush (v := (-9)) hx hb dX11_paper_116 (by decide) ?_
            refine va_iast (f := M 15) hx hb hK hP hD hS 11 0 rfl rfl (ib_ct (iv_7 hI) c5 (by decide)) dX11_paper_118 (fun H locs hP hD hS => ?_)
            replace hP : va_P (dC, dI) vwCl (wM h a cI cB cZ F (va_up (va_up (va_up (va_up (va_up M 8 (upd (M 8) ((F 7).toNatClampNeg) p0)) 9 (upd (M 9) ((F 7).toNatClampNeg) p1)) 10 (upd (M 10) ((F 7).toNatClampNeg) p2)) 11 (upd (M 11) ((F 7).toNatClampNeg) (F 3))) 15 (upd (M 15) ((F 7).toNatClampNeg) (-9)))) H := hP
            replace hD : va_D A (wM h a cI cB cZ F (va_up (va_up (va_up (va_up (va_up M 8 (upd (M 8) ((F 7).toNatClampNeg) p0)) 9 (upd (M 9) ((F 7).toNatClampNeg) p1)) 10 (upd (M 10) ((F 7).toNatClampNeg) p2)) 11 (upd (M 11) ((F 7).toNatClampNeg) (F 3))) 15 (upd (M 15) ((F 7).toNatClampNeg) (-9)))) := hD
            refine lv_aload_n hx hb dX11_paper_119 rfl (lv_at hl 1 rfl) ?_
            refine va_get (D := (dC, dI)) (ci := 10) (v := .ref (a 12)) (C := RX11) (T := TX11) (N := 49) hx hb hts hin hown hK hP 0 rfl rfl 12 (by decide) (hts (.fieldLink RX11 31 "SocietyBookModel" "sentOn" "[I") (by decide +kernel)) (fun _ h9 => h9) rfl dX11_paper_120 ?_
            refine lv_iload hx hb dX11_paper_123 (lv_at hl 0 rfl) ?_
            refine lv_iload_n hx hb dX11_paper_125 rfl (lv_at hl 2 rfl) ?_
            refine lv_iconst (v := 2) hx hb dX11_paper_126 (by decide) ?_
            refine lv_icmp_ne (tgt := 135) hx hb dX11_paper_127 (by decide) (fun _ => ?_) (fun c => absurd c c4)
            refine lv_bipush (v := (-9)) hx hb dX11_paper_135 (by decide) ?_
            refine va_iast (f := M 12) hx hb hK hP hD hS 8 0 rfl rfl (ib_ct (iv_7 hI) c5 (by decide)) dX11_paper_137 (fun H locs hP hD hS => ?_)
            replace hP : va_P (dC, dI) vwCl (wM h a cI cB cZ F (va_up (va_up (va_up (va_up (va_up (va_up M 8 (upd (M 8) ((F 7).toNatClampNeg) p0)) 9 (upd (M 9) ((F 7).toNatClampNeg) p1)) 10 (upd (M 10) ((F 7).toNatClampNeg) p2)) 11 (upd (M 11) ((F 7).toNatClampNeg) (F 3))) 15 (upd (M 15) ((F 7).toNatClampNeg) (-9))) 12 (upd (M 12) ((F 7).toNatClampNeg) (-9)))) H := hP
            replace hD : va_D A (wM h a cI cB cZ F (va_up (va_up (va_up (va_up (va_up (va_up M 8 (upd (M 8) ((F 7).toNatClampNeg) p0)) 9 (upd (M 9) ((F 7).toNatClampNeg) p1)) 10 (upd (M 10) ((F 7).toNatClampNeg) p2)) 11 (upd (M 11) ((F 7).toNatClampNeg) (F 3))) 15 (upd (M 15) ((F 7).toNatClampNeg) (-9))) 12 (upd (M 12) ((F 7).toNatClampNeg) (-9)))) := hD
            refine lv_aload_n hx hb dX11_paper_138 rfl (lv_at hl 1 rfl) ?_
            refine va_get (D := (dC, dI)) (ci := 10) (v := .ref (a 13)) (C := RX11) (T := TX11) (N := 49) hx hb hts hin hown hK hP 0 rfl rfl 13 (by decide) (hts (.fieldLink RX11 34 "SocietyBookModel" "spanFrom" "[I") (by decide +kernel)) (fun _ h9 => h9) rfl dX11_paper_139 ?_
            refine lv_iload hx hb dX11_paper_142 (lv_at hl 0 rfl) ?_
            refine lv_iload_n hx hb dX11_paper_144 rfl (lv_at hl 2 rfl) ?_
            refine lv_iconst (v := 2) hx hb dX11_paper_145 (by decide) ?_
            refine lv_icmp_ne (tgt := 162) hx hb dX11_paper_146 (by decide) (fun _ => ?_) (fun c => absurd c c4)
            refine lv_iconst (v := 0) hx hb dX11_paper_162 (by decide) ?_
            refine va_iast (f := M 13) hx hb hK hP hD hS 9 0 rfl rfl (ib_ct (iv_7 hI) c5 (by decide)) dX11_paper_163 (fun H locs hP hD hS => ?_)
            replace hP : va_P (dC, dI) vwCl (wM h a cI cB cZ F (va_up (va_up (va_up (va_up (va_up (va_up (va_up M 8 (upd (M 8) ((F 7).toNatClampNeg) p0)) 9 (upd (M 9) ((F 7).toNatClampNeg) p1)) 10 (upd (M 10) ((F 7).toNatClampNeg) p2)) 11 (upd (M 11) ((F 7).toNatClampNeg) (F 3))) 15 (upd (M 15) ((F 7).toNatClampNeg) (-9))) 12 (upd (M 12) ((F 7).toNatClampNeg) (-9))) 13 (upd (M 13) ((F 7).toNatClampNeg) 0))) H := hP
            replace hD : va_D A (wM h a cI cB cZ F (va_up (va_up (va_up (va_up (va_up (va_up (va_up M 8 (upd (M 8) ((F 7).toNatClampNeg) p0)) 9 (upd (M 9) ((F 7).toNatClampNeg) p1)) 10 (upd (M 10) ((F 7).toNatClampNeg) p2)) 11 (upd (M 11) ((F 7).toNatClampNeg) (F 3))) 15 (upd (M 15) ((F 7).toNatClampNeg) (-9))) 12 (upd (M 12) ((F 7).toNatClampNeg) (-9))) 13 (upd (M 13) ((F 7).toNatClampNeg) 0))) := hD
            refine lv_aload_n hx hb dX11_paper_164 rfl (lv_at hl 1 rfl) ?_
            refine va_get (D := (dC, dI)) (ci := 10) (v := .ref (a 14)) (C := RX11) (T := TX11) (N := 49) hx hb hts hin hown hK hP 0 rfl rfl 14 (by decide) (hts (.fieldLink RX11 37 "SocietyBookModel" "spanTo" "[I") (by decide +kernel)) (fun _ h9 => h9) rfl dX11_paper_165 ?_
            refine lv_iload hx hb dX11_paper_168 (lv_at hl 0 rfl) ?_
            refine lv_iload_n hx hb dX11_paper_170 rfl (lv_at hl 2 rfl) ?_
            refine lv_iconst (v := 2) hx hb dX11_paper_171 (by decide) ?_
            refine lv_icmp_ne (tgt := 188) hx hb dX11_paper_172 (by decide) (fun _ => ?_) (fun c => absurd c c4)
            refine lv_iconst (v := 0) hx hb dX11_paper_188 (by decide) ?_
            refine va_iast (f := M 14) hx hb hK hP hD hS 10 0 rfl rfl (ib_ct (iv_7 hI) c5 (by decide)) dX11_paper_189 (fun H locs hP hD hS => ?_)
            replace hP : va_P (dC, dI) vwCl (wM h a cI cB cZ F (va_up (va_up (va_up (va_up (va_up (va_up (va_up (va_up M 8 (upd (M 8) ((F 7).toNatClampNeg) p0)) 9 (upd (M 9) ((F 7).toNatClampNeg) p1)) 10 (upd (M 10) ((F 7).toNatClampNeg) p2)) 11 (upd (M 11) ((F 7).toNatClampNeg) (F 3))) 15 (upd (M 15) ((F 7).toNatClampNeg) (-9))) 12 (upd (M 12) ((F 7).toNatClampNeg) (-9))) 13 (upd (M 13) ((F 7).toNatClampNeg) 0)) 14 (upd (M 14) ((F 7).toNatClampNeg) 0))) H := hP
            replace hD : va_D A (wM h a cI cB cZ F (va_up (va_up (va_up (va_up (va_up (va_up (va_up (va_up M 8 (upd (M 8) ((F 7).toNatClampNeg) p0)) 9 (upd (M 9) ((F 7).toNatClampNeg) p1)) 10 (upd (M 10) ((F 7).toNatClampNeg) p2)) 11 (upd (M 11) ((F 7).toNatClampNeg) (F 3))) 15 (upd (M 15) ((F 7).toNatClampNeg) (-9))) 12 (upd (M 12) ((F 7).toNatClampNeg) (-9))) 13 (upd (M 13) ((F 7).toNatClampNeg) 0)) 14 (upd (M 14) ((F 7).toNatClampNeg) 0))) := hD
            refine lv_aload_n hx hb dX11_paper_190 rfl (lv_at hl 1 rfl) ?_
            refine lv_dup hx hb dX11_paper_191 rfl ?_
            refine va_get (D := (dC, dI)) (ci := 10) (v := .int (F 7)) (C := RX11) (T := TX11) (N := 49) hx hb hts hin hown hK hP 0 rfl rfl 7 (by decide) (hts (.fieldLink RX11 146 "SocietyBookModel" "papers" "I") (by decide +kernel)) (fun _ h9 => h9) rfl dX11_paper_192 ?_
            refine lv_iconst (v := 1) hx hb dX11_paper_195 (by decide) ?_
            refine lv_iadd hx hb dX11_paper_196 ?_
            refine va_put (D := (dC, dI)) (ci := 10) (v := .int ((F 7) + 1)) (ty := .int) (C := RX11) (T := TX11) (N := 49) hx hb hts hin tyX11 tyX11_ok nmX11 hown hK hP hD hS 0 rfl rfl 7 (by decide) (hts (.fieldLink RX11 146 "SocietyBookModel" "papers" "I") (by decide +kernel)) (fun _ h9 => h9) rfl (by decide +kernel) rfl rfl (Nat.le_of_ble_eq_true rfl) dX11_paper_197 (fun H locs hP hD hS => ?_)
            replace hP : va_P (dC, dI) vwCl (wM h a cI cB cZ (va_up F 7 ((F 7) + 1)) (va_up (va_up (va_up (va_up (va_up (va_up (va_up (va_up M 8 (upd (M 8) ((F 7).toNatClampNeg) p0)) 9 (upd (M 9) ((F 7).toNatClampNeg) p1)) 10 (upd (M 10) ((F 7).toNatClampNeg) p2)) 11 (upd (M 11) ((F 7).toNatClampNeg) (F 3))) 15 (upd (M 15) ((F 7).toNatClampNeg) (-9))) 12 (upd (M 12) ((F 7).toNatClampNeg) (-9))) 13 (upd (M 13) ((F 7).toNatClampNeg) 0)) 14 (upd (M 14) ((F 7).toNatClampNeg) 0))) H := hP
            replace hD : va_D A (wM h a cI cB cZ (va_up F 7 ((F 7) + 1)) (va_up (va_up (va_up (va_up (va_up (va_up (va_up (va_up M 8 (upd (M 8) ((F 7).toNatClampNeg) p0)) 9 (upd (M 9) ((F 7).toNatClampNeg) p1)) 10 (upd (M 10) ((F 7).toNatClampNeg) p2)) 11 (upd (M 11) ((F 7).toNatClampNeg) (F 3))) 15 (upd (M 15) ((F 7).toNatClampNeg) (-9))) 12 (upd (M 12) ((F 7).toNatClampNeg) (-9))) 13 (upd (M 13) ((F 7).toNatClampNeg) 0)) 14 (upd (M 14) ((F 7).toNatClampNeg) 0))) := hD
            refine lv_iload hx hb dX11_paper_200 (lv_at hl 0 rfl) ?_
            exact W.iret (v := F 7) hx hb hr (fun t ht hW => ⟨⟨F 7, (va_up F 7 ((F 7) + 1), va_up (va_up (va_up (va_up (va_up (va_up (va_up (va_up M 8 (upd (M 8) ((F 7).toNatClampNeg) p0)) 9 (upd (M 9) ((F 7).toNatClampNeg) p1)) 10 (upd (M 10) ((F 7).toNatClampNeg) p2)) 11 (upd (M 11) ((F 7).toNatClampNeg) (F 3))) 15 (upd (M 15) ((F 7).toNatClampNeg) (-9))) 12 (upd (M 12) ((F 7).toNatClampNeg) (-9))) 13 (upd (M 13) ((F 7).toNatClampNeg) 0)) 14 (upd (M 14) ((F 7).toNatClampNeg) 0)), rfl, by unfold s_X11_paper; rw [if_pos c1, if_pos c2, if_pos c3, if_neg c4, if_neg c5], ⟨by rw [ht]; exact hP, va_K.moved hW.alike hK⟩, hD⟩, hS.F ht⟩) hS.2.2 dX11_paper_202
          · refine lv_bipush (v := (-2)) hx hb dX11_paper_66 (by decide) ?_
            exact W.iret (v := (-2)) hx hb hr (fun t ht hW => ⟨⟨(-2), (F, M), rfl, by unfold s_X11_paper; rw [if_pos c1, if_pos c2, if_pos c3, if_neg c4, if_pos c5], ⟨by rw [ht]; exact hP, va_K.moved hW.alike hK⟩, hD⟩, hS.F ht⟩) hS.2.2 dX11_paper_68
        · refine lv_iload hx hb dX11_paper_32 (lv_at hl 4 rfl) ?_
          refine lv_iconst (v := 0) hx hb dX11_paper_34 (by decide) ?_
          refine lv_aload_n hx hb dX11_paper_35 rfl (lv_at hl 0 rfl) ?_
          refine va_get (D := (dC, dI)) (ci := 10) (v := .int (F 3)) (C := RX11) (T := TX11) (N := 49) hx hb hts hin hown hK hP 0 rfl rfl 3 (by decide) (hts (.fieldLink RX11 140 "SocietyBookModel" "today" "I") (by decide +kernel)) (fun _ h9 => h9) rfl dX11_paper_36 ?_
          refine vp_callSi (W.runS (As := [.int p3, .int 0, .int (F 3)]) (rest := []) ⟨hx, hb, hml, hown, hts⟩ (c_X11_in l p3 0 (F 3)) (va_cwS 3 hts gX11_paper_X11_in rfl rfl rfl (by decide +kernel) ⟨Nat.le_of_ble_eq_true rfl, Nat.le_of_ble_eq_true rfl⟩) ⟨fun _ _ _ _ q => q, fun U hU hW => ⟨rfl, trivial⟩⟩ rfl rfl hl.1 rfl (lv_room (Nat.le_of_ble_eq_true rfl)) dX11_paper_39 ⟨Nat.zero_le _, Nat.zero_le _⟩) (fun r hr9 => ?_)
          subst hr9
          refine lv_if_eq (tgt := 55) hx hb dX11_paper_42 (by decide) (fun c6 => ?_) (fun c6 => ?_)
          · replace c6 := bo_f c6
            refine lv_iconst (v := (-1)) hx hb dX11_paper_55 (by decide) ?_
            exact W.iret (v := (-1)) hx hb hr (fun t ht hW => ⟨⟨(-1), (F, M), rfl, by unfold s_X11_paper; rw [if_pos c1, if_pos c2, if_pos c3, if_pos c4, if_neg c6], ⟨by rw [ht]; exact hP, va_K.moved hW.alike hK⟩, hD⟩, hS.F ht⟩) hS.2.2 dX11_paper_56
          · replace c6 := bo_t c6
            refine lv_iload hx hb dX11_paper_45 (lv_at hl 5 rfl) ?_
            refine lv_iconst (v := 0) hx hb dX11_paper_47 (by decide) ?_
            refine lv_iconst (v := 5) hx hb dX11_paper_48 (by decide) ?_
            refine vp_callSi (W.runS (As := [.int p4, .int 0, .int 5]) (rest := []) ⟨hx, hb, hml, hown, hts⟩ (c_X11_in l p4 0 5) (va_cwS 3 hts gX11_paper_X11_in rfl rfl rfl (by decide +kernel) ⟨Nat.le_of_ble_eq_true rfl, Nat.le_of_ble_eq_true rfl⟩) ⟨fun _ _ _ _ q => q, fun U hU hW => ⟨rfl, trivial⟩⟩ rfl rfl hl.1 rfl (lv_room (Nat.le_of_ble_eq_true rfl)) dX11_paper_49 ⟨Nat.zero_le _, Nat.zero_le _⟩) (fun r hr9 => ?_)
            subst hr9
            refine lv_if_ne (tgt := 57) hx hb dX11_paper_52 (by decide) (fun c7 => ?_) (fun c7 => ?_)
            · replace c7 := bo_t c7
              refine lv_aload_n hx hb dX11_paper_57 rfl (lv_at hl 0 rfl) ?_
              refine va_get (D := (dC, dI)) (ci := 10) (v := .int (F 7)) (C := RX11) (T := TX11) (N := 49) hx hb hts hin hown hK hP 0 rfl rfl 7 (by decide) (hts (.fieldLink RX11 146 "SocietyBookModel" "papers" "I") (by decide +kernel)) (fun _ h9 => h9) rfl dX11_paper_58 ?_
              refine lv_bipush (v := 24) hx hb dX11_paper_61 (by decide) ?_
              refine lv_icmp_ne (tgt := 69) hx hb dX11_paper_63 (by decide) (fun c8 => ?_) (fun c8 => ?_)
              · refine lv_aload_n hx hb dX11_paper_69 rfl (lv_at hl 0 rfl) ?_
                refine va_get (D := (dC, dI)) (ci := 10) (v := .int (F 7)) (C := RX11) (T := TX11) (N := 49) hx hb hts hin hown hK hP 0 rfl rfl 7 (by decide) (hts (.fieldLink RX11 146 "SocietyBookModel" "papers" "I") (by decide +kernel)) (fun _ h9 => h9) rfl dX11_paper_70 ?_
                refine lv_istore (lv' := [(6, .int (F 7)), (0, .ref h), (1, .int p0), (2, .int p1), (3, .int p2), (4, .int p3), (5, .int p4)]) hx hb dX11_paper_73 hl (by decide) rfl (fun ls hl => ?_)
                refine lv_aload_n hx hb dX11_paper_75 rfl (lv_at hl 1 rfl) ?_
                refine va_get (D := (dC, dI)) (ci := 10) (v := .ref (a 8)) (C := RX11) (T := TX11) (N := 49) hx hb hts hin hown hK hP 0 rfl rfl 8 (by decide) (hts (.fieldLink RX11 19 "SocietyBookModel" "kindOf" "[I") (by decide +kernel)) (fun _ h9 => h9) rfl dX11_paper_76 ?_
                refine lv_iload hx hb dX11_paper_79 (lv_at hl 0 rfl) ?_
                refine lv_iload_n hx hb dX11_paper_81 rfl (lv_at hl 2 rfl) ?_
                refine va_iast (f := M 8) hx hb hK hP hD hS 4 0 rfl rfl (ib_ct (iv_7 hI) c8 (by decide)) dX11_paper_82 (fun H locs hP hD hS => ?_)
                replace hP : va_P (dC, dI) vwCl (wM h a cI cB cZ F (va_up M 8 (upd (M 8) ((F 7).toNatClampNeg) p0))) H := hP
                replace hD : va_D A (wM h a cI cB cZ F (va_up M 8 (upd (M 8) ((F 7).toNatClampNeg) p0))) := hD
                refine lv_aload_n hx hb dX11_paper_83 rfl (lv_at hl 1 rfl) ?_
                refine va_get (D := (dC, dI)) (ci := 10) (v := .ref (a 9)) (C := RX11) (T := TX11) (N := 49) hx hb hts hin hown hK hP 0 rfl rfl 9 (by decide) (hts (.fieldLink RX11 22 "SocietyBookModel" "authorOf" "[I") (by decide +kernel)) (fun _ h9 => h9) rfl dX11_paper_84 ?_
                refine lv_iload hx hb dX11_paper_87 (lv_at hl 0 rfl) ?_
                refine lv_iload_n hx hb dX11_paper_89 rfl (lv_at hl 3 rfl) ?_
                refine va_iast (f := M 9) hx hb hK hP hD hS 5 0 rfl rfl (ib_ct (iv_7 hI) c8 (by decide)) dX11_paper_90 (fun H locs hP hD hS => ?_)
                replace hP : va_P (dC, dI) vwCl (wM h a cI cB cZ F (va_up (va_up M 8 (upd (M 8) ((F 7).toNatClampNeg) p0)) 9 (upd (M 9) ((F 7).toNatClampNeg) p1))) H := hP
                replace hD : va_D A (wM h a cI cB cZ F (va_up (va_up M 8 (upd (M 8) ((F 7).toNatClampNeg) p0)) 9 (upd (M 9) ((F 7).toNatClampNeg) p1))) := hD
                refine lv_aload_n hx hb dX11_paper_91 rfl (lv_at hl 1 rfl) ?_
                refine va_get (D := (dC, dI)) (ci := 10) (v := .ref (a 10)) (C := RX11) (T := TX11) (N := 49) hx hb hts hin hown hK hP 0 rfl rfl 10 (by decide) (hts (.fieldLink RX11 25 "SocietyBookModel" "claimsOf" "[I") (by decide +kernel)) (fun _ h9 => h9) rfl dX11_paper_92 ?_
                refine lv_iload hx hb dX11_paper_95 (lv_at hl 0 rfl) ?_
                refine lv_iload_n hx hb dX11_paper_97 rfl (lv_at hl 4 rfl) ?_
                refine va_iast (f := M 10) hx hb hK hP hD hS 6 0 rfl rfl (ib_ct (iv_7 hI) c8 (by decide)) dX11_paper_98 (fun H locs hP hD hS => ?_)
                replace hP : va_P (dC, dI) vwCl (wM h a cI cB cZ F (va_up (va_up (va_up M 8 (upd (M 8) ((F 7).toNatClampNeg) p0)) 9 (upd (M 9) ((F 7).toNatClampNeg) p1)) 10 (upd (M 10) ((F 7).toNatClampNeg) p2))) H := hP
                replace hD : va_D A (wM h a cI cB cZ F (va_up (va_up (va_up M 8 (upd (M 8) ((F 7).toNatClampNeg) p0)) 9 (upd (M 9) ((F 7).toNatClampNeg) p1)) 10 (upd (M 10) ((F 7).toNatClampNeg) p2))) := hD
                refine lv_aload_n hx hb dX11_paper_99 rfl (lv_at hl 1 rfl) ?_
                refine va_get (D := (dC, dI)) (ci := 10) (v := .ref (a 11)) (C := RX11) (T := TX11) (N := 49) hx hb hts hin hown hK hP 0 rfl rfl 11 (by decide) (hts (.fieldLink RX11 28 "SocietyBookModel" "toldOn" "[I") (by decide +kernel)) (fun _ h9 => h9) rfl dX11_paper_100 ?_
                refine lv_iload hx hb dX11_paper_103 (lv_at hl 0 rfl) ?_
                refine lv_aload_n hx hb dX11_paper_105 rfl (lv_at hl 1 rfl) ?_
                refine va_get (D := (dC, dI)) (ci := 10) (v := .int (F 3)) (C := RX11) (T := TX11) (N := 49) hx hb hts hin hown hK hP 0 rfl rfl 3 (by decide) (hts (.fieldLink RX11 140 "SocietyBookModel" "today" "I") (by decide +kernel)) (fun _ h9 => h9) rfl dX11_paper_106 ?_
                refine va_iast (f := M 11) hx hb hK hP hD hS 7 0 rfl rfl (ib_ct (iv_7 hI) c8 (by decide)) dX11_paper_109 (fun H locs hP hD hS => ?_)
                replace hP : va_P (dC, dI) vwCl (wM h a cI cB cZ F (va_up (va_up (va_up (va_up M 8 (upd (M 8) ((F 7).toNatClampNeg) p0)) 9 (upd (M 9) ((F 7).toNatClampNeg) p1)) 10 (upd (M 10) ((F 7).toNatClampNeg) p2)) 11 (upd (M 11) ((F 7).toNatClampNeg) (F 3)))) H := hP
                replace hD : va_D A (wM h a cI cB cZ F (va_up (va_up (va_up (va_up M 8 (upd (M 8) ((F 7).toNatClampNeg) p0)) 9 (upd (M 9) ((F 7).toNatClampNeg) p1)) 10 (upd (M 10) ((F 7).toNatClampNeg) p2)) 11 (upd (M 11) ((F 7).toNatClampNeg) (F 3)))) := hD
                refine lv_aload_n hx hb dX11_paper_110 rfl (lv_at hl 1 rfl) ?_
                refine va_get (D := (dC, dI)) (ci := 10) (v := .ref (a 15)) (C := RX11) (T := TX11) (N := 49) hx hb hts hin hown hK hP 0 rfl rfl 15 (by decide) (hts (.fieldLink RX11 40 "SocietyBookModel" "openedOn" "[I") (by decide +kernel)) (fun _ h9 => h9) rfl dX11_paper_111 ?_
                refine lv_iload hx hb dX11_paper_114 (lv_at hl 0 rfl) ?_
                refine lv_bipush (v := (-9)) hx hb dX11_paper_116 (by decide) ?_
                refine va_iast (f := M 15) hx hb hK hP hD hS 11 0 rfl rfl (ib_ct (iv_7 hI) c8 (by decide)) dX11_paper_118 (fun H locs hP hD hS => ?_)
                replace hP : va_P (dC, dI) vwCl (wM h a cI cB cZ F (va_up (va_up (va_up (va_up (va_up M 8 (upd (M 8) ((F 7).toNatClampNeg) p0)) 9 (upd (M 9) ((F 7).toNatClampNeg) p1)) 10 (upd (M 10) ((F 7).toNatClampNeg) p2)) 11 (upd (M 11) ((F 7).toNatClampNeg) (F 3))) 15 (upd (M 15) ((F 7).toNatClampNeg) (-9)))) H := hP
                replace hD : va_D A (wM h a cI cB cZ F (va_up (va_up (va_up (va_up (va_up M 8 (upd (M 8) ((F 7).toNatClampNeg) p0)) 9 (upd (M 9) ((F 7).toNatClampNeg) p1)) 10 (upd (M 10) ((F 7).toNatClampNeg) p2)) 11 (upd (M 11) ((F 7).toNatClampNeg) (F 3))) 15 (upd (M 15) ((F 7).toNatClampNeg) (-9)))) := hD
                refine lv_aload_n hx hb dX11_paper_119 rfl (lv_at hl 1 rfl) ?_
                refine va_get (D := (dC, dI)) (ci := 10) (v := .ref (a 12)) (C := RX11) (T := TX11) (N := 49) hx hb hts hin hown hK hP 0 rfl rfl 12 (by decide) (hts (.fieldLink RX11 31 "SocietyBookModel" "sentOn" "[I") (by decide +kernel)) (fun _ h9 => h9) rfl dX11_paper_120 ?_
                refine lv_iload hx hb dX11_paper_123 (lv_at hl 0 rfl) ?_
                refine lv_iload_n hx hb dX11_paper_125 rfl (lv_at hl 2 rfl) ?_
                refine lv_iconst (v := 2) hx hb dX11_paper_126 (by decide) ?_
                refine lv_icmp_ne (tgt := 135) hx hb dX11_paper_127 (by decide) (fun c => absurd c4 c) (fun _ => ?_)
                refine lv_iload hx hb dX11_paper_130 (lv_at hl 5 rfl) ?_
                refine lv_goto (tgt := 137) hx hb dX11_paper_132 (by decide) ?_
                refine va_iast (f := M 12) hx hb hK hP hD hS 8 0 rfl rfl (ib_ct (iv_7 hI) c8 (by decide)) dX11_paper_137 (fun H locs hP hD hS => ?_)
                replace hP : va_P (dC, dI) vwCl (wM h a cI cB cZ F (va_up (va_up (va_up (va_up (va_up (va_up M 8 (upd (M 8) ((F 7).toNatClampNeg) p0)) 9 (upd (M 9) ((F 7).toNatClampNeg) p1)) 10 (upd (M 10) ((F 7).toNatClampNeg) p2)) 11 (upd (M 11) ((F 7).toNatClampNeg) (F 3))) 15 (upd (M 15) ((F 7).toNatClampNeg) (-9))) 12 (upd (M 12) ((F 7).toNatClampNeg) p3))) H := hP
                replace hD : va_D A (wM h a cI cB cZ F (va_up (va_up (va_up (va_up (va_up (va_up M 8 (upd (M 8) ((F 7).toNatClampNeg) p0)) 9 (upd (M 9) ((F 7).toNatClampNeg) p1)) 10 (upd (M 10) ((F 7).toNatClampNeg) p2)) 11 (upd (M 11) ((F 7).toNatClampNeg) (F 3))) 15 (upd (M 15) ((F 7).toNatClampNeg) (-9))) 12 (upd (M 12) ((F 7).toNatClampNeg) p3))) := hD
                refine lv_aload_n hx hb dX11_paper_138 rfl (lv_at hl 1 rfl) ?_
                refine va_get (D := (dC, dI)) (ci := 10) (v := .ref (a 13)) (C := RX11) (T := TX11) (N := 49) hx hb hts hin hown hK hP 0 rfl rfl 13 (by decide) (hts (.fieldLink RX11 34 "SocietyBookModel" "spanFrom" "[I") (by decide +kernel)) (fun _ h9 => h9) rfl dX11_paper_139 ?_
                refine lv_iload hx hb dX11_paper_142 (lv_at hl 0 rfl) ?_
                refine lv_iload_n hx hb dX11_paper_144 rfl (lv_at hl 2 rfl) ?_
                refine lv_iconst (v := 2) hx hb dX11_paper_145 (by decide) ?_
                refine lv_icmp_ne (tgt := 162) hx hb dX11_paper_146 (by decide) (fun c => absurd c4 c) (fun _ => ?_)
                refine lv_iload hx hb dX11_paper_149 (lv_at hl 5 rfl) ?_
                refine lv_aload_n hx hb dX11_paper_151 rfl (lv_at hl 1 rfl) ?_
                refine va_get (D := (dC, dI)) (ci := 10) (v := .ref (a 5)) (C := RX11) (T := TX11) (N := 49) hx hb hts hin hown hK hP 0 rfl rfl 5 (by decide) (hts (.fieldLink RX11 13 "SocietyBookModel" "postLeast" "[I") (by decide +kernel)) (fun _ h9 => h9) rfl dX11_paper_152 ?_
                refine lv_iload hx hb dX11_paper_155 (lv_at hl 6 rfl) ?_
                refine va_iald (f := M 5) hx hb hK hP 2 0 rfl rfl (ib_in c7 (by decide)) dX11_paper_157 ?_
                refine lv_iadd hx hb dX11_paper_158 ?_
                refine lv_goto (tgt := 163) hx hb dX11_paper_159 (by decide) ?_
                refine va_iast (f := M 13) hx hb hK hP hD hS 9 0 rfl rfl (ib_ct (iv_7 hI) c8 (by decide)) dX11_paper_163 (fun H locs hP hD hS => ?_)
                replace hP : va_P (dC, dI) vwCl (wM h a cI cB cZ F (va_up (va_up (va_up (va_up (va_up (va_up (va_up M 8 (upd (M 8) ((F 7).toNatClampNeg) p0)) 9 (upd (M 9) ((F 7).toNatClampNeg) p1)) 10 (upd (M 10) ((F 7).toNatClampNeg) p2)) 11 (upd (M 11) ((F 7).toNatClampNeg) (F 3))) 15 (upd (M 15) ((F 7).toNatClampNeg) (-9))) 12 (upd (M 12) ((F 7).toNatClampNeg) p3)) 13 (upd (M 13) ((F 7).toNatClampNeg) (p3 + ((M 5) p4.toNatClampNeg))))) H := hP
                replace hD : va_D A (wM h a cI cB cZ F (va_up (va_up (va_up (va_up (va_up (va_up (va_up M 8 (upd (M 8) ((F 7).toNatClampNeg) p0)) 9 (upd (M 9) ((F 7).toNatClampNeg) p1)) 10 (upd (M 10) ((F 7).toNatClampNeg) p2)) 11 (upd (M 11) ((F 7).toNatClampNeg) (F 3))) 15 (upd (M 15) ((F 7).toNatClampNeg) (-9))) 12 (upd (M 12) ((F 7).toNatClampNeg) p3)) 13 (upd (M 13) ((F 7).toNatClampNeg) (p3 + ((M 5) p4.toNatClampNeg))))) := hD
                refine lv_aload_n hx hb dX11_paper_164 rfl (lv_at hl 1 rfl) ?_
                refine va_get (D := (dC, dI)) (ci := 10) (v := .ref (a 14)) (C := RX11) (T := TX11) (N := 49) hx hb hts hin hown hK hP 0 rfl rfl 14 (by decide) (hts (.fieldLink RX11 37 "SocietyBookModel" "spanTo" "[I") (by decide +kernel)) (fun _ h9 => h9) rfl dX11_paper_165 ?_
                refine lv_iload hx hb dX11_paper_168 (lv_at hl 0 rfl) ?_
                refine lv_iload_n hx hb dX11_paper_170 rfl (lv_at hl 2 rfl) ?_
                refine lv_iconst (v := 2) hx hb dX11_paper_171 (by decide) ?_
                refine lv_icmp_ne (tgt := 188) hx hb dX11_paper_172 (by decide) (fun c => absurd c4 c) (fun _ => ?_)
                refine lv_iload hx hb dX11_paper_175 (lv_at hl 5 rfl) ?_
                refine lv_aload_n hx hb dX11_paper_177 rfl (lv_at hl 1 rfl) ?_
                refine va_get (D := (dC, dI)) (ci := 10) (v := .ref (a 6)) (C := RX11) (T := TX11) (N := 49) hx hb hts hin hown hK hP 0 rfl rfl 6 (by decide) (hts (.fieldLink RX11 16 "SocietyBookModel" "postMost" "[I") (by decide +kernel)) (fun _ h9 => h9) rfl dX11_paper_178 ?_
                refine lv_iload hx hb dX11_paper_181 (lv_at hl 6 rfl) ?_
                refine va_iald (f := M 6) hx hb hK hP 3 0 rfl rfl (ib_in c7 (by decide)) dX11_paper_183 ?_
                refine lv_iadd hx hb dX11_paper_184 ?_
                refine lv_goto (tgt := 189) hx hb dX11_paper_185 (by decide) ?_
                refine va_iast (f := M 14) hx hb hK hP hD hS 10 0 rfl rfl (ib_ct (iv_7 hI) c8 (by decide)) dX11_paper_189 (fun H locs hP hD hS => ?_)
                replace hP : va_P (dC, dI) vwCl (wM h a cI cB cZ F (va_up (va_up (va_up (va_up (va_up (va_up (va_up (va_up M 8 (upd (M 8) ((F 7).toNatClampNeg) p0)) 9 (upd (M 9) ((F 7).toNatClampNeg) p1)) 10 (upd (M 10) ((F 7).toNatClampNeg) p2)) 11 (upd (M 11) ((F 7).toNatClampNeg) (F 3))) 15 (upd (M 15) ((F 7).toNatClampNeg) (-9))) 12 (upd (M 12) ((F 7).toNatClampNeg) p3)) 13 (upd (M 13) ((F 7).toNatClampNeg) (p3 + ((M 5) p4.toNatClampNeg)))) 14 (upd (M 14) ((F 7).toNatClampNeg) (p3 + ((M 6) p4.toNatClampNeg))))) H := hP
                replace hD : va_D A (wM h a cI cB cZ F (va_up (va_up (va_up (va_up (va_up (va_up (va_up (va_up M 8 (upd (M 8) ((F 7).toNatClampNeg) p0)) 9 (upd (M 9) ((F 7).toNatClampNeg) p1)) 10 (upd (M 10) ((F 7).toNatClampNeg) p2)) 11 (upd (M 11) ((F 7).toNatClampNeg) (F 3))) 15 (upd (M 15) ((F 7).toNatClampNeg) (-9))) 12 (upd (M 12) ((F 7).toNatClampNeg) p3)) 13 (upd (M 13) ((F 7).toNatClampNeg) (p3 + ((M 5) p4.toNatClampNeg)))) 14 (upd (M 14) ((F 7).toNatClampNeg) (p3 + ((M 6) p4.toNatClampNeg))))) := hD
                refine lv_aload_n hx hb dX11_paper_190 rfl (lv_at hl 1 rfl) ?_
                refine lv_dup hx hb dX11_paper_191 rfl ?_
                refine va_get (D := (dC, dI)) (ci := 10) (v := .int (F 7)) (C := RX11) (T := TX11) (N := 49) hx hb hts hin hown hK hP 0 rfl rfl 7 (by decide) (hts (.fieldLink RX11 146 "SocietyBookModel" "papers" "I") (by decide +kernel)) (fun _ h9 => h9) rfl dX11_paper_192 ?_
                refine lv_iconst (v := 1) hx hb dX11_paper_195 (by decide) ?_
                refine lv_iadd hx hb dX11_paper_196 ?_
                refine va_put (D := (dC, dI)) (ci := 10) (v := .int ((F 7) + 1)) (ty := .int) (C := RX11) (T := TX11) (N := 49) hx hb hts hin tyX11 tyX11_ok nmX11 hown hK hP hD hS 0 rfl rfl 7 (by decide) (hts (.fieldLink RX11 146 "SocietyBookModel" "papers" "I") (by decide +kernel)) (fun _ h9 => h9) rfl (by decide +kernel) rfl rfl (Nat.le_of_ble_eq_true rfl) dX11_paper_197 (fun H locs hP hD hS => ?_)
                replace hP : va_P (dC, dI) vwCl (wM h a cI cB cZ (va_up F 7 ((F 7) + 1)) (va_up (va_up (va_up (va_up (va_up (va_up (va_up (va_up M 8 (upd (M 8) ((F 7).toNatClampNeg) p0)) 9 (upd (M 9) ((F 7).toNatClampNeg) p1)) 10 (upd (M 10) ((F 7).toNatClampNeg) p2)) 11 (upd (M 11) ((F 7).toNatClampNeg) (F 3))) 15 (upd (M 15) ((F 7).toNatClampNeg) (-9))) 12 (upd (M 12) ((F 7).toNatClampNeg) p3)) 13 (upd (M 13) ((F 7).toNatClampNeg) (p3 + ((M 5) p4.toNatClampNeg)))) 14 (upd (M 14) ((F 7).toNatClampNeg) (p3 + ((M 6) p4.toNatClampNeg))))) H := hP
                replace hD : va_D A (wM h a cI cB cZ (va_up F 7 ((F 7) + 1)) (va_up (va_up (va_up (va_up (va_up (va_up (va_up (va_up M 8 (upd (M 8) ((F 7).toNatClampNeg) p0)) 9 (upd (M 9) ((F 7).toNatClampNeg) p1)) 10 (upd (M 10) ((F 7).toNatClampNeg) p2)) 11 (upd (M 11) ((F 7).toNatClampNeg) (F 3))) 15 (upd (M 15) ((F 7).toNatClampNeg) (-9))) 12 (upd (M 12) ((F 7).toNatClampNeg) p3)) 13 (upd (M 13) ((F 7).toNatClampNeg) (p3 + ((M 5) p4.toNatClampNeg)))) 14 (upd (M 14) ((F 7).toNatClampNeg) (p3 + ((M 6) p4.toNatClampNeg))))) := hD
                refine lv_iload hx hb dX11_paper_200 (lv_at hl 0 rfl) ?_
                exact W.iret (v := F 7) hx hb hr (fun t ht hW => ⟨⟨F 7, (va_up F 7 ((F 7) + 1), va_up (va_up (va_up (va_up (va_up (va_up (va_up (va_up M 8 (upd (M 8) ((F 7).toNatClampNeg) p0)) 9 (upd (M 9) ((F 7).toNatClampNeg) p1)) 10 (upd (M 10) ((F 7).toNatClampNeg) p2)) 11 (upd (M 11) ((F 7).toNatClampNeg) (F 3))) 15 (upd (M 15) ((F 7).toNatClampNeg) (-9))) 12 (upd (M 12) ((F 7).toNatClampNeg) p3)) 13 (upd (M 13) ((F 7).toNatClampNeg) (p3 + ((M 5) p4.toNatClampNeg)))) 14 (upd (M 14) ((F 7).toNatClampNeg) (p3 + ((M 6) p4.toNatClampNeg)))), rfl, by unfold s_X11_paper; rw [if_pos c1, if_pos c2, if_pos c3, if_pos c4, if_pos c6, if_pos c7, if_neg c8], ⟨by rw [ht]; exact hP, va_K.moved hW.alike hK⟩, hD⟩, hS.F ht⟩) hS.2.2 dX11_paper_202
              · refine lv_bipush (v := (-2)) hx hb dX11_paper_66 (by decide) ?_
                exact W.iret (v := (-2)) hx hb hr (fun t ht hW => ⟨⟨(-2), (F, M), rfl, by unfold s_X11_paper; rw [if_pos c1, if_pos c2, if_pos c3, if_pos c4, if_pos c6, if_pos c7, if_pos c8], ⟨by rw [ht]; exact hP, va_K.moved hW.alike hK⟩, hD⟩, hS.F ht⟩) hS.2.2 dX11_paper_68
            · replace c7 := bo_f c7
              refine lv_iconst (v := (-1)) hx hb dX11_paper_55 (by decide) ?_
              exact W.iret (v := (-1)) hx hb hr (fun t ht hW => ⟨⟨(-1), (F, M), rfl, by unfold s_X11_paper; rw [if_pos c1, if_pos c2, if_pos c3, if_pos c4, if_pos c6, if_neg c7], ⟨by rw [ht]; exact hP, va_K.moved hW.alike hK⟩, hD⟩, hS.F ht⟩) hS.2.2 dX11_paper_56
