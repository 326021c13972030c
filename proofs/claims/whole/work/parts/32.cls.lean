
def qC (A : Nat → Prop) (dC : Nat → ClassId) (dI : Nat → Nat → Nat) (rl : List (Nat × Nat)) (ad : Nat × Nat → Nat) (cy : Nat → ClassId) (F : Nat → Int32) (M Y : Nat → Nat → Int32) (t : State) : Prop := pC dC dI rl ad cy (eC ad cy F M Y) t ∧ va_D A (rx_W rl ad (eC ad cy F M Y))
theorem ix_cn {x y : Int32} (h : 0 ≤ x ∧ x ≤ y - 1) (hy : 0 ≤ y) : x.toNatClampNeg < y.toNatClampNeg := by
  have h1 := lb_c h.1
  have h2 := lb_c hy
  have h3 := ib_le.mp h.2
  have h4 := ib_le.mp hy
  have h5 := ib_rng y
  rw [ib_0] at h4
  rw [ib_sub (by rw [ib_1]; omega) (by rw [ib_1]; omega), ib_1] at h3
  omega
theorem fu_t {x K : Int32} (h : 0 ≤ x ∧ x ≤ K) (c : K ≤ x) : x = K := by
  have h2 := ib_le.mp h.2
  have h3 := ib_le.mp c
  exact ib_eq.mpr (by omega)
theorem fu_f {x K : Int32} (c : ¬ K ≤ x) : ¬ x = K := fun q => c (by rw [q]; exact Int32.le_refl K)

set_option maxHeartbeats 4000000 in
set_option maxRecDepth 100000 in
theorem c_X10_isWithin (l : Launch) (p0 : Int32) (p1 : Int32) (p2 : Int32) : Met l yX10_isWithin wsX10_isWithin ({ frames := 0, cells := 0, slots := 0, locals := 0 } : Room) (va_Pc [.int p0, .int p1, .int p2] (fun _ => True)) (vp_Si (fun r => r = if p1 ≤ p0 ∧ p0 ≤ p2 then 1 else 0)) 0 0 (fun _ => False) := by
  refine Met.ofW (cc := cX10_isWithin) (maxL := 3) (ret := (some .boolean)) (by decide) rfl ?_
  intro p e s m args below meth c s₁ B hml hv
  obtain ⟨rfl, -⟩ := hv
  have hx := B.exec
  have hb := B.bytes
  have hr := B.returns
  have hts := atoms_spec (ws := wsX10_isWithin) B.pre
  have hown : s.vm.findClass RX10 = some m.cls := findClass_of_methodNamed B.named
  have hlocks := B.notSynchronized
  have hl := lv_entry ([.int p0, .int p1, .int p2]) (n := 3) (Nat.le_of_ble_eq_true rfl)
  rw [lg_entry_eq]
  generalize (lg_sl ([.int p0, .int p1, .int p2]) ++ List.replicate (3 - (lg_sl ([.int p0, .int p1, .int p2])).length) Slot.unset).toArray = ls at hl ⊢
  have hl : lv_has ls 3 [(0, .int p0), (1, .int p1), (2, .int p2)] := hl
  refine lv_iload_n hx hb dX10_isWithin_0 rfl (lv_at hl 0 rfl) ?_
  refine lv_iload_n hx hb dX10_isWithin_1 rfl (lv_at hl 1 rfl) ?_
  refine lv_icmp_lt (tgt := 14) hx hb dX10_isWithin_2 (by decide) (fun c1 => ?_) (fun c1 => ?_)
  · refine lv_iconst (v := 0) hx hb dX10_isWithin_14 (by decide) ?_
    exact W.zret (v := 0) hx hb hr (rfl) (fun t ht hW => ⟨0, rfl, by exact (if_neg (fun q => absurd c1 (Int32.not_lt.mpr q.1))).symm, ht⟩) (fun _ h => by cases h) dX10_isWithin_15
  · refine lv_iload_n hx hb dX10_isWithin_5 rfl (lv_at hl 0 rfl) ?_
    refine lv_iload_n hx hb dX10_isWithin_6 rfl (lv_at hl 2 rfl) ?_
    refine lv_icmp_gt (tgt := 14) hx hb dX10_isWithin_7 (by decide) (fun c2 => ?_) (fun c2 => ?_)
    · refine lv_iconst (v := 0) hx hb dX10_isWithin_14 (by decide) ?_
      exact W.zret (v := 0) hx hb hr (rfl) (fun t ht hW => ⟨0, rfl, by exact (if_neg (fun q => absurd c2 (Int32.not_lt.mpr q.2))).symm, ht⟩) (fun _ h => by cases h) dX10_isWithin_15
    · refine lv_iconst (v := 1) hx hb dX10_isWithin_10 (by decide) ?_
      refine lv_goto (tgt := 15) hx hb dX10_isWithin_11 (by decide) ?_
      exact W.zret (v := 1) hx hb hr (rfl) (fun t ht hW => ⟨1, rfl, by exact (if_pos ⟨Int32.not_lt.mp c1, Int32.not_lt.mp c2⟩).symm, ht⟩) (fun _ h => by cases h) dX10_isWithin_15

set_option maxHeartbeats 4000000 in
set_option maxRecDepth 100000 in
theorem c_X10_isDay (l : Launch) (p0 : Int32) : Met l yX10_isDay wsX10_isDay ({ frames := 1, cells := 0, slots := 0, locals := 22 } : Room) (va_Pc [.int p0] (fun _ => True)) (vp_Si (fun r => r = if 0 ≤ p0 ∧ p0 ≤ 30000 then 1 else 0)) 0 0 (fun _ => False) := by
  refine Met.ofW (cc := cX10_isDay) (maxL := 1) (ret := (some .boolean)) (by decide) rfl ?_
  intro p e s m args below meth c s₁ B hml hv
  obtain ⟨rfl, -⟩ := hv
  have hx := B.exec
  have hb := B.bytes
  have hr := B.returns
  have hts := atoms_spec (ws := wsX10_isDay) B.pre
  have hown : s.vm.findClass RX10 = some m.cls := findClass_of_methodNamed B.named
  have hlocks := B.notSynchronized
  have hl := lv_entry ([.int p0]) (n := 1) (Nat.le_of_ble_eq_true rfl)
  rw [lg_entry_eq]
  generalize (lg_sl ([.int p0]) ++ List.replicate (1 - (lg_sl ([.int p0])).length) Slot.unset).toArray = ls at hl ⊢
  have hl : lv_has ls 1 [(0, .int p0)] := hl
  refine lv_iload_n hx hb dX10_isDay_0 rfl (lv_at hl 0 rfl) ?_
  refine lv_iconst (v := 0) hx hb dX10_isDay_1 (by decide) ?_
  refine lv_sipush (v := 30000) hx hb dX10_isDay_2 (by decide) ?_
  refine vp_callSi (W.runS (As := [.int p0, .int 0, .int 30000]) (rest := []) ⟨hx, hb, hml, hown, hts⟩ (c_X10_isWithin l p0 0 30000) (va_cwS 3 hts gX10_isDay_X10_isWithin rfl rfl rfl (by decide +kernel) ⟨Nat.le_of_ble_eq_true rfl, Nat.le_of_ble_eq_true rfl⟩) ⟨fun _ _ _ _ q => q, fun U hU hW => ⟨rfl, trivial⟩⟩ rfl rfl hl.1 rfl (lv_room (Nat.le_of_ble_eq_true rfl)) dX10_isDay_5 ⟨Nat.zero_le _, Nat.zero_le _⟩) (fun r hr9 => ?_)
  subst hr9
  exact W.zret (v := if 0 ≤ p0 ∧ p0 ≤ 30000 then (1 : Int32) else 0) hx hb hr (bo_n _) (fun t ht hW => ⟨if 0 ≤ p0 ∧ p0 ≤ 30000 then (1 : Int32) else 0, rfl, by rfl, ht⟩) (fun _ h => by cases h) dX10_isDay_8

set_option maxHeartbeats 4000000 in
set_option maxRecDepth 100000 in
theorem c_X10_isPlace (l : Launch) (p0 : Int32) (p1 : Int32) : Met l yX10_isPlace wsX10_isPlace ({ frames := 1, cells := 0, slots := 0, locals := 22 } : Room) (va_Pc [.int p0, .int p1] (fun _ => True)) (vp_Si (fun r => r = if (0 ≤ p0 ∧ p0 ≤ 5) ∧ (0 ≤ p1 ∧ p1 ≤ 11) then 1 else 0)) 0 0 (fun _ => False) := by
  refine Met.ofW (cc := cX10_isPlace) (maxL := 2) (ret := (some .boolean)) (by decide) rfl ?_
  intro p e s m args below meth c s₁ B hml hv
  obtain ⟨rfl, -⟩ := hv
  have hx := B.exec
  have hb := B.bytes
  have hr := B.returns
  have hts := atoms_spec (ws := wsX10_isPlace) B.pre
  have hown : s.vm.findClass RX10 = some m.cls := findClass_of_methodNamed B.named
  have hlocks := B.notSynchronized
  have hl := lv_entry ([.int p0, .int p1]) (n := 2) (Nat.le_of_ble_eq_true rfl)
  rw [lg_entry_eq]
  generalize (lg_sl ([.int p0, .int p1]) ++ List.replicate (2 - (lg_sl ([.int p0, .int p1])).length) Slot.unset).toArray = ls at hl ⊢
  have hl : lv_has ls 2 [(0, .int p0), (1, .int p1)] := hl
  refine lv_iload_n hx hb dX10_isPlace_0 rfl (lv_at hl 0 rfl) ?_
  refine lv_iconst (v := 0) hx hb dX10_isPlace_1 (by decide) ?_
  refine lv_iconst (v := 5) hx hb dX10_isPlace_2 (by decide) ?_
  refine vp_callSi (W.runS (As := [.int p0, .int 0, .int 5]) (rest := []) ⟨hx, hb, hml, hown, hts⟩ (c_X10_isWithin l p0 0 5) (va_cwS 3 hts gX10_isPlace_X10_isWithin rfl rfl rfl (by decide +kernel) ⟨Nat.le_of_ble_eq_true rfl, Nat.le_of_ble_eq_true rfl⟩) ⟨fun _ _ _ _ q => q, fun U hU hW => ⟨rfl, trivial⟩⟩ rfl rfl hl.1 rfl (lv_room (Nat.le_of_ble_eq_true rfl)) dX10_isPlace_3 ⟨Nat.zero_le _, Nat.zero_le _⟩) (fun r hr9 => ?_)
  subst hr9
  refine lv_if_eq (tgt := 23) hx hb dX10_isPlace_6 (by decide) (fun c1 => ?_) (fun c1 => ?_)
  · replace c1 := bo_f c1
    refine lv_iconst (v := 0) hx hb dX10_isPlace_23 (by decide) ?_
    exact W.zret (v := 0) hx hb hr (rfl) (fun t ht hW => ⟨0, rfl, by exact (if_neg (fun q => c1 q.1)).symm, ht⟩) (fun _ h => by cases h) dX10_isPlace_24
  · replace c1 := bo_t c1
    refine lv_iload_n hx hb dX10_isPlace_9 rfl (lv_at hl 1 rfl) ?_
    refine lv_iconst (v := 0) hx hb dX10_isPlace_10 (by decide) ?_
    refine lv_bipush (v := 11) hx hb dX10_isPlace_11 (by decide) ?_
    refine vp_callSi (W.runS (As := [.int p1, .int 0, .int 11]) (rest := []) ⟨hx, hb, hml, hown, hts⟩ (c_X10_isWithin l p1 0 11) (va_cwS 3 hts gX10_isPlace_X10_isWithin rfl rfl rfl (by decide +kernel) ⟨Nat.le_of_ble_eq_true rfl, Nat.le_of_ble_eq_true rfl⟩) ⟨fun _ _ _ _ q => q, fun U hU hW => ⟨rfl, trivial⟩⟩ rfl rfl hl.1 rfl (lv_room (Nat.le_of_ble_eq_true rfl)) dX10_isPlace_13 ⟨Nat.zero_le _, Nat.zero_le _⟩) (fun r hr9 => ?_)
    subst hr9
    refine lv_if_eq (tgt := 23) hx hb dX10_isPlace_16 (by decide) (fun c2 => ?_) (fun c2 => ?_)
    · replace c2 := bo_f c2
      refine lv_iconst (v := 0) hx hb dX10_isPlace_23 (by decide) ?_
      exact W.zret (v := 0) hx hb hr (rfl) (fun t ht hW => ⟨0, rfl, by exact (if_neg (fun q => c2 q.2)).symm, ht⟩) (fun _ h => by cases h) dX10_isPlace_24
    · replace c2 := bo_t c2
      refine lv_iconst (v := 1) hx hb dX10_isPlace_19 (by decide) ?_
      refine lv_goto (tgt := 24) hx hb dX10_isPlace_20 (by decide) ?_
      exact W.zret (v := 1) hx hb hr (rfl) (fun t ht hW => ⟨1, rfl, by exact (if_pos ⟨c1, c2⟩).symm, ht⟩) (fun _ h => by cases h) dX10_isPlace_24

set_option maxHeartbeats 4000000 in
set_option maxRecDepth 100000 in
theorem c_X10_isSheet (l : Launch) (p0 : Int32) : Met l yX10_isSheet wsX10_isSheet ({ frames := 1, cells := 0, slots := 0, locals := 22 } : Room) (va_Pc [.int p0] (fun _ => True)) (vp_Si (fun r => r = if 0 ≤ p0 ∧ p0 ≤ 3 then 1 else 0)) 0 0 (fun _ => False) := by
  refine Met.ofW (cc := cX10_isSheet) (maxL := 1) (ret := (some .boolean)) (by decide) rfl ?_
  intro p e s m args below meth c s₁ B hml hv
  obtain ⟨rfl, -⟩ := hv
  have hx := B.exec
  have hb := B.bytes
  have hr := B.returns
  have hts := atoms_spec (ws := wsX10_isSheet) B.pre
  have hown : s.vm.findClass RX10 = some m.cls := findClass_of_methodNamed B.named
  have hlocks := B.notSynchronized
  have hl := lv_entry ([.int p0]) (n := 1) (Nat.le_of_ble_eq_true rfl)
  rw [lg_entry_eq]
  generalize (lg_sl ([.int p0]) ++ List.replicate (1 - (lg_sl ([.int p0])).length) Slot.unset).toArray = ls at hl ⊢
  have hl : lv_has ls 1 [(0, .int p0)] := hl
  refine lv_iload_n hx hb dX10_isSheet_0 rfl (lv_at hl 0 rfl) ?_
  refine lv_iconst (v := 0) hx hb dX10_isSheet_1 (by decide) ?_
  refine lv_iconst (v := 3) hx hb dX10_isSheet_2 (by decide) ?_
  refine vp_callSi (W.runS (As := [.int p0, .int 0, .int 3]) (rest := []) ⟨hx, hb, hml, hown, hts⟩ (c_X10_isWithin l p0 0 3) (va_cwS 3 hts gX10_isSheet_X10_isWithin rfl rfl rfl (by decide +kernel) ⟨Nat.le_of_ble_eq_true rfl, Nat.le_of_ble_eq_true rfl⟩) ⟨fun _ _ _ _ q => q, fun U hU hW => ⟨rfl, trivial⟩⟩ rfl rfl hl.1 rfl (lv_room (Nat.le_of_ble_eq_true rfl)) dX10_isSheet_3 ⟨Nat.zero_le _, Nat.zero_le _⟩) (fun r hr9 => ?_)
  subst hr9
  exact W.zret (v := if 0 ≤ p0 ∧ p0 ≤ 3 then (1 : Int32) else 0) hx hb hr (bo_n _) (fun t ht hW => ⟨if 0 ≤ p0 ∧ p0 ≤ 3 then (1 : Int32) else 0, rfl, by rfl, ht⟩) (fun _ h => by cases h) dX10_isSheet_6

set_option maxHeartbeats 4000000 in
set_option maxRecDepth 100000 in
theorem c_X10_isFellow (l : Launch) (dC : Nat → ClassId) (dI : Nat → Nat → Nat) (rl : List (Nat × Nat)) (ad : Nat × Nat → Nat) (cy : Nat → ClassId) (F : Nat → Int32) (M Y : Nat → Nat → Int32) (p0 : Int32) (hrl : ∀ r, r ∈ rl ↔ vd F r) (hI : iv F M) (hJ : jv F M) : Met l yX10_isFellow wsX10_isFellow ({ frames := 1, cells := 0, slots := 0, locals := 22 } : Room) (va_Pc [.ref (ad (9, 0)), .int p0] (pC dC dI rl ad cy (eC ad cy F M Y))) (vp_Si (fun r => r = if 0 ≤ p0 ∧ p0 ≤ ((F 4) - 1) then 1 else 0)) 0 0 (fun _ => False) := by
  refine Met.ofW (cc := cX10_isFellow) (maxL := 2) (ret := (some .boolean)) (by decide) rfl ?_
  intro p e s m args below meth c s₁ B hml hv
  obtain ⟨rfl, hP, hK, hN⟩ := hv
  have hx := B.exec
  have hb := B.bytes
  have hr := B.returns
  have hts := atoms_spec (ws := wsX10_isFellow) B.pre
  have hown : s.vm.findClass RX10 = some m.cls := findClass_of_methodNamed B.named
  have hlocks := B.notSynchronized
  have hin10 : ∀ w ∈ wsX100, w ∈ wsX10_isFellow := by decide +kernel
  have hl := lv_entry ([.ref (ad (9, 0)), .int p0]) (n := 2) (Nat.le_of_ble_eq_true rfl)
  rw [lg_entry_eq]
  generalize (lg_sl ([.ref (ad (9, 0)), .int p0]) ++ List.replicate (2 - (lg_sl ([.ref (ad (9, 0)), .int p0])).length) Slot.unset).toArray = ls at hl ⊢
  have hl : lv_has ls 2 [(0, .ref (ad (9, 0))), (1, .int p0)] := hl
  refine lv_iload_n hx hb dX10_isFellow_0 rfl (lv_at hl 1 rfl) ?_
  refine lv_iconst (v := 0) hx hb dX10_isFellow_1 (by decide) ?_
  refine lv_aload_n hx hb dX10_isFellow_2 rfl (lv_at hl 0 rfl) ?_
  refine rg_get (D := (dC, dI)) (r := (9, 0)) (ci := 9) (v := .int (F 4)) (C := RX10) (T := TX10) (N := 19) hx hb hts hin10 hown hK hP ((hrl _).mpr (vd_9 (by decide))) en_9 rfl 1 (by decide) (hts (.fieldLink RX10 73 "SocietyBook" "fellows" "I") (by decide +kernel)) (fun _ h9 => h9) rfl dX10_isFellow_3 ?_
  refine lv_iconst (v := 1) hx hb dX10_isFellow_6 (by decide) ?_
  refine lv_isub hx hb dX10_isFellow_7 ?_
  refine vp_callSi (W.runS (As := [.int p0, .int 0, .int ((F 4) - 1)]) (rest := []) ⟨hx, hb, hml, hown, hts⟩ (c_X10_isWithin l p0 0 ((F 4) - 1)) (va_cwS 3 hts gX10_isFellow_X10_isWithin rfl rfl rfl (by decide +kernel) ⟨Nat.le_of_ble_eq_true rfl, Nat.le_of_ble_eq_true rfl⟩) ⟨fun _ _ _ _ q => q, fun U hU hW => ⟨rfl, trivial⟩⟩ rfl rfl hl.1 rfl (lv_room (Nat.le_of_ble_eq_true rfl)) dX10_isFellow_8 ⟨Nat.zero_le _, Nat.zero_le _⟩) (fun r hr9 => ?_)
  subst hr9
  exact W.zret (v := if 0 ≤ p0 ∧ p0 ≤ ((F 4) - 1) then (1 : Int32) else 0) hx hb hr (bo_n _) (fun t ht hW => ⟨if 0 ≤ p0 ∧ p0 ≤ ((F 4) - 1) then (1 : Int32) else 0, rfl, by rfl, ht⟩) (fun _ h => by cases h) dX10_isFellow_11

set_option maxHeartbeats 4000000 in
set_option maxRecDepth 100000 in
theorem c_X10_paperAt (l : Launch) (dC : Nat → ClassId) (dI : Nat → Nat → Nat) (rl : List (Nat × Nat)) (ad : Nat × Nat → Nat) (cy : Nat → ClassId) (F : Nat → Int32) (M Y : Nat → Nat → Int32) (p0 : Int32) (hrl : ∀ r, r ∈ rl ↔ vd F r) (hI : iv F M) (hJ : jv F M) : Met l yX10_paperAt wsX10_paperAt ({ frames := 1, cells := 0, slots := 0, locals := 22 } : Room) (va_Pc [.ref (ad (9, 0)), .int p0] (pC dC dI rl ad cy (eC ad cy F M Y))) (va_Sq (fun r => r = if 0 ≤ p0 ∧ p0 ≤ ((F 7) - 1) then some (ad (5, p0.toNatClampNeg)) else none)) 0 0 (fun _ => False) := by
  refine Met.ofW (cc := cX10_paperAt) (maxL := 2) (ret := (some (.object "SocietyBook$Paper"))) (by decide) rfl ?_
  intro p e s m args below meth c s₁ B hml hv
  obtain ⟨rfl, hP, hK, hN⟩ := hv
  have hx := B.exec
  have hb := B.bytes
  have hr := B.returns
  have hts := atoms_spec (ws := wsX10_paperAt) B.pre
  have hown : s.vm.findClass RX10 = some m.cls := findClass_of_methodNamed B.named
  have hlocks := B.notSynchronized
  have hin10 : ∀ w ∈ wsX100, w ∈ wsX10_paperAt := by decide +kernel
  have hl := lv_entry ([.ref (ad (9, 0)), .int p0]) (n := 2) (Nat.le_of_ble_eq_true rfl)
  rw [lg_entry_eq]
  generalize (lg_sl ([.ref (ad (9, 0)), .int p0]) ++ List.replicate (2 - (lg_sl ([.ref (ad (9, 0)), .int p0])).length) Slot.unset).toArray = ls at hl ⊢
  have hl : lv_has ls 2 [(0, .ref (ad (9, 0))), (1, .int p0)] := hl
  refine lv_iload_n hx hb dX10_paperAt_0 rfl (lv_at hl 1 rfl) ?_
  refine lv_iconst (v := 0) hx hb dX10_paperAt_1 (by decide) ?_
  refine lv_aload_n hx hb dX10_paperAt_2 rfl (lv_at hl 0 rfl) ?_
  refine rg_get (D := (dC, dI)) (r := (9, 0)) (ci := 9) (v := .int (F 7)) (C := RX10) (T := TX10) (N := 19) hx hb hts hin10 hown hK hP ((hrl _).mpr (vd_9 (by decide))) en_9 rfl 4 (by decide) (hts (.fieldLink RX10 91 "SocietyBook" "paperCount" "I") (by decide +kernel)) (fun _ h9 => h9) rfl dX10_paperAt_3 ?_
  refine lv_iconst (v := 1) hx hb dX10_paperAt_6 (by decide) ?_
  refine lv_isub hx hb dX10_paperAt_7 ?_
  refine vp_callSi (W.runS (As := [.int p0, .int 0, .int ((F 7) - 1)]) (rest := []) ⟨hx, hb, hml, hown, hts⟩ (c_X10_isWithin l p0 0 ((F 7) - 1)) (va_cwS 3 hts gX10_paperAt_X10_isWithin rfl rfl rfl (by decide +kernel) ⟨Nat.le_of_ble_eq_true rfl, Nat.le_of_ble_eq_true rfl⟩) ⟨fun _ _ _ _ q => q, fun U hU hW => ⟨rfl, trivial⟩⟩ rfl rfl hl.1 rfl (lv_room (Nat.le_of_ble_eq_true rfl)) dX10_paperAt_8 ⟨Nat.zero_le _, Nat.zero_le _⟩) (fun r hr9 => ?_)
  subst hr9
  refine lv_if_eq (tgt := 23) hx hb dX10_paperAt_11 (by decide) (fun c1 => ?_) (fun c1 => ?_)
  · replace c1 := bo_f c1
    refine lv_null hx hb dX10_paperAt_23 ?_
    exact W.aret (v := .null) hx hb hr (Or.inl ⟨_, rfl⟩) (Or.inl rfl) (fun t ht hW => ⟨none, rfl, by rw [if_neg c1], ht⟩) (fun _ h => by cases h) dX10_paperAt_24
  · replace c1 := bo_t c1
    refine lv_aload_n hx hb dX10_paperAt_14 rfl (lv_at hl 0 rfl) ?_
    refine rg_get (D := (dC, dI)) (r := (9, 0)) (ci := 9) (v := .ref (ad (11, 0))) (C := RX10) (T := TX10) (N := 19) hx hb hts hin10 hown hK hP ((hrl _).mpr (vd_9 (by decide))) en_9 rfl 3 (by decide) (hts (.fieldLink RX10 17 "SocietyBook" "papers" "[LSocietyBook$Paper;") (by decide +kernel)) (fun _ h9 => h9) rfl dX10_paperAt_15 ?_
    refine lv_iload_n hx hb dX10_paperAt_18 rfl (lv_at hl 1 rfl) ?_
    refine rg_aldq (r := (11, 0)) (v := .ref (ad (5, p0.toNatClampNeg))) hx hb hK hP ((hrl _).mpr (vd_11 (by decide))) 3 en_11 rfl (ib_cn c1 (iv_7 hI) (by decide)) (by rw [if_pos (ix_cn c1 (iv_7 hI).1)]; rfl) dX10_paperAt_19 ?_
    refine lv_goto (tgt := 24) hx hb dX10_paperAt_20 (by decide) ?_
    exact W.aret (v := .ref (ad (5, p0.toNatClampNeg))) hx hb hr (Or.inl ⟨_, rfl⟩) (Or.inr ⟨_, rfl⟩) (fun t ht hW => ⟨some (ad (5, p0.toNatClampNeg)), rfl, by rw [if_pos c1], ht⟩) (fun _ h => by cases h) dX10_paperAt_24

set_option maxHeartbeats 4000000 in
set_option maxRecDepth 100000 in
theorem c_X10_candidateAt (l : Launch) (dC : Nat → ClassId) (dI : Nat → Nat → Nat) (rl : List (Nat × Nat)) (ad : Nat × Nat → Nat) (cy : Nat → ClassId) (F : Nat → Int32) (M Y : Nat → Nat → Int32) (p0 : Int32) (hrl : ∀ r, r ∈ rl ↔ vd F r) (hI : iv F M) (hJ : jv F M) : Met l yX10_candidateAt wsX10_candidateAt ({ frames := 1, cells := 0, slots := 0, locals := 22 } : Room) (va_Pc [.ref (ad (9, 0)), .int p0] (pC dC dI rl ad cy (eC ad cy F M Y))) (va_Sq (fun r => r = if 0 ≤ p0 ∧ p0 ≤ ((F 32) - 1) then some (ad (1, p0.toNatClampNeg)) else none)) 0 0 (fun _ => False) := by
  refine Met.ofW (cc := cX10_candidateAt) (maxL := 2) (ret := (some (.object "SocietyBook$Candidate"))) (by decide) rfl ?_
  intro p e s m args below meth c s₁ B hml hv
  obtain ⟨rfl, hP, hK, hN⟩ := hv
  have hx := B.exec
  have hb := B.bytes
  have hr := B.returns
  have hts := atoms_spec (ws := wsX10_candidateAt) B.pre
  have hown : s.vm.findClass RX10 = some m.cls := findClass_of_methodNamed B.named
  have hlocks := B.notSynchronized
  have hin10 : ∀ w ∈ wsX100, w ∈ wsX10_candidateAt := by decide +kernel
  have hl := lv_entry ([.ref (ad (9, 0)), .int p0]) (n := 2) (Nat.le_of_ble_eq_true rfl)
  rw [lg_entry_eq]
  generalize (lg_sl ([.ref (ad (9, 0)), .int p0]) ++ List.replicate (2 - (lg_sl ([.ref (ad (9, 0)), .int p0])).length) Slot.unset).toArray = ls at hl ⊢
  have hl : lv_has ls 2 [(0, .ref (ad (9, 0))), (1, .int p0)] := hl
  refine lv_iload_n hx hb dX10_candidateAt_0 rfl (lv_at hl 1 rfl) ?_
  refine lv_iconst (v := 0) hx hb dX10_candidateAt_1 (by decide) ?_
  refine lv_aload_n hx hb dX10_candidateAt_2 rfl (lv_at hl 0 rfl) ?_
  refine rg_get (D := (dC, dI)) (r := (9, 0)) (ci := 9) (v := .int (F 32)) (C := RX10) (T := TX10) (N := 19) hx hb hts hin10 hown hK hP ((hrl _).mpr (vd_9 (by decide))) en_9 rfl 11 (by decide) (hts (.fieldLink RX10 185 "SocietyBook" "candidateCount" "I") (by decide +kernel)) (fun _ h9 => h9) rfl dX10_candidateAt_3 ?_
  refine lv_iconst (v := 1) hx hb dX10_candidateAt_6 (by decide) ?_
  refine lv_isub hx hb dX10_candidateAt_7 ?_
  refine vp_callSi (W.runS (As := [.int p0, .int 0, .int ((F 32) - 1)]) (rest := []) ⟨hx, hb, hml, hown, hts⟩ (c_X10_isWithin l p0 0 ((F 32) - 1)) (va_cwS 3 hts gX10_candidateAt_X10_isWithin rfl rfl rfl (by decide +kernel) ⟨Nat.le_of_ble_eq_true rfl, Nat.le_of_ble_eq_true rfl⟩) ⟨fun _ _ _ _ q => q, fun U hU hW => ⟨rfl, trivial⟩⟩ rfl rfl hl.1 rfl (lv_room (Nat.le_of_ble_eq_true rfl)) dX10_candidateAt_8 ⟨Nat.zero_le _, Nat.zero_le _⟩) (fun r hr9 => ?_)
  subst hr9
  refine lv_if_eq (tgt := 23) hx hb dX10_candidateAt_11 (by decide) (fun c1 => ?_) (fun c1 => ?_)
  · replace c1 := bo_f c1
    refine lv_null hx hb dX10_candidateAt_23 ?_
    exact W.aret (v := .null) hx hb hr (Or.inl ⟨_, rfl⟩) (Or.inl rfl) (fun t ht hW => ⟨none, rfl, by rw [if_neg c1], ht⟩) (fun _ h => by cases h) dX10_candidateAt_24
  · replace c1 := bo_t c1
    refine lv_aload_n hx hb dX10_candidateAt_14 rfl (lv_at hl 0 rfl) ?_
    refine rg_get (D := (dC, dI)) (r := (9, 0)) (ci := 9) (v := .ref (ad (14, 0))) (C := RX10) (T := TX10) (N := 19) hx hb hts hin10 hown hK hP ((hrl _).mpr (vd_9 (by decide))) en_9 rfl 10 (by decide) (hts (.fieldLink RX10 35 "SocietyBook" "candidates" "[LSocietyBook$Candidate;") (by decide +kernel)) (fun _ h9 => h9) rfl dX10_candidateAt_15 ?_
    refine lv_iload_n hx hb dX10_candidateAt_18 rfl (lv_at hl 1 rfl) ?_
    refine rg_aldq (r := (14, 0)) (v := .ref (ad (1, p0.toNatClampNeg))) hx hb hK hP ((hrl _).mpr (vd_14 (by decide))) 6 en_14 rfl (ib_cn c1 (iv_32 hI) (by decide)) (by rw [if_pos (ix_cn c1 (iv_32 hI).1)]; rfl) dX10_candidateAt_19 ?_
    refine lv_goto (tgt := 24) hx hb dX10_candidateAt_20 (by decide) ?_
    exact W.aret (v := .ref (ad (1, p0.toNatClampNeg))) hx hb hr (Or.inl ⟨_, rfl⟩) (Or.inr ⟨_, rfl⟩) (fun t ht hW => ⟨some (ad (1, p0.toNatClampNeg)), rfl, by rw [if_pos c1], ht⟩) (fun _ h => by cases h) dX10_candidateAt_24

set_option maxHeartbeats 4000000 in
set_option maxRecDepth 100000 in
theorem c_X10_found (l : Launch) (dC : Nat → ClassId) (dI : Nat → Nat → Nat) (rl : List (Nat × Nat)) (ad : Nat × Nat → Nat) (cy : Nat → ClassId) (F : Nat → Int32) (M Y : Nat → Nat → Int32) (p0 : Int32) (hrl : ∀ r, r ∈ rl ↔ vd F r) (hI : iv F M) (hJ : jv F M) (A : Nat → Prop) (hD : va_D A (rx_W rl ad (eC ad cy F M Y))) (hf : vp_in p0 6) : Met l yX10_found wsX10_found ({ frames := 0, cells := 0, slots := 0, locals := 0 } : Room) (va_Pc [.ref (ad (9, 0)), .int p0] (pC dC dI rl ad cy (eC ad cy F M Y))) (va_Qi (fun r (_ : Nat → Nat → Int32) => r = (s_X11_meets F M p0).1) (qC A dC dI rl ad cy (s_X11_meets F M p0).2.1 (s_X11_meets F M p0).2.2) A) 0 0 A := by
  refine Met.ofW (cc := cX10_found) (maxL := 2) (ret := (some .int)) (by decide) rfl ?_
  intro p e s m args below meth c s₁ B hml hv
  obtain ⟨rfl, hP, hK, hN⟩ := hv
  have hx := B.exec
  have hb := B.bytes
  have hr := B.returns
  have hts := atoms_spec (ws := wsX10_found) B.pre
  have hown : s.vm.findClass RX10 = some m.cls := findClass_of_methodNamed B.named
  have hlocks := B.notSynchronized
  have hin10 : ∀ w ∈ wsX100, w ∈ wsX10_found := by decide +kernel
  have hS : va_S A s.heap s.heap [] := va_S.rf
  have hl := lv_entry ([.ref (ad (9, 0)), .int p0]) (n := 2) (Nat.le_of_ble_eq_true rfl)
  rw [lg_entry_eq]
  generalize (lg_sl ([.ref (ad (9, 0)), .int p0]) ++ List.replicate (2 - (lg_sl ([.ref (ad (9, 0)), .int p0])).length) Slot.unset).toArray = ls at hl ⊢
  have hl : lv_has ls 2 [(0, .ref (ad (9, 0))), (1, .int p0)] := hl
  refine lv_aload_n hx hb dX10_found_0 rfl (lv_at hl 0 rfl) ?_
  refine lv_iload_n hx hb dX10_found_1 rfl (lv_at hl 1 rfl) ?_
  refine rg_put (D := (dC, dI)) (r := (9, 0)) (ci := 9) (v := .int p0) (ty := .int) (C := RX10) (T := TX10) (N := 19) hx hb hts hin10 tyX10 tyX10_ok nmX10 hown hK hP hD hS ((hrl _).mpr (vd_9 (by decide))) en_9 rfl 17 (by decide) (hts (.fieldLink RX10 271 "SocietyBook" "lastFinding" "I") (by decide +kernel)) (fun _ h9 => h9) rfl (by decide +kernel) rfl rfl (Nat.le_of_ble_eq_true rfl) dX10_found_2 (fun H locs hP hD hS => ?_)
  replace hP : va_P (dC, dI) vwCl (rx_W rl ad (eC ad cy (va_up F 0 p0) M Y)) H := ec_mp1 (vd_u9 hrl) (ec_9_17 ad cy F M Y p0) hP
  replace hD : va_D A (rx_W rl ad (eC ad cy (va_up F 0 p0) M Y)) := rx_D hD
  refine lv_aload_n hx hb dX10_found_5 rfl (lv_at hl 0 rfl) ?_
  refine rg_get (D := (dC, dI)) (r := (9, 0)) (ci := 9) (v := .ref (ad (18, 0))) (C := RX10) (T := TX10) (N := 19) hx hb hts hin10 hown hK hP ((hrl _).mpr (vd_9 (by decide))) en_9 rfl 18 (by decide) (hts (.fieldLink RX10 58 "SocietyBook" "findingCounts" "[I") (by decide +kernel)) (fun _ h9 => h9) rfl dX10_found_6 ?_
  refine lv_iload_n hx hb dX10_found_9 rfl (lv_at hl 1 rfl) ?_
  refine lv_dup2_11 hx hb dX10_found_10 rfl rfl ?_
  refine rg_iald (r := (18, 0)) (v := (M 1) p0.toNatClampNeg) hx hb hK hP ((hrl _).mpr (vd_18 (by decide))) 0 en_18 rfl hf rfl dX10_found_11 ?_
  refine lv_iconst (v := 1) hx hb dX10_found_12 (by decide) ?_
  refine lv_iadd hx hb dX10_found_13 ?_
  refine rg_iast (r := (18, 0)) hx hb hK hP hD hS ((hrl _).mpr (vd_18 (by decide))) 0 en_18 rfl hf dX10_found_14 (fun H locs hP hD hS => ?_)
  replace hP : va_P (dC, dI) vwCl (rx_W rl ad (eC ad cy (va_up F 0 p0) (va_up M 1 (upd (M 1) p0.toNatClampNeg (((M 1) p0.toNatClampNeg) + 1))) Y)) H := ec_mp1 (vd_u18 hrl) (ec_18 ad cy (va_up F 0 p0) M Y p0.toNatClampNeg (((M 1) p0.toNatClampNeg) + 1)) hP
  replace hD : va_D A (rx_W rl ad (eC ad cy (va_up F 0 p0) (va_up M 1 (upd (M 1) p0.toNatClampNeg (((M 1) p0.toNatClampNeg) + 1))) Y)) := rx_D hD
  refine lv_bipush (v := (-3)) hx hb dX10_found_15 (by decide) ?_
  have E9 : s_X11_meets F M p0 = ((-3), (va_up F 0 p0, va_up M 1 (upd (M 1) p0.toNatClampNeg (((M 1) p0.toNatClampNeg) + 1)))) := by unfold s_X11_meets; rfl
  exact W.iret (v := (-3)) hx hb hr (fun t ht hW => ⟨⟨(-3), Y, rfl, by rw [E9], by rw [E9]; exact ⟨⟨by rw [ht]; exact hP, va_K.moved hW.alike hK, nst_w hW hN⟩, hD⟩⟩, hS.F ht⟩) hS.2.2 dX10_found_17

set_option maxHeartbeats 4000000 in
set_option maxRecDepth 100000 in
theorem c_X10_asked (l : Launch) (dC : Nat → ClassId) (dI : Nat → Nat → Nat) (rl : List (Nat × Nat)) (ad : Nat × Nat → Nat) (cy : Nat → ClassId) (F : Nat → Int32) (M Y : Nat → Nat → Int32)  (hrl : ∀ r, r ∈ rl ↔ vd F r) (hI : iv F M) (hJ : jv F M) : Met l yX10_asked wsX10_asked ({ frames := 0, cells := 0, slots := 0, locals := 0 } : Room) (va_Pc [.ref (ad (9, 0))] (pC dC dI rl ad cy (eC ad cy F M Y))) (vp_Si (fun r => r = (s_X11_asked F M))) 0 0 (fun _ => False) := by
  refine Met.ofW (cc := cX10_asked) (maxL := 1) (ret := (some .int)) (by decide) rfl ?_
  intro p e s m args below meth c s₁ B hml hv
  obtain ⟨rfl, hP, hK, hN⟩ := hv
  have hx := B.exec
  have hb := B.bytes
  have hr := B.returns
  have hts := atoms_spec (ws := wsX10_asked) B.pre
  have hown : s.vm.findClass RX10 = some m.cls := findClass_of_methodNamed B.named
  have hlocks := B.notSynchronized
  have hin10 : ∀ w ∈ wsX100, w ∈ wsX10_asked := by decide +kernel
  have hl := lv_entry ([.ref (ad (9, 0))]) (n := 1) (Nat.le_of_ble_eq_true rfl)
  rw [lg_entry_eq]
  generalize (lg_sl ([.ref (ad (9, 0))]) ++ List.replicate (1 - (lg_sl ([.ref (ad (9, 0))])).length) Slot.unset).toArray = ls at hl ⊢
  have hl : lv_has ls 1 [(0, .ref (ad (9, 0)))] := hl
  refine lv_aload_n hx hb dX10_asked_0 rfl (lv_at hl 0 rfl) ?_
  refine rg_get (D := (dC, dI)) (r := (9, 0)) (ci := 9) (v := .int (F 2)) (C := RX10) (T := TX10) (N := 19) hx hb hts hin10 hown hK hP ((hrl _).mpr (vd_9 (by decide))) en_9 rfl 16 (by decide) (hts (.fieldLink RX10 176 "SocietyBook" "lastAsked" "I") (by decide +kernel)) (fun _ h9 => h9) rfl dX10_asked_1 ?_
  exact W.iret (v := F 2) hx hb hr (fun t ht hW => ⟨F 2, rfl, by unfold s_X11_asked; rfl, ht⟩) (fun _ h => by cases h) dX10_asked_4

set_option maxHeartbeats 4000000 in
set_option maxRecDepth 100000 in
theorem c_X10_finding (l : Launch) (dC : Nat → ClassId) (dI : Nat → Nat → Nat) (rl : List (Nat × Nat)) (ad : Nat × Nat → Nat) (cy : Nat → ClassId) (F : Nat → Int32) (M Y : Nat → Nat → Int32)  (hrl : ∀ r, r ∈ rl ↔ vd F r) (hI : iv F M) (hJ : jv F M) : Met l yX10_finding wsX10_finding ({ frames := 0, cells := 0, slots := 0, locals := 0 } : Room) (va_Pc [.ref (ad (9, 0))] (pC dC dI rl ad cy (eC ad cy F M Y))) (vp_Si (fun r => r = (s_X11_finding F M))) 0 0 (fun _ => False) := by
  refine Met.ofW (cc := cX10_finding) (maxL := 1) (ret := (some .int)) (by decide) rfl ?_
  intro p e s m args below meth c s₁ B hml hv
  obtain ⟨rfl, hP, hK, hN⟩ := hv
  have hx := B.exec
  have hb := B.bytes
  have hr := B.returns
  have hts := atoms_spec (ws := wsX10_finding) B.pre
  have hown : s.vm.findClass RX10 = some m.cls := findClass_of_methodNamed B.named
  have hlocks := B.notSynchronized
  have hin10 : ∀ w ∈ wsX100, w ∈ wsX10_finding := by decide +kernel
  have hl := lv_entry ([.ref (ad (9, 0))]) (n := 1) (Nat.le_of_ble_eq_true rfl)
  rw [lg_entry_eq]
  generalize (lg_sl ([.ref (ad (9, 0))]) ++ List.replicate (1 - (lg_sl ([.ref (ad (9, 0))])).length) Slot.unset).toArray = ls at hl ⊢
  have hl : lv_has ls 1 [(0, .ref (ad (9, 0)))] := hl
  refine lv_aload_n hx hb dX10_finding_0 rfl (lv_at hl 0 rfl) ?_
  refine rg_get (D := (dC, dI)) (r := (9, 0)) (ci := 9) (v := .int (F 0)) (C := RX10) (T := TX10) (N := 19) hx hb hts hin10 hown hK hP ((hrl _).mpr (vd_9 (by decide))) en_9 rfl 17 (by decide) (hts (.fieldLink RX10 271 "SocietyBook" "lastFinding" "I") (by decide +kernel)) (fun _ h9 => h9) rfl dX10_finding_1 ?_
  exact W.iret (v := F 0) hx hb hr (fun t ht hW => ⟨F 0, rfl, by unfold s_X11_finding; rfl, ht⟩) (fun _ h => by cases h) dX10_finding_4

set_option maxHeartbeats 4000000 in
set_option maxRecDepth 100000 in
theorem c_X10_findings (l : Launch) (dC : Nat → ClassId) (dI : Nat → Nat → Nat) (rl : List (Nat × Nat)) (ad : Nat × Nat → Nat) (cy : Nat → ClassId) (F : Nat → Int32) (M Y : Nat → Nat → Int32) (p0 : Int32) (hrl : ∀ r, r ∈ rl ↔ vd F r) (hI : iv F M) (hJ : jv F M) : Met l yX10_findings wsX10_findings ({ frames := 1, cells := 0, slots := 0, locals := 22 } : Room) (va_Pc [.ref (ad (9, 0)), .int p0] (pC dC dI rl ad cy (eC ad cy F M Y))) (vp_Si (fun r => r = (s_X11_findings F M p0))) 0 0 (fun _ => False) := by
  refine Met.ofW (cc := cX10_findings) (maxL := 2) (ret := (some .int)) (by decide) rfl ?_
  intro p e s m args below meth c s₁ B hml hv
  obtain ⟨rfl, hP, hK, hN⟩ := hv
  have hx := B.exec
  have hb := B.bytes
  have hr := B.returns
  have hts := atoms_spec (ws := wsX10_findings) B.pre
  have hown : s.vm.findClass RX10 = some m.cls := findClass_of_methodNamed B.named
  have hlocks := B.notSynchronized
  have hin10 : ∀ w ∈ wsX100, w ∈ wsX10_findings := by decide +kernel
  have hl := lv_entry ([.ref (ad (9, 0)), .int p0]) (n := 2) (Nat.le_of_ble_eq_true rfl)
  rw [lg_entry_eq]
  generalize (lg_sl ([.ref (ad (9, 0)), .int p0]) ++ List.replicate (2 - (lg_sl ([.ref (ad (9, 0)), .int p0])).length) Slot.unset).toArray = ls at hl ⊢
  have hl : lv_has ls 2 [(0, .ref (ad (9, 0))), (1, .int p0)] := hl
  refine lv_iload_n hx hb dX10_findings_0 rfl (lv_at hl 1 rfl) ?_
  refine lv_iconst (v := 1) hx hb dX10_findings_1 (by decide) ?_
  refine lv_iconst (v := 5) hx hb dX10_findings_2 (by decide) ?_
  refine vp_callSi (W.runS (As := [.int p0, .int 1, .int 5]) (rest := []) ⟨hx, hb, hml, hown, hts⟩ (c_X10_isWithin l p0 1 5) (va_cwS 3 hts gX10_findings_X10_isWithin rfl rfl rfl (by decide +kernel) ⟨Nat.le_of_ble_eq_true rfl, Nat.le_of_ble_eq_true rfl⟩) ⟨fun _ _ _ _ q => q, fun U hU hW => ⟨rfl, trivial⟩⟩ rfl rfl hl.1 rfl (lv_room (Nat.le_of_ble_eq_true rfl)) dX10_findings_3 ⟨Nat.zero_le _, Nat.zero_le _⟩) (fun r hr9 => ?_)
  subst hr9
  refine lv_if_ne (tgt := 11) hx hb dX10_findings_6 (by decide) (fun c1 => ?_) (fun c1 => ?_)
  · replace c1 := bo_t c1
    refine lv_aload_n hx hb dX10_findings_11 rfl (lv_at hl 0 rfl) ?_
    refine rg_get (D := (dC, dI)) (r := (9, 0)) (ci := 9) (v := .ref (ad (18, 0))) (C := RX10) (T := TX10) (N := 19) hx hb hts hin10 hown hK hP ((hrl _).mpr (vd_9 (by decide))) en_9 rfl 18 (by decide) (hts (.fieldLink RX10 58 "SocietyBook" "findingCounts" "[I") (by decide +kernel)) (fun _ h9 => h9) rfl dX10_findings_12 ?_
    refine lv_iload_n hx hb dX10_findings_15 rfl (lv_at hl 1 rfl) ?_
    refine rg_iald (r := (18, 0)) (v := (M 1) p0.toNatClampNeg) hx hb hK hP ((hrl _).mpr (vd_18 (by decide))) 0 en_18 rfl (ib_in c1 (by decide)) rfl dX10_findings_16 ?_
    exact W.iret (v := (M 1) p0.toNatClampNeg) hx hb hr (fun t ht hW => ⟨(M 1) p0.toNatClampNeg, rfl, by unfold s_X11_findings; rw [if_pos c1], ht⟩) (fun _ h => by cases h) dX10_findings_17
  · replace c1 := bo_f c1
    refine lv_iconst (v := (-1)) hx hb dX10_findings_9 (by decide) ?_
    exact W.iret (v := (-1)) hx hb hr (fun t ht hW => ⟨(-1), rfl, by unfold s_X11_findings; rw [if_neg c1], ht⟩) (fun _ h => by cases h) dX10_findings_10

set_option maxHeartbeats 4000000 in
set_option maxRecDepth 100000 in
theorem c_X10_count (l : Launch) (dC : Nat → ClassId) (dI : Nat → Nat → Nat) (rl : List (Nat × Nat)) (ad : Nat × Nat → Nat) (cy : Nat → ClassId) (F : Nat → Int32) (M Y : Nat → Nat → Int32) (p0 : Int32) (hrl : ∀ r, r ∈ rl ↔ vd F r) (hI : iv F M) (hJ : jv F M) : Met l yX10_count wsX10_count ({ frames := 0, cells := 0, slots := 0, locals := 0 } : Room) (va_Pc [.ref (ad (9, 0)), .int p0] (pC dC dI rl ad cy (eC ad cy F M Y))) (vp_Si (fun r => r = (s_X11_count F M p0))) 0 0 (fun _ => False) := by
  refine Met.ofW (cc := cX10_count) (maxL := 2) (ret := (some .int)) (by decide) rfl ?_
  intro p e s m args below meth c s₁ B hml hv
  obtain ⟨rfl, hP, hK, hN⟩ := hv
  have hx := B.exec
  have hb := B.bytes
  have hr := B.returns
  have hts := atoms_spec (ws := wsX10_count) B.pre
  have hown : s.vm.findClass RX10 = some m.cls := findClass_of_methodNamed B.named
  have hlocks := B.notSynchronized
  have hin10 : ∀ w ∈ wsX100, w ∈ wsX10_count := by decide +kernel
  have hl := lv_entry ([.ref (ad (9, 0)), .int p0]) (n := 2) (Nat.le_of_ble_eq_true rfl)
  rw [lg_entry_eq]
  generalize (lg_sl ([.ref (ad (9, 0)), .int p0]) ++ List.replicate (2 - (lg_sl ([.ref (ad (9, 0)), .int p0])).length) Slot.unset).toArray = ls at hl ⊢
  have hl : lv_has ls 2 [(0, .ref (ad (9, 0))), (1, .int p0)] := hl
  refine lv_iload_n hx hb dX10_count_0 rfl (lv_at hl 1 rfl) ?_
  by_cases c1 : p0 = 0
  · refine lv_tableIn (tgt := 48) (off := 47) hx hb dX10_count_1 (by rw [c1]; decide) (by rw [c1]; decide) (by rw [c1]; decide +kernel) (by decide) ?_
    refine lv_aload_n hx hb dX10_count_48 rfl (lv_at hl 0 rfl) ?_
    refine rg_get (D := (dC, dI)) (r := (9, 0)) (ci := 9) (v := .int (F 3)) (C := RX10) (T := TX10) (N := 19) hx hb hts hin10 hown hK hP ((hrl _).mpr (vd_9 (by decide))) en_9 rfl 0 (by decide) (hts (.fieldLink RX10 65 "SocietyBook" "today" "I") (by decide +kernel)) (fun _ h9 => h9) rfl dX10_count_49 ?_
    exact W.iret (v := F 3) hx hb hr (fun t ht hW => ⟨F 3, rfl, by unfold s_X11_count; rw [if_pos c1], ht⟩) (fun _ h => by cases h) dX10_count_52
  · by_cases c2 : p0 = 1
    · refine lv_tableIn (tgt := 53) (off := 52) hx hb dX10_count_1 (by rw [c2]; decide) (by rw [c2]; decide) (by rw [c2]; decide +kernel) (by decide) ?_
      refine lv_aload_n hx hb dX10_count_53 rfl (lv_at hl 0 rfl) ?_
      refine rg_get (D := (dC, dI)) (r := (9, 0)) (ci := 9) (v := .int (F 4)) (C := RX10) (T := TX10) (N := 19) hx hb hts hin10 hown hK hP ((hrl _).mpr (vd_9 (by decide))) en_9 rfl 1 (by decide) (hts (.fieldLink RX10 73 "SocietyBook" "fellows" "I") (by decide +kernel)) (fun _ h9 => h9) rfl dX10_count_54 ?_
      exact W.iret (v := F 4) hx hb hr (fun t ht hW => ⟨F 4, rfl, by unfold s_X11_count; rw [if_neg c1]; rw [if_pos c2], ht⟩) (fun _ h => by cases h) dX10_count_57
    · by_cases c3 : p0 = 2
      · refine lv_tableIn (tgt := 58) (off := 57) hx hb dX10_count_1 (by rw [c3]; decide) (by rw [c3]; decide) (by rw [c3]; decide +kernel) (by decide) ?_
        refine lv_aload_n hx hb dX10_count_58 rfl (lv_at hl 0 rfl) ?_
        refine rg_get (D := (dC, dI)) (r := (9, 0)) (ci := 9) (v := .int (F 7)) (C := RX10) (T := TX10) (N := 19) hx hb hts hin10 hown hK hP ((hrl _).mpr (vd_9 (by decide))) en_9 rfl 4 (by decide) (hts (.fieldLink RX10 91 "SocietyBook" "paperCount" "I") (by decide +kernel)) (fun _ h9 => h9) rfl dX10_count_59 ?_
        exact W.iret (v := F 7) hx hb hr (fun t ht hW => ⟨F 7, rfl, by unfold s_X11_count; rw [if_neg c1]; rw [if_neg c2]; rw [if_pos c3], ht⟩) (fun _ h => by cases h) dX10_count_62
      · by_cases c4 : p0 = 3
        · refine lv_tableIn (tgt := 63) (off := 62) hx hb dX10_count_1 (by rw [c4]; decide) (by rw [c4]; decide) (by rw [c4]; decide +kernel) (by decide) ?_
          refine lv_aload_n hx hb dX10_count_63 rfl (lv_at hl 0 rfl) ?_
          refine rg_get (D := (dC, dI)) (r := (9, 0)) (ci := 9) (v := .int (F 16)) (C := RX10) (T := TX10) (N := 19) hx hb hts hin10 hown hK hP ((hrl _).mpr (vd_9 (by decide))) en_9 rfl 5 (by decide) (hts (.fieldLink RX10 105 "SocietyBook" "noteCount" "I") (by decide +kernel)) (fun _ h9 => h9) rfl dX10_count_64 ?_
          exact W.iret (v := F 16) hx hb hr (fun t ht hW => ⟨F 16, rfl, by unfold s_X11_count; rw [if_neg c1]; rw [if_neg c2]; rw [if_neg c3]; rw [if_pos c4], ht⟩) (fun _ h => by cases h) dX10_count_67
        · by_cases c5 : p0 = 4
          · refine lv_tableIn (tgt := 68) (off := 67) hx hb dX10_count_1 (by rw [c5]; decide) (by rw [c5]; decide) (by rw [c5]; decide +kernel) (by decide) ?_
            refine lv_aload_n hx hb dX10_count_68 rfl (lv_at hl 0 rfl) ?_
            refine rg_get (D := (dC, dI)) (r := (9, 0)) (ci := 9) (v := .int (F 21)) (C := RX10) (T := TX10) (N := 19) hx hb hts hin10 hown hK hP ((hrl _).mpr (vd_9 (by decide))) en_9 rfl 7 (by decide) (hts (.fieldLink RX10 158 "SocietyBook" "statuteCount" "I") (by decide +kernel)) (fun _ h9 => h9) rfl dX10_count_69 ?_
            exact W.iret (v := F 21) hx hb hr (fun t ht hW => ⟨F 21, rfl, by unfold s_X11_count; rw [if_neg c1]; rw [if_neg c2]; rw [if_neg c3]; rw [if_neg c4]; rw [if_pos c5], ht⟩) (fun _ h => by cases h) dX10_count_72
          · by_cases c6 : p0 = 5
            · refine lv_tableIn (tgt := 73) (off := 72) hx hb dX10_count_1 (by rw [c6]; decide) (by rw [c6]; decide) (by rw [c6]; decide +kernel) (by decide) ?_
              refine lv_aload_n hx hb dX10_count_73 rfl (lv_at hl 0 rfl) ?_
              refine rg_get (D := (dC, dI)) (r := (9, 0)) (ci := 9) (v := .int (F 25)) (C := RX10) (T := TX10) (N := 19) hx hb hts hin10 hown hK hP ((hrl _).mpr (vd_9 (by decide))) en_9 rfl 9 (by decide) (hts (.fieldLink RX10 179 "SocietyBook" "byelawCount" "I") (by decide +kernel)) (fun _ h9 => h9) rfl dX10_count_74 ?_
              exact W.iret (v := F 25) hx hb hr (fun t ht hW => ⟨F 25, rfl, by unfold s_X11_count; rw [if_neg c1]; rw [if_neg c2]; rw [if_neg c3]; rw [if_neg c4]; rw [if_neg c5]; rw [if_pos c6], ht⟩) (fun _ h => by cases h) dX10_count_77
            · by_cases c7 : p0 = 6
              · refine lv_tableIn (tgt := 78) (off := 77) hx hb dX10_count_1 (by rw [c7]; decide) (by rw [c7]; decide) (by rw [c7]; decide +kernel) (by decide) ?_
                refine lv_aload_n hx hb dX10_count_78 rfl (lv_at hl 0 rfl) ?_
                refine rg_get (D := (dC, dI)) (r := (9, 0)) (ci := 9) (v := .int (F 32)) (C := RX10) (T := TX10) (N := 19) hx hb hts hin10 hown hK hP ((hrl _).mpr (vd_9 (by decide))) en_9 rfl 11 (by decide) (hts (.fieldLink RX10 185 "SocietyBook" "candidateCount" "I") (by decide +kernel)) (fun _ h9 => h9) rfl dX10_count_79 ?_
                exact W.iret (v := F 32) hx hb hr (fun t ht hW => ⟨F 32, rfl, by unfold s_X11_count; rw [if_neg c1]; rw [if_neg c2]; rw [if_neg c3]; rw [if_neg c4]; rw [if_neg c5]; rw [if_neg c6]; rw [if_pos c7], ht⟩) (fun _ h => by cases h) dX10_count_82
              · by_cases c8 : p0 = 7
                · refine lv_tableIn (tgt := 83) (off := 82) hx hb dX10_count_1 (by rw [c8]; decide) (by rw [c8]; decide) (by rw [c8]; decide +kernel) (by decide) ?_
                  refine lv_aload_n hx hb dX10_count_83 rfl (lv_at hl 0 rfl) ?_
                  refine rg_get (D := (dC, dI)) (r := (9, 0)) (ci := 9) (v := .int (F 38)) (C := RX10) (T := TX10) (N := 19) hx hb hts hin10 hown hK hP ((hrl _).mpr (vd_9 (by decide))) en_9 rfl 13 (by decide) (hts (.fieldLink RX10 212 "SocietyBook" "awardCount" "I") (by decide +kernel)) (fun _ h9 => h9) rfl dX10_count_84 ?_
                  exact W.iret (v := F 38) hx hb hr (fun t ht hW => ⟨F 38, rfl, by unfold s_X11_count; rw [if_neg c1]; rw [if_neg c2]; rw [if_neg c3]; rw [if_neg c4]; rw [if_neg c5]; rw [if_neg c6]; rw [if_neg c7]; rw [if_pos c8], ht⟩) (fun _ h => by cases h) dX10_count_87
                · refine lv_tableOut (tgt := 88) hx hb dX10_count_1 (ts_out8 c1 c2 c3 c4 c5 c6 c7 c8) (by decide) ?_
                  refine lv_iconst (v := (-1)) hx hb dX10_count_88 (by decide) ?_
                  exact W.iret (v := (-1)) hx hb hr (fun t ht hW => ⟨(-1), rfl, by unfold s_X11_count; rw [if_neg c1]; rw [if_neg c2]; rw [if_neg c3]; rw [if_neg c4]; rw [if_neg c5]; rw [if_neg c6]; rw [if_neg c7]; rw [if_neg c8], ht⟩) (fun _ h => by cases h) dX10_count_89
