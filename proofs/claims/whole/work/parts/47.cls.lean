set_option maxHeartbeats 4000000 in
set_option maxRecDepth 100000 in
theorem c_X7_init8 (l : Launch) (dC : Nat → ClassId) (dI : Nat → Nat → Nat) (rl : List (Nat × Nat)) (ad : Nat × Nat → Nat) (cy : Nat → ClassId) (en : Nat × Nat → va_E) (r : Nat × Nat) (p0 : Int32) (v0 : Int32) (v1 : Int32) (v2 : Int32) (hr0 : r ∈ rl) (he : en r = .inr (8, [.int v0, .int v1, .int v2])) (A : Nat → Prop) (hD : va_D A (rx_W rl ad en)) : Met l yX7_init wsX7_init ({ frames := 1, cells := 0, slots := 0, locals := 12 } : Room) (va_Pc [.ref (ad r), .int p0] (pC dC dI rl ad cy en)) (va_Qv (fun (_ : Unit) => True) (fun _ t => pC dC dI rl ad cy (ru_ en r (.inr (8, [.int p0, .int v1, .int v2]))) t ∧ va_D A (rx_W rl ad (ru_ en r (.inr (8, [.int p0, .int v1, .int v2]))))) A) 0 0 A := by
  refine Met.ofW (cc := cX7_init) (maxL := 2) (ret := none) (by decide) rfl ?_
  intro p e s m args below meth c s₁ B hml hv
  obtain ⟨rfl, hP, hK, hN⟩ := hv
  have hx := B.exec
  have hb := B.bytes
  have hr := B.returns
  have hts := atoms_spec (ws := wsX7_init) B.pre
  have hown : s.vm.findClass RX7 = some m.cls := findClass_of_methodNamed B.named
  have hlocks := B.notSynchronized
  have hin2 : meth.name = "<init>" := (name_of_methodNamed B.named B.method).1
  have hin9 : ∀ w ∈ wsX90, w ∈ wsX7_init := by decide +kernel
  have hS : va_S A s.heap s.heap [] := va_S.rf
  have hl := lv_entry ([.ref (ad r), .int p0]) (n := 2) (Nat.le_of_ble_eq_true rfl)
  rw [lg_entry_eq]
  generalize (lg_sl ([.ref (ad r), .int p0]) ++ List.replicate (2 - (lg_sl ([.ref (ad r), .int p0])).length) Slot.unset).toArray = ls at hl ⊢
  have hl : lv_has ls 2 [(0, .ref (ad r)), (1, .int p0)] := hl
  refine lv_aload_n hx hb dX7_init_0 rfl (lv_at hl 0 rfl) ?_
  refine W.objInit hx hb hown (hts (.methodLink RX7 1 objectInit) (by decide +kernel)) (hts (.instanceMethod objectInit) (by decide +kernel)) (hts _ (List.mem_cons_of_mem _ (List.mem_append_left _ (List.mem_of_getElem? (i := 2) rfl)))) rfl (by rw [hml]; exact hl.1) rfl dX7_init_1 (Nat.le_of_ble_eq_true rfl) (Nat.le_of_ble_eq_true rfl) ?_
  refine W.eq (g2 := F0 m 4 ls []) rfl ?_
  refine lv_aload_n hx hb dX7_init_4 rfl (lv_at hl 0 rfl) ?_
  refine lv_iload_n hx hb dX7_init_5 rfl (lv_at hl 1 rfl) ?_
  refine rg_putF (D := (dC, dI)) (r := r) (ci := 8) (v := .int p0) (ty := .int) (C := RX9) (T := TX9) (N := 3) hx hb hts hin9 tyX9 tyX9_ok nmX9 hown hK hP hD hS hr0 he rfl 0 (by decide) (hts (.fieldLink RX7 7 "SocietyBook$Rule" "from" "I") (by decide +kernel)) (fun _ h9 => h9) rfl hin2 rfl (by decide +kernel) rfl rfl (Nat.le_of_ble_eq_true rfl) dX7_init_6 (fun H locs hP hD hS => ?_)
  replace hP : va_P (dC, dI) vwCl (rx_W rl ad (ru_ en r (.inr (8, [.int p0, .int v1, .int v2])))) H := hP
  replace hD : va_D A (rx_W rl ad (ru_ en r (.inr (8, [.int p0, .int v1, .int v2])))) := hD
  exact W.vret hx hb hr (fun t ht hW => ⟨⟨(), rfl, trivial, ⟨⟨by rw [ht]; exact hP, va_K.moved hW.alike hK, nst_w hW hN⟩, hD⟩⟩, hS.F ht⟩) hS.2.2 dX7_init_9

set_option maxHeartbeats 4000000 in
set_option maxRecDepth 100000 in
theorem c_X7_init0 (l : Launch) (dC : Nat → ClassId) (dI : Nat → Nat → Nat) (rl : List (Nat × Nat)) (ad : Nat × Nat → Nat) (cy : Nat → ClassId) (en : Nat × Nat → va_E) (r : Nat × Nat) (p0 : Int32) (v0 : Int32) (v1 : Int32) (v2 : Int32) (v3 : Int32) (v4 : Int32) (v5 : Int32) (hr0 : r ∈ rl) (he : en r = .inr (0, [.int v0, .int v1, .int v2, .int v3, .int v4, .int v5])) (A : Nat → Prop) (hD : va_D A (rx_W rl ad en)) : Met l yX7_init wsX7_init ({ frames := 1, cells := 0, slots := 0, locals := 12 } : Room) (va_Pc [.ref (ad r), .int p0] (pC dC dI rl ad cy en)) (va_Qv (fun (_ : Unit) => True) (fun _ t => pC dC dI rl ad cy (ru_ en r (.inr (0, [.int p0, .int v1, .int v2, .int v3, .int v4, .int v5]))) t ∧ va_D A (rx_W rl ad (ru_ en r (.inr (0, [.int p0, .int v1, .int v2, .int v3, .int v4, .int v5]))))) A) 0 0 A := by
  refine Met.ofW (cc := cX7_init) (maxL := 2) (ret := none) (by decide) rfl ?_
  intro p e s m args below meth c s₁ B hml hv
  obtain ⟨rfl, hP, hK, hN⟩ := hv
  have hx := B.exec
  have hb := B.bytes
  have hr := B.returns
  have hts := atoms_spec (ws := wsX7_init) B.pre
  have hown : s.vm.findClass RX7 = some m.cls := findClass_of_methodNamed B.named
  have hlocks := B.notSynchronized
  have hin2 : meth.name = "<init>" := (name_of_methodNamed B.named B.method).1
  have hin0 : ∀ w ∈ wsX00, w ∈ wsX7_init := by decide +kernel
  have hS : va_S A s.heap s.heap [] := va_S.rf
  have hl := lv_entry ([.ref (ad r), .int p0]) (n := 2) (Nat.le_of_ble_eq_true rfl)
  rw [lg_entry_eq]
  generalize (lg_sl ([.ref (ad r), .int p0]) ++ List.replicate (2 - (lg_sl ([.ref (ad r), .int p0])).length) Slot.unset).toArray = ls at hl ⊢
  have hl : lv_has ls 2 [(0, .ref (ad r)), (1, .int p0)] := hl
  refine lv_aload_n hx hb dX7_init_0 rfl (lv_at hl 0 rfl) ?_
  refine W.objInit hx hb hown (hts (.methodLink RX7 1 objectInit) (by decide +kernel)) (hts (.instanceMethod objectInit) (by decide +kernel)) (hts _ (List.mem_cons_of_mem _ (List.mem_append_left _ (List.mem_of_getElem? (i := 2) rfl)))) rfl (by rw [hml]; exact hl.1) rfl dX7_init_1 (Nat.le_of_ble_eq_true rfl) (Nat.le_of_ble_eq_true rfl) ?_
  refine W.eq (g2 := F0 m 4 ls []) rfl ?_
  refine lv_aload_n hx hb dX7_init_4 rfl (lv_at hl 0 rfl) ?_
  refine lv_iload_n hx hb dX7_init_5 rfl (lv_at hl 1 rfl) ?_
  refine rg_putF (D := (dC, dI)) (r := r) (ci := 0) (v := .int p0) (ty := .int) (C := RX0) (T := TX0) (N := 6) hx hb hts hin0 tyX0 tyX0_ok nmX0 hown hK hP hD hS hr0 he rfl 0 (by decide) (hts (.fieldLink RX7 7 "SocietyBook$Rule" "from" "I") (by decide +kernel)) (fun _ h9 => h9) rfl hin2 rfl (by decide +kernel) rfl rfl (Nat.le_of_ble_eq_true rfl) dX7_init_6 (fun H locs hP hD hS => ?_)
  replace hP : va_P (dC, dI) vwCl (rx_W rl ad (ru_ en r (.inr (0, [.int p0, .int v1, .int v2, .int v3, .int v4, .int v5])))) H := hP
  replace hD : va_D A (rx_W rl ad (ru_ en r (.inr (0, [.int p0, .int v1, .int v2, .int v3, .int v4, .int v5])))) := hD
  exact W.vret hx hb hr (fun t ht hW => ⟨⟨(), rfl, trivial, ⟨⟨by rw [ht]; exact hP, va_K.moved hW.alike hK, nst_w hW hN⟩, hD⟩⟩, hS.F ht⟩) hS.2.2 dX7_init_9

set_option maxHeartbeats 4000000 in
set_option maxRecDepth 100000 in
theorem c_X9_init (l : Launch) (dC : Nat → ClassId) (dI : Nat → Nat → Nat) (rl : List (Nat × Nat)) (ad : Nat × Nat → Nat) (cy : Nat → ClassId) (en : Nat × Nat → va_E) (r : Nat × Nat) (p0 : Int32) (p1 : Int32) (p2 : Int32) (v0 : Int32) (v1 : Int32) (v2 : Int32) (hr0 : r ∈ rl) (he : en r = .inr (8, [.int v0, .int v1, .int v2])) (A : Nat → Prop) (hD : va_D A (rx_W rl ad en)) (hz : narrow .boolean (.int p2) = .int p2 ∧ fits .boolean (.int p2) = true) : Met l yX9_init wsX9_init ({ frames := 2, cells := 0, slots := 0, locals := 33 } : Room) (va_Pc [.ref (ad r), .int p0, .int p1, .int p2] (pC dC dI rl ad cy en)) (va_Qv (fun (_ : Unit) => True) (fun _ t => pC dC dI rl ad cy (ru_ en r (.inr (8, [.int p0, .int p1, .int p2]))) t ∧ va_D A (rx_W rl ad (ru_ en r (.inr (8, [.int p0, .int p1, .int p2]))))) A) 0 0 A := by
  refine Met.ofW (cc := cX9_init) (maxL := 4) (ret := none) (by decide) rfl ?_
  intro p e s m args below meth c s₁ B hml hv
  obtain ⟨rfl, hP, hK, hN⟩ := hv
  have hx := B.exec
  have hb := B.bytes
  have hr := B.returns
  have hts := atoms_spec (ws := wsX9_init) B.pre
  have hown : s.vm.findClass RX9 = some m.cls := findClass_of_methodNamed B.named
  have hlocks := B.notSynchronized
  have hin2 : meth.name = "<init>" := (name_of_methodNamed B.named B.method).1
  have hin9 : ∀ w ∈ wsX90, w ∈ wsX9_init := by decide +kernel
  have hS : va_S A s.heap s.heap [] := va_S.rf
  have hl := lv_entry ([.ref (ad r), .int p0, .int p1, .int p2]) (n := 4) (Nat.le_of_ble_eq_true rfl)
  rw [lg_entry_eq]
  generalize (lg_sl ([.ref (ad r), .int p0, .int p1, .int p2]) ++ List.replicate (4 - (lg_sl ([.ref (ad r), .int p0, .int p1, .int p2])).length) Slot.unset).toArray = ls at hl ⊢
  have hl : lv_has ls 4 [(0, .ref (ad r)), (1, .int p0), (2, .int p1), (3, .int p2)] := hl
  refine lv_aload_n hx hb dX9_init_0 rfl (lv_at hl 0 rfl) ?_
  refine lv_iload_n hx hb dX9_init_1 rfl (lv_at hl 1 rfl) ?_
  refine va_callv (va_runI (As := [.int p0]) (rest := []) ⟨hx, hb, hml, hown, hts⟩ (c_X7_init8 l dC dI rl ad cy en r  p0 v0 v1 v2 hr0 he A hD) (cwI 1 hts gX9_init_X7_init rfl rfl rfl (hts (.initialized RX7) (by decide +kernel)) (hts (.methodLink RX9 1 yX7_init) (by decide +kernel)) (hts (.instanceMethod yX7_init) (by decide +kernel)) rfl (by decide +kernel) ⟨Nat.le_of_ble_eq_true rfl, Nat.le_of_ble_eq_true rfl⟩) ⟨pc_blind, fun U hU hW => ⟨rfl, by rw [hU]; exact hP, va_K.moved hW.alike hK, nst_w hW hN⟩⟩ rfl rfl hl.1 rfl (lv_room (Nat.le_of_ble_eq_true rfl)) dX9_init_2 ⟨Nat.zero_le _, Nat.zero_le _⟩) hS (fun q _ h => h) (fun q h => h) (fun u t H1 locs ht hvm hw hB hz1 hk1 hS => ?_)
  obtain ⟨⟨hP, -, -⟩, hD⟩ := hB
  rw [ht] at hP
  clear hz1 hk1 ht hvm; generalize H1 = H at hP hS ⊢
  refine lv_aload_n hx hb dX9_init_5 rfl (lv_at hl 0 rfl) ?_
  refine lv_iload_n hx hb dX9_init_6 rfl (lv_at hl 2 rfl) ?_
  refine rg_putF (D := (dC, dI)) (r := r) (ci := 8) (v := .int p1) (ty := .int) (C := RX9) (T := TX9) (N := 3) hx hb hts hin9 tyX9 tyX9_ok nmX9 hown hK hP hD hS hr0 ru_s rfl 1 (by decide) (hts (.fieldLink RX9 7 "SocietyBook$Statute" "what" "I") (by decide +kernel)) (fun _ h9 => h9) rfl hin2 rfl (by decide +kernel) rfl rfl (Nat.le_of_ble_eq_true rfl) dX9_init_7 (fun H locs hP hD hS => ?_)
  rw [ru_ru] at hP hD
  replace hP : va_P (dC, dI) vwCl (rx_W rl ad (ru_ en r (.inr (8, [.int p0, .int p1, .int v2])))) H := hP
  replace hD : va_D A (rx_W rl ad (ru_ en r (.inr (8, [.int p0, .int p1, .int v2])))) := hD
  refine lv_aload_n hx hb dX9_init_10 rfl (lv_at hl 0 rfl) ?_
  refine lv_iload_n hx hb dX9_init_11 rfl (lv_at hl 3 rfl) ?_
  refine rg_putF (D := (dC, dI)) (r := r) (ci := 8) (v := .int p2) (ty := .boolean) (C := RX9) (T := TX9) (N := 3) hx hb hts hin9 tyX9 tyX9_ok nmX9 hown hK hP hD hS hr0 ru_s rfl 2 (by decide) (hts (.fieldLink RX9 13 "SocietyBook$Statute" "sealed" "Z") (by decide +kernel)) (fun _ h9 => h9) rfl hin2 rfl (by decide +kernel) (hz.1) (hz.2) (Nat.le_of_ble_eq_true rfl) dX9_init_12 (fun H locs hP hD hS => ?_)
  rw [ru_ru] at hP hD
  replace hP : va_P (dC, dI) vwCl (rx_W rl ad (ru_ en r (.inr (8, [.int p0, .int p1, .int p2])))) H := hP
  replace hD : va_D A (rx_W rl ad (ru_ en r (.inr (8, [.int p0, .int p1, .int p2])))) := hD
  exact W.vret hx hb hr (fun t ht hW => ⟨⟨(), rfl, trivial, ⟨⟨by rw [ht]; exact hP, va_K.moved hW.alike hK, nst_w hW hN⟩, hD⟩⟩, hS.F ht⟩) hS.2.2 dX9_init_15

set_option maxHeartbeats 4000000 in
set_option maxRecDepth 100000 in
theorem c_X0_init (l : Launch) (dC : Nat → ClassId) (dI : Nat → Nat → Nat) (rl : List (Nat × Nat)) (ad : Nat × Nat → Nat) (cy : Nat → ClassId) (en : Nat × Nat → va_E) (r : Nat × Nat) (p0 : Int32) (p1 : Int32) (p2 : Int32) (p3 : Int32) (p4 : Int32) (p5 : Int32) (v0 : Int32) (v1 : Int32) (v2 : Int32) (v3 : Int32) (v4 : Int32) (v5 : Int32) (hr0 : r ∈ rl) (he : en r = .inr (0, [.int v0, .int v1, .int v2, .int v3, .int v4, .int v5])) (A : Nat → Prop) (hD : va_D A (rx_W rl ad en)) : Met l yX0_init wsX0_init ({ frames := 2, cells := 0, slots := 0, locals := 33 } : Room) (va_Pc [.ref (ad r), .int p0, .int p1, .int p2, .int p3, .int p4, .int p5] (pC dC dI rl ad cy en)) (va_Qv (fun (_ : Unit) => True) (fun _ t => pC dC dI rl ad cy (ru_ en r (.inr (0, [.int p0, .int p1, .int p2, .int p3, .int p4, .int p5]))) t ∧ va_D A (rx_W rl ad (ru_ en r (.inr (0, [.int p0, .int p1, .int p2, .int p3, .int p4, .int p5]))))) A) 0 0 A := by
  refine Met.ofW (cc := cX0_init) (maxL := 7) (ret := none) (by decide) rfl ?_
  intro p e s m args below meth c s₁ B hml hv
  obtain ⟨rfl, hP, hK, hN⟩ := hv
  have hx := B.exec
  have hb := B.bytes
  have hr := B.returns
  have hts := atoms_spec (ws := wsX0_init) B.pre
  have hown : s.vm.findClass RX0 = some m.cls := findClass_of_methodNamed B.named
  have hlocks := B.notSynchronized
  have hin2 : meth.name = "<init>" := (name_of_methodNamed B.named B.method).1
  have hin0 : ∀ w ∈ wsX00, w ∈ wsX0_init := by decide +kernel
  have hS : va_S A s.heap s.heap [] := va_S.rf
  have hl := lv_entry ([.ref (ad r), .int p0, .int p1, .int p2, .int p3, .int p4, .int p5]) (n := 7) (Nat.le_of_ble_eq_true rfl)
  rw [lg_entry_eq]
  generalize (lg_sl ([.ref (ad r), .int p0, .int p1, .int p2, .int p3, .int p4, .int p5]) ++ List.replicate (7 - (lg_sl ([.ref (ad r), .int p0, .int p1, .int p2, .int p3, .int p4, .int p5])).length) Slot.unset).toArray = ls at hl ⊢
  have hl : lv_has ls 7 [(0, .ref (ad r)), (1, .int p0), (2, .int p1), (3, .int p2), (4, .int p3), (5, .int p4), (6, .int p5)] := hl
  refine lv_aload_n hx hb dX0_init_0 rfl (lv_at hl 0 rfl) ?_
  refine lv_iload_n hx hb dX0_init_1 rfl (lv_at hl 1 rfl) ?_
  refine va_callv (va_runI (As := [.int p0]) (rest := []) ⟨hx, hb, hml, hown, hts⟩ (c_X7_init0 l dC dI rl ad cy en r  p0 v0 v1 v2 v3 v4 v5 hr0 he A hD) (cwI 1 hts gX0_init_X7_init rfl rfl rfl (hts (.initialized RX7) (by decide +kernel)) (hts (.methodLink RX0 3 yX7_init) (by decide +kernel)) (hts (.instanceMethod yX7_init) (by decide +kernel)) rfl (by decide +kernel) ⟨Nat.le_of_ble_eq_true rfl, Nat.le_of_ble_eq_true rfl⟩) ⟨pc_blind, fun U hU hW => ⟨rfl, by rw [hU]; exact hP, va_K.moved hW.alike hK, nst_w hW hN⟩⟩ rfl rfl hl.1 rfl (lv_room (Nat.le_of_ble_eq_true rfl)) dX0_init_2 ⟨Nat.zero_le _, Nat.zero_le _⟩) hS (fun q _ h => h) (fun q h => h) (fun u t H1 locs ht hvm hw hB hz1 hk1 hS => ?_)
  obtain ⟨⟨hP, -, -⟩, hD⟩ := hB
  rw [ht] at hP
  clear hz1 hk1 ht hvm; generalize H1 = H at hP hS ⊢
  refine lv_aload_n hx hb dX0_init_5 rfl (lv_at hl 0 rfl) ?_
  refine lv_iload_n hx hb dX0_init_6 rfl (lv_at hl 2 rfl) ?_
  refine rg_putF (D := (dC, dI)) (r := r) (ci := 0) (v := .int p1) (ty := .int) (C := RX0) (T := TX0) (N := 6) hx hb hts hin0 tyX0 tyX0_ok nmX0 hown hK hP hD hS hr0 ru_s rfl 1 (by decide) (hts (.fieldLink RX0 9 "SocietyBook$Byelaw" "hangs" "I") (by decide +kernel)) (fun _ h9 => h9) rfl hin2 rfl (by decide +kernel) rfl rfl (Nat.le_of_ble_eq_true rfl) dX0_init_7 (fun H locs hP hD hS => ?_)
  rw [ru_ru] at hP hD
  replace hP : va_P (dC, dI) vwCl (rx_W rl ad (ru_ en r (.inr (0, [.int p0, .int p1, .int v2, .int v3, .int v4, .int v5])))) H := hP
  replace hD : va_D A (rx_W rl ad (ru_ en r (.inr (0, [.int p0, .int p1, .int v2, .int v3, .int v4, .int v5])))) := hD
  refine lv_aload_n hx hb dX0_init_10 rfl (lv_at hl 0 rfl) ?_
  refine lv_iload_n hx hb dX0_init_11 rfl (lv_at hl 3 rfl) ?_
  refine rg_putF (D := (dC, dI)) (r := r) (ci := 0) (v := .int p2) (ty := .int) (C := RX0) (T := TX0) (N := 6) hx hb hts hin0 tyX0 tyX0_ok nmX0 hown hK hP hD hS hr0 ru_s rfl 2 (by decide) (hts (.fieldLink RX0 15 "SocietyBook$Byelaw" "leastProposers" "I") (by decide +kernel)) (fun _ h9 => h9) rfl hin2 rfl (by decide +kernel) rfl rfl (Nat.le_of_ble_eq_true rfl) dX0_init_12 (fun H locs hP hD hS => ?_)
  rw [ru_ru] at hP hD
  replace hP : va_P (dC, dI) vwCl (rx_W rl ad (ru_ en r (.inr (0, [.int p0, .int p1, .int p2, .int v3, .int v4, .int v5])))) H := hP
  replace hD : va_D A (rx_W rl ad (ru_ en r (.inr (0, [.int p0, .int p1, .int p2, .int v3, .int v4, .int v5])))) := hD
  refine lv_aload_n hx hb dX0_init_15 rfl (lv_at hl 0 rfl) ?_
  refine lv_iload hx hb dX0_init_16 (lv_at hl 4 rfl) ?_
  refine rg_putF (D := (dC, dI)) (r := r) (ci := 0) (v := .int p3) (ty := .int) (C := RX0) (T := TX0) (N := 6) hx hb hts hin0 tyX0 tyX0_ok nmX0 hown hK hP hD hS hr0 ru_s rfl 3 (by decide) (hts (.fieldLink RX0 18 "SocietyBook$Byelaw" "mostBlack" "I") (by decide +kernel)) (fun _ h9 => h9) rfl hin2 rfl (by decide +kernel) rfl rfl (Nat.le_of_ble_eq_true rfl) dX0_init_18 (fun H locs hP hD hS => ?_)
  rw [ru_ru] at hP hD
  replace hP : va_P (dC, dI) vwCl (rx_W rl ad (ru_ en r (.inr (0, [.int p0, .int p1, .int p2, .int p3, .int v4, .int v5])))) H := hP
  replace hD : va_D A (rx_W rl ad (ru_ en r (.inr (0, [.int p0, .int p1, .int p2, .int p3, .int v4, .int v5])))) := hD
  refine lv_aload_n hx hb dX0_init_21 rfl (lv_at hl 0 rfl) ?_
  refine lv_iload hx hb dX0_init_22 (lv_at hl 5 rfl) ?_
  refine rg_putF (D := (dC, dI)) (r := r) (ci := 0) (v := .int p4) (ty := .int) (C := RX0) (T := TX0) (N := 6) hx hb hts hin0 tyX0 tyX0_ok nmX0 hown hK hP hD hS hr0 ru_s rfl 4 (by decide) (hts (.fieldLink RX0 21 "SocietyBook$Byelaw" "whiteParts" "I") (by decide +kernel)) (fun _ h9 => h9) rfl hin2 rfl (by decide +kernel) rfl rfl (Nat.le_of_ble_eq_true rfl) dX0_init_24 (fun H locs hP hD hS => ?_)
  rw [ru_ru] at hP hD
  replace hP : va_P (dC, dI) vwCl (rx_W rl ad (ru_ en r (.inr (0, [.int p0, .int p1, .int p2, .int p3, .int p4, .int v5])))) H := hP
  replace hD : va_D A (rx_W rl ad (ru_ en r (.inr (0, [.int p0, .int p1, .int p2, .int p3, .int p4, .int v5])))) := hD
  refine lv_aload_n hx hb dX0_init_27 rfl (lv_at hl 0 rfl) ?_
  refine lv_iload hx hb dX0_init_28 (lv_at hl 6 rfl) ?_
  refine rg_putF (D := (dC, dI)) (r := r) (ci := 0) (v := .int p5) (ty := .int) (C := RX0) (T := TX0) (N := 6) hx hb hts hin0 tyX0 tyX0_ok nmX0 hown hK hP hD hS hr0 ru_s rfl 5 (by decide) (hts (.fieldLink RX0 24 "SocietyBook$Byelaw" "allParts" "I") (by decide +kernel)) (fun _ h9 => h9) rfl hin2 rfl (by decide +kernel) rfl rfl (Nat.le_of_ble_eq_true rfl) dX0_init_30 (fun H locs hP hD hS => ?_)
  rw [ru_ru] at hP hD
  replace hP : va_P (dC, dI) vwCl (rx_W rl ad (ru_ en r (.inr (0, [.int p0, .int p1, .int p2, .int p3, .int p4, .int p5])))) H := hP
  replace hD : va_D A (rx_W rl ad (ru_ en r (.inr (0, [.int p0, .int p1, .int p2, .int p3, .int p4, .int p5])))) := hD
  exact W.vret hx hb hr (fun t ht hW => ⟨⟨(), rfl, trivial, ⟨⟨by rw [ht]; exact hP, va_K.moved hW.alike hK, nst_w hW hN⟩, hD⟩⟩, hS.F ht⟩) hS.2.2 dX0_init_33

set_option maxHeartbeats 4000000 in
set_option maxRecDepth 100000 in
theorem c_X1_init (l : Launch) (dC : Nat → ClassId) (dI : Nat → Nat → Nat) (rl : List (Nat × Nat)) (ad : Nat × Nat → Nat) (cy : Nat → ClassId) (en : Nat × Nat → va_E) (r : Nat × Nat) (p0 : Int32) (p1 : Int32) (v0 : Int32) (v1 : Int32) (v2 : Int32) (hr0 : r ∈ rl) (he : en r = .inr (1, [.int v0, .int v1, .int v2])) (A : Nat → Prop) (hD : va_D A (rx_W rl ad en)) : Met l yX1_init wsX1_init ({ frames := 1, cells := 0, slots := 0, locals := 12 } : Room) (va_Pc [.ref (ad r), .int p0, .int p1] (pC dC dI rl ad cy en)) (va_Qv (fun (_ : Unit) => True) (fun _ t => pC dC dI rl ad cy (ru_ en r (.inr (1, [.int p0, .int p1, .int v2]))) t ∧ va_D A (rx_W rl ad (ru_ en r (.inr (1, [.int p0, .int p1, .int v2]))))) A) 0 0 A := by
  refine Met.ofW (cc := cX1_init) (maxL := 3) (ret := none) (by decide) rfl ?_
  intro p e s m args below meth c s₁ B hml hv
  obtain ⟨rfl, hP, hK, hN⟩ := hv
  have hx := B.exec
  have hb := B.bytes
  have hr := B.returns
  have hts := atoms_spec (ws := wsX1_init) B.pre
  have hown : s.vm.findClass RX1 = some m.cls := findClass_of_methodNamed B.named
  have hlocks := B.notSynchronized
  have hin2 : meth.name = "<init>" := (name_of_methodNamed B.named B.method).1
  have hin1 : ∀ w ∈ wsX10, w ∈ wsX1_init := by decide +kernel
  have hS : va_S A s.heap s.heap [] := va_S.rf
  have hl := lv_entry ([.ref (ad r), .int p0, .int p1]) (n := 3) (Nat.le_of_ble_eq_true rfl)
  rw [lg_entry_eq]
  generalize (lg_sl ([.ref (ad r), .int p0, .int p1]) ++ List.replicate (3 - (lg_sl ([.ref (ad r), .int p0, .int p1])).length) Slot.unset).toArray = ls at hl ⊢
  have hl : lv_has ls 3 [(0, .ref (ad r)), (1, .int p0), (2, .int p1)] := hl
  refine lv_aload_n hx hb dX1_init_0 rfl (lv_at hl 0 rfl) ?_
  refine W.objInit hx hb hown (hts (.methodLink RX1 1 objectInit) (by decide +kernel)) (hts (.instanceMethod objectInit) (by decide +kernel)) (hts _ (List.mem_cons_of_mem _ (List.mem_append_left _ (List.mem_of_getElem? (i := 2) rfl)))) rfl (by rw [hml]; exact hl.1) rfl dX1_init_1 (Nat.le_of_ble_eq_true rfl) (Nat.le_of_ble_eq_true rfl) ?_
  refine W.eq (g2 := F0 m 4 ls []) rfl ?_
  refine lv_aload_n hx hb dX1_init_4 rfl (lv_at hl 0 rfl) ?_
  refine lv_iload_n hx hb dX1_init_5 rfl (lv_at hl 1 rfl) ?_
  refine rg_put (D := (dC, dI)) (r := r) (ci := 1) (v := .int p0) (ty := .int) (C := RX1) (T := TX1) (N := 3) hx hb hts hin1 tyX1 tyX1_ok nmX1 hown hK hP hD hS hr0 he rfl 0 (by decide) (hts (.fieldLink RX1 7 "SocietyBook$Candidate" "proposers" "I") (by decide +kernel)) (fun _ h9 => h9) rfl (by decide +kernel) rfl rfl (Nat.le_of_ble_eq_true rfl) dX1_init_6 (fun H locs hP hD hS => ?_)
  replace hP : va_P (dC, dI) vwCl (rx_W rl ad (ru_ en r (.inr (1, [.int p0, .int v1, .int v2])))) H := hP
  replace hD : va_D A (rx_W rl ad (ru_ en r (.inr (1, [.int p0, .int v1, .int v2])))) := hD
  refine lv_aload_n hx hb dX1_init_9 rfl (lv_at hl 0 rfl) ?_
  refine lv_iload_n hx hb dX1_init_10 rfl (lv_at hl 2 rfl) ?_
  refine rg_putF (D := (dC, dI)) (r := r) (ci := 1) (v := .int p1) (ty := .int) (C := RX1) (T := TX1) (N := 3) hx hb hts hin1 tyX1 tyX1_ok nmX1 hown hK hP hD hS hr0 ru_s rfl 1 (by decide) (hts (.fieldLink RX1 13 "SocietyBook$Candidate" "hungOn" "I") (by decide +kernel)) (fun _ h9 => h9) rfl hin2 rfl (by decide +kernel) rfl rfl (Nat.le_of_ble_eq_true rfl) dX1_init_11 (fun H locs hP hD hS => ?_)
  rw [ru_ru] at hP hD
  replace hP : va_P (dC, dI) vwCl (rx_W rl ad (ru_ en r (.inr (1, [.int p0, .int p1, .int v2])))) H := hP
  replace hD : va_D A (rx_W rl ad (ru_ en r (.inr (1, [.int p0, .int p1, .int v2])))) := hD
  exact W.vret hx hb hr (fun t ht hW => ⟨⟨(), rfl, trivial, ⟨⟨by rw [ht]; exact hP, va_K.moved hW.alike hK, nst_w hW hN⟩, hD⟩⟩, hS.F ht⟩) hS.2.2 dX1_init_14

set_option maxHeartbeats 4000000 in
set_option maxRecDepth 100000 in
theorem c_X4_initN (l : Launch) (dC : Nat → ClassId) (dI : Nat → Nat → Nat) (rl : List (Nat × Nat)) (ad : Nat × Nat → Nat) (cy : Nat → ClassId) (en : Nat × Nat → va_E) (r : Nat × Nat) (p0 : Int32) (p1 : Int32) (v0 : Int32) (v1 : Int32) (hr0 : r ∈ rl) (he : en r = .inr (4, [.int v0, .int v1, .null])) (A : Nat → Prop) (hD : va_D A (rx_W rl ad en)) : Met l yX4_init wsX4_init ({ frames := 1, cells := 0, slots := 0, locals := 12 } : Room) (va_Pc [.ref (ad r), .int p0, .int p1, .null] (pC dC dI rl ad cy en)) (va_Qv (fun (_ : Unit) => True) (fun _ t => pC dC dI rl ad cy (ru_ en r (.inr (4, [.int p0, .int p1, .null]))) t ∧ va_D A (rx_W rl ad (ru_ en r (.inr (4, [.int p0, .int p1, .null]))))) A) 0 0 A := by
  refine Met.ofW (cc := cX4_init) (maxL := 4) (ret := none) (by decide) rfl ?_
  intro p e s m args below meth c s₁ B hml hv
  obtain ⟨rfl, hP, hK, hN⟩ := hv
  have hx := B.exec
  have hb := B.bytes
  have hr := B.returns
  have hts := atoms_spec (ws := wsX4_init) B.pre
  have hown : s.vm.findClass RX4 = some m.cls := findClass_of_methodNamed B.named
  have hlocks := B.notSynchronized
  have hin2 : meth.name = "<init>" := (name_of_methodNamed B.named B.method).1
  have hin4 : ∀ w ∈ wsX40, w ∈ wsX4_init := by decide +kernel
  have hS : va_S A s.heap s.heap [] := va_S.rf
  have hl := lv_entry ([.ref (ad r), .int p0, .int p1, .null]) (n := 4) (Nat.le_of_ble_eq_true rfl)
  rw [lg_entry_eq]
  generalize (lg_sl ([.ref (ad r), .int p0, .int p1, .null]) ++ List.replicate (4 - (lg_sl ([.ref (ad r), .int p0, .int p1, .null])).length) Slot.unset).toArray = ls at hl ⊢
  have hl : lv_has ls 4 [(0, .ref (ad r)), (1, .int p0), (2, .int p1), (3, .null)] := hl
  refine lv_aload_n hx hb dX4_init_0 rfl (lv_at hl 0 rfl) ?_
  refine W.objInit hx hb hown (hts (.methodLink RX4 1 objectInit) (by decide +kernel)) (hts (.instanceMethod objectInit) (by decide +kernel)) (hts _ (List.mem_cons_of_mem _ (List.mem_append_left _ (List.mem_of_getElem? (i := 2) rfl)))) rfl (by rw [hml]; exact hl.1) rfl dX4_init_1 (Nat.le_of_ble_eq_true rfl) (Nat.le_of_ble_eq_true rfl) ?_
  refine W.eq (g2 := F0 m 4 ls []) rfl ?_
  refine lv_aload_n hx hb dX4_init_4 rfl (lv_at hl 0 rfl) ?_
  refine lv_iload_n hx hb dX4_init_5 rfl (lv_at hl 1 rfl) ?_
  refine rg_putF (D := (dC, dI)) (r := r) (ci := 4) (v := .int p0) (ty := .int) (C := RX4) (T := TX4) (N := 3) hx hb hts hin4 tyX4 tyX4_ok nmX4 hown hK hP hD hS hr0 he rfl 0 (by decide) (hts (.fieldLink RX4 7 "SocietyBook$Note" "day" "I") (by decide +kernel)) (fun _ h9 => h9) rfl hin2 rfl (by decide +kernel) rfl rfl (Nat.le_of_ble_eq_true rfl) dX4_init_6 (fun H locs hP hD hS => ?_)
  replace hP : va_P (dC, dI) vwCl (rx_W rl ad (ru_ en r (.inr (4, [.int p0, .int v1, .null])))) H := hP
  replace hD : va_D A (rx_W rl ad (ru_ en r (.inr (4, [.int p0, .int v1, .null])))) := hD
  refine lv_aload_n hx hb dX4_init_9 rfl (lv_at hl 0 rfl) ?_
  refine lv_iload_n hx hb dX4_init_10 rfl (lv_at hl 2 rfl) ?_
  refine rg_putF (D := (dC, dI)) (r := r) (ci := 4) (v := .int p1) (ty := .int) (C := RX4) (T := TX4) (N := 3) hx hb hts hin4 tyX4 tyX4_ok nmX4 hown hK hP hD hS hr0 ru_s rfl 1 (by decide) (hts (.fieldLink RX4 13 "SocietyBook$Note" "toldOn" "I") (by decide +kernel)) (fun _ h9 => h9) rfl hin2 rfl (by decide +kernel) rfl rfl (Nat.le_of_ble_eq_true rfl) dX4_init_11 (fun H locs hP hD hS => ?_)
  rw [ru_ru] at hP hD
  replace hP : va_P (dC, dI) vwCl (rx_W rl ad (ru_ en r (.inr (4, [.int p0, .int p1, .null])))) H := hP
  replace hD : va_D A (rx_W rl ad (ru_ en r (.inr (4, [.int p0, .int p1, .null])))) := hD
  refine lv_aload_n hx hb dX4_init_14 rfl (lv_at hl 0 rfl) ?_
  refine lv_aload_nN hx hb dX4_init_15 rfl (lv_at hl 3 rfl) ?_
  refine rg_putF (D := (dC, dI)) (r := r) (ci := 4) (v := .null) (ty := .object "SocietyBook$Note") (C := RX4) (T := TX4) (N := 3) hx hb hts hin4 tyX4 tyX4_ok nmX4 hown hK hP hD hS hr0 ru_s rfl 2 (by decide) (hts (.fieldLink RX4 16 "SocietyBook$Note" "earlier" "LSocietyBook$Note;") (by decide +kernel)) (fun _ h9 => h9) rfl hin2 rfl (by decide +kernel) rfl rfl (Nat.le_of_ble_eq_true rfl) dX4_init_16 (fun H locs hP hD hS => ?_)
  rw [ru_ru] at hP hD
  replace hP : va_P (dC, dI) vwCl (rx_W rl ad (ru_ en r (.inr (4, [.int p0, .int p1, .null])))) H := hP
  replace hD : va_D A (rx_W rl ad (ru_ en r (.inr (4, [.int p0, .int p1, .null])))) := hD
  exact W.vret hx hb hr (fun t ht hW => ⟨⟨(), rfl, trivial, ⟨⟨by rw [ht]; exact hP, va_K.moved hW.alike hK, nst_w hW hN⟩, hD⟩⟩, hS.F ht⟩) hS.2.2 dX4_init_19

set_option maxHeartbeats 4000000 in
set_option maxRecDepth 100000 in
theorem c_X4_initS (l : Launch) (dC : Nat → ClassId) (dI : Nat → Nat → Nat) (rl : List (Nat × Nat)) (ad : Nat × Nat → Nat) (cy : Nat → ClassId) (en : Nat × Nat → va_E) (r : Nat × Nat) (p0 : Int32) (p1 : Int32) (o : Nat) (v0 : Int32) (v1 : Int32) (hr0 : r ∈ rl) (he : en r = .inr (4, [.int v0, .int v1, .null])) (A : Nat → Prop) (hD : va_D A (rx_W rl ad en)) : Met l yX4_init wsX4_init ({ frames := 1, cells := 0, slots := 0, locals := 12 } : Room) (va_Pc [.ref (ad r), .int p0, .int p1, .ref o] (pC dC dI rl ad cy en)) (va_Qv (fun (_ : Unit) => True) (fun _ t => pC dC dI rl ad cy (ru_ en r (.inr (4, [.int p0, .int p1, .ref o]))) t ∧ va_D A (rx_W rl ad (ru_ en r (.inr (4, [.int p0, .int p1, .ref o]))))) A) 0 0 A := by
  refine Met.ofW (cc := cX4_init) (maxL := 4) (ret := none) (by decide) rfl ?_
  intro p e s m args below meth c s₁ B hml hv
  obtain ⟨rfl, hP, hK, hN⟩ := hv
  have hx := B.exec
  have hb := B.bytes
  have hr := B.returns
  have hts := atoms_spec (ws := wsX4_init) B.pre
  have hown : s.vm.findClass RX4 = some m.cls := findClass_of_methodNamed B.named
  have hlocks := B.notSynchronized
  have hin2 : meth.name = "<init>" := (name_of_methodNamed B.named B.method).1
  have hin4 : ∀ w ∈ wsX40, w ∈ wsX4_init := by decide +kernel
  have hS : va_S A s.heap s.heap [] := va_S.rf
  have hl := lv_entry ([.ref (ad r), .int p0, .int p1, .ref o]) (n := 4) (Nat.le_of_ble_eq_true rfl)
  rw [lg_entry_eq]
  generalize (lg_sl ([.ref (ad r), .int p0, .int p1, .ref o]) ++ List.replicate (4 - (lg_sl ([.ref (ad r), .int p0, .int p1, .ref o])).length) Slot.unset).toArray = ls at hl ⊢
  have hl : lv_has ls 4 [(0, .ref (ad r)), (1, .int p0), (2, .int p1), (3, .ref o)] := hl
  refine lv_aload_n hx hb dX4_init_0 rfl (lv_at hl 0 rfl) ?_
  refine W.objInit hx hb hown (hts (.methodLink RX4 1 objectInit) (by decide +kernel)) (hts (.instanceMethod objectInit) (by decide +kernel)) (hts _ (List.mem_cons_of_mem _ (List.mem_append_left _ (List.mem_of_getElem? (i := 2) rfl)))) rfl (by rw [hml]; exact hl.1) rfl dX4_init_1 (Nat.le_of_ble_eq_true rfl) (Nat.le_of_ble_eq_true rfl) ?_
  refine W.eq (g2 := F0 m 4 ls []) rfl ?_
  refine lv_aload_n hx hb dX4_init_4 rfl (lv_at hl 0 rfl) ?_
  refine lv_iload_n hx hb dX4_init_5 rfl (lv_at hl 1 rfl) ?_
  refine rg_putF (D := (dC, dI)) (r := r) (ci := 4) (v := .int p0) (ty := .int) (C := RX4) (T := TX4) (N := 3) hx hb hts hin4 tyX4 tyX4_ok nmX4 hown hK hP hD hS hr0 he rfl 0 (by decide) (hts (.fieldLink RX4 7 "SocietyBook$Note" "day" "I") (by decide +kernel)) (fun _ h9 => h9) rfl hin2 rfl (by decide +kernel) rfl rfl (Nat.le_of_ble_eq_true rfl) dX4_init_6 (fun H locs hP hD hS => ?_)
  replace hP : va_P (dC, dI) vwCl (rx_W rl ad (ru_ en r (.inr (4, [.int p0, .int v1, .null])))) H := hP
  replace hD : va_D A (rx_W rl ad (ru_ en r (.inr (4, [.int p0, .int v1, .null])))) := hD
  refine lv_aload_n hx hb dX4_init_9 rfl (lv_at hl 0 rfl) ?_
  refine lv_iload_n hx hb dX4_init_10 rfl (lv_at hl 2 rfl) ?_
  refine rg_putF (D := (dC, dI)) (r := r) (ci := 4) (v := .int p1) (ty := .int) (C := RX4) (T := TX4) (N := 3) hx hb hts hin4 tyX4 tyX4_ok nmX4 hown hK hP hD hS hr0 ru_s rfl 1 (by decide) (hts (.fieldLink RX4 13 "SocietyBook$Note" "toldOn" "I") (by decide +kernel)) (fun _ h9 => h9) rfl hin2 rfl (by decide +kernel) rfl rfl (Nat.le_of_ble_eq_true rfl) dX4_init_11 (fun H locs hP hD hS => ?_)
  rw [ru_ru] at hP hD
  replace hP : va_P (dC, dI) vwCl (rx_W rl ad (ru_ en r (.inr (4, [.int p0, .int p1, .null])))) H := hP
  replace hD : va_D A (rx_W rl ad (ru_ en r (.inr (4, [.int p0, .int p1, .null])))) := hD
  refine lv_aload_n hx hb dX4_init_14 rfl (lv_at hl 0 rfl) ?_
  refine lv_aload_n hx hb dX4_init_15 rfl (lv_at hl 3 rfl) ?_
  refine rg_putF (D := (dC, dI)) (r := r) (ci := 4) (v := .ref o) (ty := .object "SocietyBook$Note") (C := RX4) (T := TX4) (N := 3) hx hb hts hin4 tyX4 tyX4_ok nmX4 hown hK hP hD hS hr0 ru_s rfl 2 (by decide) (hts (.fieldLink RX4 16 "SocietyBook$Note" "earlier" "LSocietyBook$Note;") (by decide +kernel)) (fun _ h9 => h9) rfl hin2 rfl (by decide +kernel) rfl rfl (Nat.le_of_ble_eq_true rfl) dX4_init_16 (fun H locs hP hD hS => ?_)
  rw [ru_ru] at hP hD
  replace hP : va_P (dC, dI) vwCl (rx_W rl ad (ru_ en r (.inr (4, [.int p0, .int p1, .ref o])))) H := hP
  replace hD : va_D A (rx_W rl ad (ru_ en r (.inr (4, [.int p0, .int p1, .ref o])))) := hD
  exact W.vret hx hb hr (fun t ht hW => ⟨⟨(), rfl, trivial, ⟨⟨by rw [ht]; exact hP, va_K.moved hW.alike hK, nst_w hW hN⟩, hD⟩⟩, hS.F ht⟩) hS.2.2 dX4_init_19
