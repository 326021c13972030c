abbrev eI (c : ClassId) (n : Nat) (f : Nat → Int32) : va_E := .inl (c, n, .inl f)
abbrev eQ (c : ClassId) (n : Nat) (f : Nat → Option Nat) : va_E := .inl (c, n, rf_ f)
abbrev eO (c : Nat) (fs : List Value) : va_E := .inr (c, fs)
def pL (A : Nat → Prop) (dC : Nat → ClassId) (dI : Nat → Nat → Nat) (cy : Nat → ClassId) (ws : va_W) : State → Prop := fun U => (∀ q, U.heap.size ≤ q → A q) ∧ va_P (dC, dI) vwCl ws U.heap ∧ va_K (dC, dI) vwCl (tyC cy) U ∧ va_AOA .int U
theorem pl_blind {A : Nat → Prop} {av : List Value} {dC : Nat → ClassId} {dI : Nat → Nat → Nat} {cy : Nat → ClassId} {ws : va_W} : FrameBlind (va_Pc av (pL A dC dI cy ws)) := fun a U g mk q => ⟨q.1, q.2.1, q.2.2.1, va_K.moved (u := U) (U := U.calling g mk a) (Vm.Alike.refl U.vm) q.2.2.2.1, va_AOA.moved (u := U) (U := U.calling g mk a) (Vm.Alike.refl U.vm) q.2.2.2.2⟩
theorem ra_ta {U : State} {a b : ClassId} (h1 : va_RA U a (.array .int)) (h2 : va_RA U b (.array .int)) : a = b := Option.some.inj (h1.symm.trans h2)
theorem in_12 : ∀ c : ClassId, Jvm.Free.Multi.innerC c 12 (defaultValue .int) = vp_cell c (12, .inl (fun _ => 0)) := by
  intro c
  show _ = arrV c 12 (fun _ => .int 0)
  rw [← arrV_new]
  rfl
set_option maxHeartbeats 4000000 in
set_option maxRecDepth 100000 in
theorem k_X6_init (l : Launch) (dC : Nat → ClassId) (dI : Nat → Nat → Nat) (cy : Nat → ClassId) (ws : va_W) (k b : Nat) (he : ws[k]? = some (b, .inr (6, [.int 0, .int 0]))) (A : Nat → Prop) (hD : va_D A ws) : Met l yX6_init wsX6_init ({ frames := 1, cells := 0, slots := 0, locals := 12 } : Room) (va_Pc [.ref b] (pL A dC dI cy ws)) (va_Qv (fun (_ : Unit) => True) (fun u t => va_P (dC, dI) vwCl (ws) t.heap ∧ va_D A (ws)) A) 0 0 A := by
  refine Met.ofW (cc := cX6_init) (maxL := 1) (ret := none) (by decide) rfl ?_
  intro p e s m args below meth c s₁ B hml hv
  obtain ⟨rfl, hA, hP, hK, hO⟩ := hv
  have hx := B.exec
  have hb := B.bytes
  have hr := B.returns
  have hts := atoms_spec (ws := wsX6_init) B.pre
  have hown : s.vm.findClass RX6 = some m.cls := findClass_of_methodNamed B.named
  have hlocks := B.notSynchronized
  have hnm9 : meth.name = "<init>" := (name_of_methodNamed B.named B.method).1
  have hS : va_S A s.heap s.heap [] := va_S.rf
  have hl := lv_entry ([.ref b]) (n := 1) (Nat.le_of_ble_eq_true rfl)
  rw [lg_entry_eq]
  generalize (lg_sl ([.ref b]) ++ List.replicate (1 - (lg_sl ([.ref b])).length) Slot.unset).toArray = ls at hl ⊢
  have hl : lv_has ls 1 [(0, .ref b)] := hl
  refine lv_aload_n hx hb dX6_init_0 rfl (lv_at hl 0 rfl) ?_
  refine W.objInit hx hb hown (hts (.methodLink RX6 1 objectInit) (by decide +kernel)) (hts (.instanceMethod objectInit) (by decide +kernel)) (hts (.code objectInit ⟨#[0xb1]⟩ 1 none) (by decide +kernel)) rfl (by rw [hml]; exact hl.1) rfl dX6_init_1 (Nat.le_of_ble_eq_true rfl) (Nat.le_of_ble_eq_true rfl) ?_
  refine W.eq (g2 := F0 m 4 ls []) rfl ?_
  exact W.vret hx hb hr (fun t ht hW => ⟨⟨(), rfl, trivial, by rw [ht]; exact hP, hD⟩, hS.F ht⟩) hS.2.2 dX6_init_4
set_option maxHeartbeats 4000000 in
set_option maxRecDepth 100000 in
theorem k_X3_init (l : Launch) (dC : Nat → ClassId) (dI : Nat → Nat → Nat) (cy : Nat → ClassId) (ws : va_W) (k b : Nat) (he : ws[k]? = some (b, .inr (3, [.int 0, .int 0, .null, .null]))) (A : Nat → Prop) (hD : va_D A ws) : Met l yX3_init wsX3_init ({ frames := 1, cells := 2, slots := 32, locals := 12 } : Room) (va_Pc [.ref b] (pL A dC dI cy ws)) (va_Qv (fun (_ : (Nat) × (Nat)) => True) (fun u t => va_P (dC, dI) vwCl (List.set ((List.set ((List.set (ws) k (b, eO 3 [.int 0, .int 30000, .null, .null])) ++ [(u.1, eI (cy 0) 16 (fun _ => 0))]) k (b, eO 3 [.int 0, .int 30000, .ref u.1, .null])) ++ [(u.2, eI (cy 0) 16 (fun _ => 0))]) k (b, eO 3 [.int 0, .int 30000, .ref u.1, .ref u.2])) t.heap ∧ va_D A (List.set ((List.set ((List.set (ws) k (b, eO 3 [.int 0, .int 30000, .null, .null])) ++ [(u.1, eI (cy 0) 16 (fun _ => 0))]) k (b, eO 3 [.int 0, .int 30000, .ref u.1, .null])) ++ [(u.2, eI (cy 0) 16 (fun _ => 0))]) k (b, eO 3 [.int 0, .int 30000, .ref u.1, .ref u.2]))) A) 2 32 A := by
  refine Met.ofW (cc := cX3_init) (maxL := 1) (ret := none) (by decide) rfl ?_
  intro p e s m args below meth c s₁ B hml hv
  obtain ⟨rfl, hA, hP, hK, hO⟩ := hv
  have hx := B.exec
  have hb := B.bytes
  have hr := B.returns
  have hts := atoms_spec (ws := wsX3_init) B.pre
  have hown : s.vm.findClass RX3 = some m.cls := findClass_of_methodNamed B.named
  have hlocks := B.notSynchronized
  have hnm9 : meth.name = "<init>" := (name_of_methodNamed B.named B.method).1
  have hin3 : ∀ w ∈ wsX30, w ∈ wsX3_init := by decide +kernel
  have hS : va_S A s.heap s.heap [] := va_S.rf
  have hl := lv_entry ([.ref b]) (n := 1) (Nat.le_of_ble_eq_true rfl)
  rw [lg_entry_eq]
  generalize (lg_sl ([.ref b]) ++ List.replicate (1 - (lg_sl ([.ref b])).length) Slot.unset).toArray = ls at hl ⊢
  have hl : lv_has ls 1 [(0, .ref b)] := hl
  refine lv_aload_n hx hb dX3_init_0 rfl (lv_at hl 0 rfl) ?_
  refine W.objInit hx hb hown (hts (.methodLink RX3 3 objectInit) (by decide +kernel)) (hts (.instanceMethod objectInit) (by decide +kernel)) (hts (.code objectInit ⟨#[0xb1]⟩ 1 none) (by decide +kernel)) rfl (by rw [hml]; exact hl.1) rfl dX3_init_1 (Nat.le_of_ble_eq_true rfl) (Nat.le_of_ble_eq_true rfl) ?_
  refine W.eq (g2 := F0 m 4 ls []) rfl ?_
  refine lv_aload_n hx hb dX3_init_4 rfl (lv_at hl 0 rfl) ?_
  refine lv_sipush (v := 30000) hx hb dX3_init_5 (by decide) ?_
  refine va_put (D := (dC, dI)) (ci := 3) (v := .int 30000) (ty := .int) (C := RX3) (T := TX3) (N := 4) hx hb hts hin3 tyX3 tyX3_ok nmX3 hown hK hP hD hS k he rfl 1 (by decide) (hts (.fieldLink RX3 9 "SocietyBook$Medal" "within" "I") (by decide +kernel)) (fun _ h9 => h9) rfl (by decide +kernel) rfl rfl (Nat.le_of_ble_eq_true rfl) dX3_init_8 (fun H locs hP hD hS => ?_)
  replace he := gs_set (y := (b, eO 3 [.int 0, .int 30000, .null, .null])) he
  replace hP : va_P (dC, dI) vwCl (List.set (ws) k (b, eO 3 [.int 0, .int 30000, .null, .null])) H := hP
  replace hD : va_D A (List.set (ws) k (b, eO 3 [.int 0, .int 30000, .null, .null])) := hD
  refine lv_aload_n hx hb dX3_init_11 rfl (lv_at hl 0 rfl) ?_
  refine lv_bipush (v := 16) hx hb dX3_init_12 (by decide) ?_
  refine va_newa (atype := .int) (ty := .int) (a0 := (16, .inl (fun _ => 0))) hx hb (hts (.arrayClass .int) (by decide +kernel)) rfl hK hP hD hS hA ai_i (by decide) (by decide) (by decide) (Nat.le_of_ble_eq_true rfl) (Nat.le_of_ble_eq_true rfl) dX3_init_14 (fun q0 cA H hK1 hP hD hS => ?_)
  have hc := ra_ti ((hK1.2 11 _ rfl).2) ((hK.2 0 _ rfl).2)
  subst hc; clear hK1
  replace he := gs_app (z := [(q0, eI (cy 0) 16 (fun _ => 0))]) he
  replace hP : va_P (dC, dI) vwCl ((List.set (ws) k (b, eO 3 [.int 0, .int 30000, .null, .null])) ++ [(q0, eI (cy 0) 16 (fun _ => 0))]) H := hP
  replace hD : va_D A ((List.set (ws) k (b, eO 3 [.int 0, .int 30000, .null, .null])) ++ [(q0, eI (cy 0) 16 (fun _ => 0))]) := hD
  refine va_putF (D := (dC, dI)) (ci := 3) (v := .ref q0) (ty := .array .int) (C := RX3) (T := TX3) (N := 4) hx hb hts hin3 tyX3 tyX3_ok nmX3 hown hK hP hD hS k he rfl 2 (by decide) (hts (.fieldLink RX3 15 "SocietyBook$Medal" "times" "[I") (by decide +kernel)) (fun _ h9 => h9) rfl hnm9 rfl (by decide +kernel) rfl rfl (Nat.le_of_ble_eq_true rfl) dX3_init_16 (fun H locs hP hD hS => ?_)
  replace he := gs_set (y := (b, eO 3 [.int 0, .int 30000, .ref q0, .null])) he
  replace hP : va_P (dC, dI) vwCl (List.set ((List.set (ws) k (b, eO 3 [.int 0, .int 30000, .null, .null])) ++ [(q0, eI (cy 0) 16 (fun _ => 0))]) k (b, eO 3 [.int 0, .int 30000, .ref q0, .null])) H := hP
  replace hD : va_D A (List.set ((List.set (ws) k (b, eO 3 [.int 0, .int 30000, .null, .null])) ++ [(q0, eI (cy 0) 16 (fun _ => 0))]) k (b, eO 3 [.int 0, .int 30000, .ref q0, .null])) := hD
  refine lv_aload_n hx hb dX3_init_19 rfl (lv_at hl 0 rfl) ?_
  refine lv_bipush (v := 16) hx hb dX3_init_20 (by decide) ?_
  refine va_newa (atype := .int) (ty := .int) (a0 := (16, .inl (fun _ => 0))) hx hb (hts (.arrayClass .int) (by decide +kernel)) rfl hK hP hD hS hA ai_i (by decide) (by decide) (by decide) (Nat.le_of_ble_eq_true rfl) (Nat.le_of_ble_eq_true rfl) dX3_init_22 (fun q1 cA H hK1 hP hD hS => ?_)
  have hc := ra_ti ((hK1.2 11 _ rfl).2) ((hK.2 0 _ rfl).2)
  subst hc; clear hK1
  replace he := gs_app (z := [(q1, eI (cy 0) 16 (fun _ => 0))]) he
  replace hP : va_P (dC, dI) vwCl ((List.set ((List.set (ws) k (b, eO 3 [.int 0, .int 30000, .null, .null])) ++ [(q0, eI (cy 0) 16 (fun _ => 0))]) k (b, eO 3 [.int 0, .int 30000, .ref q0, .null])) ++ [(q1, eI (cy 0) 16 (fun _ => 0))]) H := hP
  replace hD : va_D A ((List.set ((List.set (ws) k (b, eO 3 [.int 0, .int 30000, .null, .null])) ++ [(q0, eI (cy 0) 16 (fun _ => 0))]) k (b, eO 3 [.int 0, .int 30000, .ref q0, .null])) ++ [(q1, eI (cy 0) 16 (fun _ => 0))]) := hD
  refine va_putF (D := (dC, dI)) (ci := 3) (v := .ref q1) (ty := .array .int) (C := RX3) (T := TX3) (N := 4) hx hb hts hin3 tyX3 tyX3_ok nmX3 hown hK hP hD hS k he rfl 3 (by decide) (hts (.fieldLink RX3 19 "SocietyBook$Medal" "lastDays" "[I") (by decide +kernel)) (fun _ h9 => h9) rfl hnm9 rfl (by decide +kernel) rfl rfl (Nat.le_of_ble_eq_true rfl) dX3_init_24 (fun H locs hP hD hS => ?_)
  replace he := gs_set (y := (b, eO 3 [.int 0, .int 30000, .ref q0, .ref q1])) he
  replace hP : va_P (dC, dI) vwCl (List.set ((List.set ((List.set (ws) k (b, eO 3 [.int 0, .int 30000, .null, .null])) ++ [(q0, eI (cy 0) 16 (fun _ => 0))]) k (b, eO 3 [.int 0, .int 30000, .ref q0, .null])) ++ [(q1, eI (cy 0) 16 (fun _ => 0))]) k (b, eO 3 [.int 0, .int 30000, .ref q0, .ref q1])) H := hP
  replace hD : va_D A (List.set ((List.set ((List.set (ws) k (b, eO 3 [.int 0, .int 30000, .null, .null])) ++ [(q0, eI (cy 0) 16 (fun _ => 0))]) k (b, eO 3 [.int 0, .int 30000, .ref q0, .null])) ++ [(q1, eI (cy 0) 16 (fun _ => 0))]) k (b, eO 3 [.int 0, .int 30000, .ref q0, .ref q1])) := hD
  exact W.vret hx hb hr (fun t ht hW => ⟨⟨(q0, q1), rfl, trivial, by rw [ht]; exact hP, hD⟩, hS.F ht⟩) hS.2.2 dX3_init_27
set_option maxHeartbeats 4000000 in
set_option maxRecDepth 100000 in
theorem k_X8_init (l : Launch) (dC : Nat → ClassId) (dI : Nat → Nat → Nat) (cy : Nat → ClassId) (ws : va_W) (k b : Nat) (he : ws[k]? = some (b, .inr (7, [.int 0, .int 0, .null]))) (A : Nat → Prop) (hD : va_D A ws) : Met l yX8_init wsX8_init ({ frames := 1, cells := 1, slots := 12, locals := 12 } : Room) (va_Pc [.ref b] (pL A dC dI cy ws)) (va_Qv (fun (_ : (Nat)) => True) (fun u t => va_P (dC, dI) vwCl (List.set ((List.set (ws) k (b, eO 7 [.int 1, .int 0, .null])) ++ [(u, eI (cy 1) 12 (fun _ => 0))]) k (b, eO 7 [.int 1, .int 0, .ref u])) t.heap ∧ va_D A (List.set ((List.set (ws) k (b, eO 7 [.int 1, .int 0, .null])) ++ [(u, eI (cy 1) 12 (fun _ => 0))]) k (b, eO 7 [.int 1, .int 0, .ref u]))) A) 1 12 A := by
  refine Met.ofW (cc := cX8_init) (maxL := 1) (ret := none) (by decide) rfl ?_
  intro p e s m args below meth c s₁ B hml hv
  obtain ⟨rfl, hA, hP, hK, hO⟩ := hv
  have hx := B.exec
  have hb := B.bytes
  have hr := B.returns
  have hts := atoms_spec (ws := wsX8_init) B.pre
  have hown : s.vm.findClass RX8 = some m.cls := findClass_of_methodNamed B.named
  have hlocks := B.notSynchronized
  have hnm9 : meth.name = "<init>" := (name_of_methodNamed B.named B.method).1
  have hin8 : ∀ w ∈ wsX80, w ∈ wsX8_init := by decide +kernel
  have hS : va_S A s.heap s.heap [] := va_S.rf
  have hl := lv_entry ([.ref b]) (n := 1) (Nat.le_of_ble_eq_true rfl)
  rw [lg_entry_eq]
  generalize (lg_sl ([.ref b]) ++ List.replicate (1 - (lg_sl ([.ref b])).length) Slot.unset).toArray = ls at hl ⊢
  have hl : lv_has ls 1 [(0, .ref b)] := hl
  refine lv_aload_n hx hb dX8_init_0 rfl (lv_at hl 0 rfl) ?_
  refine W.objInit hx hb hown (hts (.methodLink RX8 3 objectInit) (by decide +kernel)) (hts (.instanceMethod objectInit) (by decide +kernel)) (hts (.code objectInit ⟨#[0xb1]⟩ 1 none) (by decide +kernel)) rfl (by rw [hml]; exact hl.1) rfl dX8_init_1 (Nat.le_of_ble_eq_true rfl) (Nat.le_of_ble_eq_true rfl) ?_
  refine W.eq (g2 := F0 m 4 ls []) rfl ?_
  refine lv_aload_n hx hb dX8_init_4 rfl (lv_at hl 0 rfl) ?_
  refine lv_iconst (v := 1) hx hb dX8_init_5 (by decide) ?_
  refine va_put (D := (dC, dI)) (ci := 7) (v := .int 1) (ty := .boolean) (C := RX8) (T := TX8) (N := 3) hx hb hts hin8 tyX8 tyX8_ok nmX8 hown hK hP hD hS k he rfl 0 (by decide) (hts (.fieldLink RX8 9 "SocietyBook$Sheet" "missing" "Z") (by decide +kernel)) (fun _ h9 => h9) rfl (by decide +kernel) rfl rfl (Nat.le_of_ble_eq_true rfl) dX8_init_6 (fun H locs hP hD hS => ?_)
  replace he := gs_set (y := (b, eO 7 [.int 1, .int 0, .null])) he
  replace hP : va_P (dC, dI) vwCl (List.set (ws) k (b, eO 7 [.int 1, .int 0, .null])) H := hP
  replace hD : va_D A (List.set (ws) k (b, eO 7 [.int 1, .int 0, .null])) := hD
  refine lv_aload_n hx hb dX8_init_9 rfl (lv_at hl 0 rfl) ?_
  refine lv_bipush (v := 12) hx hb dX8_init_10 (by decide) ?_
  refine va_newa (atype := .byte) (ty := .byte) (a0 := (12, .inl (fun _ => 0))) hx hb (hts (.arrayClass .byte) (by decide +kernel)) rfl hK hP hD hS hA ai_b (by decide) (by decide) (by decide) (Nat.le_of_ble_eq_true rfl) (Nat.le_of_ble_eq_true rfl) dX8_init_12 (fun q0 cA H hK1 hP hD hS => ?_)
  have hc := ra_tb ((hK1.2 11 _ rfl).2) ((hK.2 1 _ rfl).2)
  subst hc; clear hK1
  replace he := gs_app (z := [(q0, eI (cy 1) 12 (fun _ => 0))]) he
  replace hP : va_P (dC, dI) vwCl ((List.set (ws) k (b, eO 7 [.int 1, .int 0, .null])) ++ [(q0, eI (cy 1) 12 (fun _ => 0))]) H := hP
  replace hD : va_D A ((List.set (ws) k (b, eO 7 [.int 1, .int 0, .null])) ++ [(q0, eI (cy 1) 12 (fun _ => 0))]) := hD
  refine va_putF (D := (dC, dI)) (ci := 7) (v := .ref q0) (ty := .array .byte) (C := RX8) (T := TX8) (N := 3) hx hb hts hin8 tyX8 tyX8_ok nmX8 hown hK hP hD hS k he rfl 2 (by decide) (hts (.fieldLink RX8 15 "SocietyBook$Sheet" "bytes" "[B") (by decide +kernel)) (fun _ h9 => h9) rfl hnm9 rfl (by decide +kernel) rfl rfl (Nat.le_of_ble_eq_true rfl) dX8_init_14 (fun H locs hP hD hS => ?_)
  replace he := gs_set (y := (b, eO 7 [.int 1, .int 0, .ref q0])) he
  replace hP : va_P (dC, dI) vwCl (List.set ((List.set (ws) k (b, eO 7 [.int 1, .int 0, .null])) ++ [(q0, eI (cy 1) 12 (fun _ => 0))]) k (b, eO 7 [.int 1, .int 0, .ref q0])) H := hP
  replace hD : va_D A (List.set ((List.set (ws) k (b, eO 7 [.int 1, .int 0, .null])) ++ [(q0, eI (cy 1) 12 (fun _ => 0))]) k (b, eO 7 [.int 1, .int 0, .ref q0])) := hD
  exact W.vret hx hb hr (fun t ht hW => ⟨⟨q0, rfl, trivial, by rw [ht]; exact hP, hD⟩, hS.F ht⟩) hS.2.2 dX8_init_17
set_option maxHeartbeats 4000000 in
set_option maxRecDepth 100000 in
theorem k_X2_init (l : Launch) (dC : Nat → ClassId) (dI : Nat → Nat → Nat) (cy : Nat → ClassId) (ws : va_W) (k b : Nat) (he : ws[k]? = some (b, .inr (2, [.null, .null, .null]))) (A : Nat → Prop) (hD : va_D A ws) : Met l yX2_init wsX2_init ({ frames := 1, cells := 9, slots := 204, locals := 12 } : Room) (va_Pc [.ref b] (pL A dC dI cy ws)) (va_Qv (fun (_ : (Nat) × (Nat → Nat) × (Nat) × (Nat)) => True) (fun u t => va_P (dC, dI) vwCl (List.set ((List.set ((List.set (((ws) ++ [(u.1, eQ (cy 10) 6 (fun i => if i < 6 then some (u.2.1 i) else none))]) ++ [((u.2.1 0), eI (cy 0) 12 (fun _ => 0)), ((u.2.1 1), eI (cy 0) 12 (fun _ => 0)), ((u.2.1 2), eI (cy 0) 12 (fun _ => 0)), ((u.2.1 3), eI (cy 0) 12 (fun _ => 0)), ((u.2.1 4), eI (cy 0) 12 (fun _ => 0)), ((u.2.1 5), eI (cy 0) 12 (fun _ => 0))]) k (b, eO 2 [.ref u.1, .null, .null])) ++ [(u.2.2.1, eI (cy 0) 63 (fun _ => 0))]) k (b, eO 2 [.ref u.1, .ref u.2.2.1, .null])) ++ [(u.2.2.2, eI (cy 0) 63 (fun _ => 0))]) k (b, eO 2 [.ref u.1, .ref u.2.2.1, .ref u.2.2.2])) t.heap ∧ va_D A (List.set ((List.set ((List.set (((ws) ++ [(u.1, eQ (cy 10) 6 (fun i => if i < 6 then some (u.2.1 i) else none))]) ++ [((u.2.1 0), eI (cy 0) 12 (fun _ => 0)), ((u.2.1 1), eI (cy 0) 12 (fun _ => 0)), ((u.2.1 2), eI (cy 0) 12 (fun _ => 0)), ((u.2.1 3), eI (cy 0) 12 (fun _ => 0)), ((u.2.1 4), eI (cy 0) 12 (fun _ => 0)), ((u.2.1 5), eI (cy 0) 12 (fun _ => 0))]) k (b, eO 2 [.ref u.1, .null, .null])) ++ [(u.2.2.1, eI (cy 0) 63 (fun _ => 0))]) k (b, eO 2 [.ref u.1, .ref u.2.2.1, .null])) ++ [(u.2.2.2, eI (cy 0) 63 (fun _ => 0))]) k (b, eO 2 [.ref u.1, .ref u.2.2.1, .ref u.2.2.2]))) A) 9 204 A := by
  refine Met.ofW (cc := cX2_init) (maxL := 1) (ret := none) (by decide) rfl ?_
  intro p e s m args below meth c s₁ B hml hv
  obtain ⟨rfl, hA, hP, hK, hO⟩ := hv
  have hx := B.exec
  have hb := B.bytes
  have hr := B.returns
  have hts := atoms_spec (ws := wsX2_init) B.pre
  have hown : s.vm.findClass RX2 = some m.cls := findClass_of_methodNamed B.named
  have hlocks := B.notSynchronized
  have hnm9 : meth.name = "<init>" := (name_of_methodNamed B.named B.method).1
  have hin2 : ∀ w ∈ wsX20, w ∈ wsX2_init := by decide +kernel
  have hS : va_S A s.heap s.heap [] := va_S.rf
  have hl := lv_entry ([.ref b]) (n := 1) (Nat.le_of_ble_eq_true rfl)
  rw [lg_entry_eq]
  generalize (lg_sl ([.ref b]) ++ List.replicate (1 - (lg_sl ([.ref b])).length) Slot.unset).toArray = ls at hl ⊢
  have hl : lv_has ls 1 [(0, .ref b)] := hl
  refine lv_aload_n hx hb dX2_init_0 rfl (lv_at hl 0 rfl) ?_
  refine W.objInit hx hb hown (hts (.methodLink RX2 3 objectInit) (by decide +kernel)) (hts (.instanceMethod objectInit) (by decide +kernel)) (hts (.code objectInit ⟨#[0xb1]⟩ 1 none) (by decide +kernel)) rfl (by rw [hml]; exact hl.1) rfl dX2_init_1 (Nat.le_of_ble_eq_true rfl) (Nat.le_of_ble_eq_true rfl) ?_
  refine W.eq (g2 := F0 m 4 ls []) rfl ?_
  refine lv_aload_n hx hb dX2_init_4 rfl (lv_at hl 0 rfl) ?_
  refine lv_bipush (v := 6) hx hb dX2_init_5 (by decide) ?_
  refine lv_bipush (v := 12) hx hb dX2_init_7 (by decide) ?_
  refine va_mna (X := ws) (L := []) (f := fun _ => .inr (0, [])) (ty := .int) (cy := cy 0) (z := (12, .inl (fun _ => 0))) (N' := 6) (K' := 12) hx hb hown (show (Cond.classLink RX2 9 ("[" ++ (FieldType.array FieldType.int).toString)).before _ s = true from by rw [show "[" ++ (FieldType.array FieldType.int).toString = "[[I" from by decide]; exact hts (.classLink RX2 9 "[[I") (by decide +kernel)) hO (hts (.arrayClass .int) (by decide +kernel)) ((hK.2 0 _ rfl).2) hK (by show va_P _ _ (_ ++ []) _; rw [List.append_nil]; exact hP) (by show va_D _ (_ ++ []); rw [List.append_nil]; exact hD) hS hA (by decide) (by decide) (by decide) (by decide) (by decide) (by decide) (by decide) rfl rfl (Nat.le_of_ble_eq_true rfl) (Nat.le_of_ble_eq_true rfl) in_12 dX2_init_9 (fun q9 r cA H _ _ hK1 hP hD hS => ?_)
  have hc := ra_ta ((hK1.2 11 _ rfl).2) ((hK.2 10 _ rfl).2)
  subst hc; clear hK1
  rw [pl_6] at hP hD
  replace he := gs_app (z := [(r 0, eI (cy 0) 12 (fun _ => 0)), (r 1, eI (cy 0) 12 (fun _ => 0)), (r 2, eI (cy 0) 12 (fun _ => 0)), (r 3, eI (cy 0) 12 (fun _ => 0)), (r 4, eI (cy 0) 12 (fun _ => 0)), (r 5, eI (cy 0) 12 (fun _ => 0))]) (gs_app (z := [(q9, eQ (cy 10) 6 (fun i => if i < 6 then some (r i) else none))]) he)
  replace hP : va_P (dC, dI) vwCl (((ws) ++ [(q9, eQ (cy 10) 6 (fun i => if i < 6 then some (r i) else none))]) ++ [(r 0, eI (cy 0) 12 (fun _ => 0)), (r 1, eI (cy 0) 12 (fun _ => 0)), (r 2, eI (cy 0) 12 (fun _ => 0)), (r 3, eI (cy 0) 12 (fun _ => 0)), (r 4, eI (cy 0) 12 (fun _ => 0)), (r 5, eI (cy 0) 12 (fun _ => 0))]) H := hP
  replace hD : va_D A (((ws) ++ [(q9, eQ (cy 10) 6 (fun i => if i < 6 then some (r i) else none))]) ++ [(r 0, eI (cy 0) 12 (fun _ => 0)), (r 1, eI (cy 0) 12 (fun _ => 0)), (r 2, eI (cy 0) 12 (fun _ => 0)), (r 3, eI (cy 0) 12 (fun _ => 0)), (r 4, eI (cy 0) 12 (fun _ => 0)), (r 5, eI (cy 0) 12 (fun _ => 0))]) := hD
  refine va_putF (D := (dC, dI)) (ci := 2) (v := .ref q9) (ty := .array (.array .int)) (C := RX2) (T := TX2) (N := 3) hx hb hts hin2 tyX2 tyX2_ok nmX2 hown hK hP hD hS k he rfl 0 (by decide) (hts (.fieldLink RX2 11 "SocietyBook$Holdings" "rows" "[[I") (by decide +kernel)) (fun _ h9 => h9) rfl hnm9 rfl (by decide +kernel) rfl rfl (Nat.le_of_ble_eq_true rfl) dX2_init_13 (fun H locs hP hD hS => ?_)
  replace he := gs_set (y := (b, eO 2 [.ref q9, .null, .null])) he
  replace hP : va_P (dC, dI) vwCl (List.set (((ws) ++ [(q9, eQ (cy 10) 6 (fun i => if i < 6 then some (r i) else none))]) ++ [(r 0, eI (cy 0) 12 (fun _ => 0)), (r 1, eI (cy 0) 12 (fun _ => 0)), (r 2, eI (cy 0) 12 (fun _ => 0)), (r 3, eI (cy 0) 12 (fun _ => 0)), (r 4, eI (cy 0) 12 (fun _ => 0)), (r 5, eI (cy 0) 12 (fun _ => 0))]) k (b, eO 2 [.ref q9, .null, .null])) H := hP
  replace hD : va_D A (List.set (((ws) ++ [(q9, eQ (cy 10) 6 (fun i => if i < 6 then some (r i) else none))]) ++ [(r 0, eI (cy 0) 12 (fun _ => 0)), (r 1, eI (cy 0) 12 (fun _ => 0)), (r 2, eI (cy 0) 12 (fun _ => 0)), (r 3, eI (cy 0) 12 (fun _ => 0)), (r 4, eI (cy 0) 12 (fun _ => 0)), (r 5, eI (cy 0) 12 (fun _ => 0))]) k (b, eO 2 [.ref q9, .null, .null])) := hD
  refine lv_aload_n hx hb dX2_init_16 rfl (lv_at hl 0 rfl) ?_
  refine lv_bipush (v := 63) hx hb dX2_init_17 (by decide) ?_
  refine va_newa (atype := .int) (ty := .int) (a0 := (63, .inl (fun _ => 0))) hx hb (hts (.arrayClass .int) (by decide +kernel)) rfl hK hP hD hS hA ai_i (by decide) (by decide) (by decide) (Nat.le_of_ble_eq_true rfl) (Nat.le_of_ble_eq_true rfl) dX2_init_19 (fun q0 cA H hK1 hP hD hS => ?_)
  have hc := ra_ti ((hK1.2 11 _ rfl).2) ((hK.2 0 _ rfl).2)
  subst hc; clear hK1
  replace he := gs_app (z := [(q0, eI (cy 0) 63 (fun _ => 0))]) he
  replace hP : va_P (dC, dI) vwCl ((List.set (((ws) ++ [(q9, eQ (cy 10) 6 (fun i => if i < 6 then some (r i) else none))]) ++ [(r 0, eI (cy 0) 12 (fun _ => 0)), (r 1, eI (cy 0) 12 (fun _ => 0)), (r 2, eI (cy 0) 12 (fun _ => 0)), (r 3, eI (cy 0) 12 (fun _ => 0)), (r 4, eI (cy 0) 12 (fun _ => 0)), (r 5, eI (cy 0) 12 (fun _ => 0))]) k (b, eO 2 [.ref q9, .null, .null])) ++ [(q0, eI (cy 0) 63 (fun _ => 0))]) H := hP
  replace hD : va_D A ((List.set (((ws) ++ [(q9, eQ (cy 10) 6 (fun i => if i < 6 then some (r i) else none))]) ++ [(r 0, eI (cy 0) 12 (fun _ => 0)), (r 1, eI (cy 0) 12 (fun _ => 0)), (r 2, eI (cy 0) 12 (fun _ => 0)), (r 3, eI (cy 0) 12 (fun _ => 0)), (r 4, eI (cy 0) 12 (fun _ => 0)), (r 5, eI (cy 0) 12 (fun _ => 0))]) k (b, eO 2 [.ref q9, .null, .null])) ++ [(q0, eI (cy 0) 63 (fun _ => 0))]) := hD
  refine va_putF (D := (dC, dI)) (ci := 2) (v := .ref q0) (ty := .array .int) (C := RX2) (T := TX2) (N := 3) hx hb hts hin2 tyX2 tyX2_ok nmX2 hown hK hP hD hS k he rfl 1 (by decide) (hts (.fieldLink RX2 16 "SocietyBook$Holdings" "given" "[I") (by decide +kernel)) (fun _ h9 => h9) rfl hnm9 rfl (by decide +kernel) rfl rfl (Nat.le_of_ble_eq_true rfl) dX2_init_21 (fun H locs hP hD hS => ?_)
  replace he := gs_set (y := (b, eO 2 [.ref q9, .ref q0, .null])) he
  replace hP : va_P (dC, dI) vwCl (List.set ((List.set (((ws) ++ [(q9, eQ (cy 10) 6 (fun i => if i < 6 then some (r i) else none))]) ++ [(r 0, eI (cy 0) 12 (fun _ => 0)), (r 1, eI (cy 0) 12 (fun _ => 0)), (r 2, eI (cy 0) 12 (fun _ => 0)), (r 3, eI (cy 0) 12 (fun _ => 0)), (r 4, eI (cy 0) 12 (fun _ => 0)), (r 5, eI (cy 0) 12 (fun _ => 0))]) k (b, eO 2 [.ref q9, .null, .null])) ++ [(q0, eI (cy 0) 63 (fun _ => 0))]) k (b, eO 2 [.ref q9, .ref q0, .null])) H := hP
  replace hD : va_D A (List.set ((List.set (((ws) ++ [(q9, eQ (cy 10) 6 (fun i => if i < 6 then some (r i) else none))]) ++ [(r 0, eI (cy 0) 12 (fun _ => 0)), (r 1, eI (cy 0) 12 (fun _ => 0)), (r 2, eI (cy 0) 12 (fun _ => 0)), (r 3, eI (cy 0) 12 (fun _ => 0)), (r 4, eI (cy 0) 12 (fun _ => 0)), (r 5, eI (cy 0) 12 (fun _ => 0))]) k (b, eO 2 [.ref q9, .null, .null])) ++ [(q0, eI (cy 0) 63 (fun _ => 0))]) k (b, eO 2 [.ref q9, .ref q0, .null])) := hD
  refine lv_aload_n hx hb dX2_init_24 rfl (lv_at hl 0 rfl) ?_
  refine lv_bipush (v := 63) hx hb dX2_init_25 (by decide) ?_
  refine va_newa (atype := .int) (ty := .int) (a0 := (63, .inl (fun _ => 0))) hx hb (hts (.arrayClass .int) (by decide +kernel)) rfl hK hP hD hS hA ai_i (by decide) (by decide) (by decide) (Nat.le_of_ble_eq_true rfl) (Nat.le_of_ble_eq_true rfl) dX2_init_27 (fun q1 cA H hK1 hP hD hS => ?_)
  have hc := ra_ti ((hK1.2 11 _ rfl).2) ((hK.2 0 _ rfl).2)
  subst hc; clear hK1
  replace he := gs_app (z := [(q1, eI (cy 0) 63 (fun _ => 0))]) he
  replace hP : va_P (dC, dI) vwCl ((List.set ((List.set (((ws) ++ [(q9, eQ (cy 10) 6 (fun i => if i < 6 then some (r i) else none))]) ++ [(r 0, eI (cy 0) 12 (fun _ => 0)), (r 1, eI (cy 0) 12 (fun _ => 0)), (r 2, eI (cy 0) 12 (fun _ => 0)), (r 3, eI (cy 0) 12 (fun _ => 0)), (r 4, eI (cy 0) 12 (fun _ => 0)), (r 5, eI (cy 0) 12 (fun _ => 0))]) k (b, eO 2 [.ref q9, .null, .null])) ++ [(q0, eI (cy 0) 63 (fun _ => 0))]) k (b, eO 2 [.ref q9, .ref q0, .null])) ++ [(q1, eI (cy 0) 63 (fun _ => 0))]) H := hP
  replace hD : va_D A ((List.set ((List.set (((ws) ++ [(q9, eQ (cy 10) 6 (fun i => if i < 6 then some (r i) else none))]) ++ [(r 0, eI (cy 0) 12 (fun _ => 0)), (r 1, eI (cy 0) 12 (fun _ => 0)), (r 2, eI (cy 0) 12 (fun _ => 0)), (r 3, eI (cy 0) 12 (fun _ => 0)), (r 4, eI (cy 0) 12 (fun _ => 0)), (r 5, eI (cy 0) 12 (fun _ => 0))]) k (b, eO 2 [.ref q9, .null, .null])) ++ [(q0, eI (cy 0) 63 (fun _ => 0))]) k (b, eO 2 [.ref q9, .ref q0, .null])) ++ [(q1, eI (cy 0) 63 (fun _ => 0))]) := hD
  refine va_putF (D := (dC, dI)) (ci := 2) (v := .ref q1) (ty := .array .int) (C := RX2) (T := TX2) (N := 3) hx hb hts hin2 tyX2 tyX2_ok nmX2 hown hK hP hD hS k he rfl 2 (by decide) (hts (.fieldLink RX2 20 "SocietyBook$Holdings" "taken" "[I") (by decide +kernel)) (fun _ h9 => h9) rfl hnm9 rfl (by decide +kernel) rfl rfl (Nat.le_of_ble_eq_true rfl) dX2_init_29 (fun H locs hP hD hS => ?_)
  replace he := gs_set (y := (b, eO 2 [.ref q9, .ref q0, .ref q1])) he
  replace hP : va_P (dC, dI) vwCl (List.set ((List.set ((List.set (((ws) ++ [(q9, eQ (cy 10) 6 (fun i => if i < 6 then some (r i) else none))]) ++ [(r 0, eI (cy 0) 12 (fun _ => 0)), (r 1, eI (cy 0) 12 (fun _ => 0)), (r 2, eI (cy 0) 12 (fun _ => 0)), (r 3, eI (cy 0) 12 (fun _ => 0)), (r 4, eI (cy 0) 12 (fun _ => 0)), (r 5, eI (cy 0) 12 (fun _ => 0))]) k (b, eO 2 [.ref q9, .null, .null])) ++ [(q0, eI (cy 0) 63 (fun _ => 0))]) k (b, eO 2 [.ref q9, .ref q0, .null])) ++ [(q1, eI (cy 0) 63 (fun _ => 0))]) k (b, eO 2 [.ref q9, .ref q0, .ref q1])) H := hP
  replace hD : va_D A (List.set ((List.set ((List.set (((ws) ++ [(q9, eQ (cy 10) 6 (fun i => if i < 6 then some (r i) else none))]) ++ [(r 0, eI (cy 0) 12 (fun _ => 0)), (r 1, eI (cy 0) 12 (fun _ => 0)), (r 2, eI (cy 0) 12 (fun _ => 0)), (r 3, eI (cy 0) 12 (fun _ => 0)), (r 4, eI (cy 0) 12 (fun _ => 0)), (r 5, eI (cy 0) 12 (fun _ => 0))]) k (b, eO 2 [.ref q9, .null, .null])) ++ [(q0, eI (cy 0) 63 (fun _ => 0))]) k (b, eO 2 [.ref q9, .ref q0, .null])) ++ [(q1, eI (cy 0) 63 (fun _ => 0))]) k (b, eO 2 [.ref q9, .ref q0, .ref q1])) := hD
  exact W.vret hx hb hr (fun t ht hW => ⟨⟨(q9, r, q0, q1), rfl, trivial, by rw [ht]; exact hP, hD⟩, hS.F ht⟩) hS.2.2 dX2_init_32
