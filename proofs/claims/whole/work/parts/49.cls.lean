section RN2
variable {p : Program} {l : Launch} {e : Env} {R : Room} {s : State} {m : MethodId} {args : Array Value} {below : List Frame} {meth : Method} {c : Code} {H : Heap} {locs : List Loc} {cells slots : Nat} {Q : State → Prop} {cc : ByteArray} {pc : Nat} {ls : Array Slot} {rest : List Value} {D : va_G} {cl : List vw_C} {A : Nat → Prop} {tys : List (ClassId × FieldType)} {H0 : Heap} {rl : List (Nat × Nat)} {ad : Nat × Nat → Nat} {en : Nat × Nat → va_E} {r : Nat × Nat}
theorem rg_newa (hexec : p.tables.exec = Jvm.exec) (hb : c.code = cc) {atype : ArrayType} (harr : (Cond.arrayClass (newarray.typeOf atype)).before args s = true) {ty : FieldType} (hty : newarray.typeOf atype = ty) (hK : va_K D cl tys s) (hP : va_P D cl (rx_W rl ad en) H) (hD : va_D A (rx_W rl ad en)) (hS : va_S A H0 H locs) (hA : ∀ q, H0.size ≤ q → A q)
    {n : Int32} {N' : Nat} {a0 : vp_A} (ha : ∀ cA : ClassId, vp_cell cA a0 = arrV cA N' (fun _ => defaultValue ty)) (hn : ¬ n < 0) (hN : n.toNatClampNeg = N') (hbytes : N' * componentBytes ty ≤ 536870912) (hcells : cells + 1 ≤ R.cells) (hslots : slots + N' ≤ R.slots) (hdg : decode cc pc = .ok (.newarray atype, 2)) (hnr : r ∉ rl)
    (kk : ∀ (a2 : Nat × Nat → Nat) (cA : ClassId) (H1 : Heap), (∀ x, ¬ x = r → a2 x = ad x) → va_RA s cA ty → va_P D cl (rx_W (rl ++ [r]) a2 (ru_ en r (.inl (cA, a0)))) H1 → va_D A (rx_W (rl ++ [r]) a2 (ru_ en r (.inl (cA, a0)))) → va_S A H0 H1 locs →
      W p l e R s m args below meth c H1 locs (cells + 1) (slots + N') Q (F0 m (pc + 2) ls (.ref (a2 r) :: rest))) : W p l e R s m args below meth c H locs cells slots Q (F0 m pc ls (.int n :: rest)) := by
  refine va_newa hexec hb harr hty hK hP hD hS hA ha hn hN hbytes hcells hslots hdg (fun q cA H1 hK1 hP1 hD1 hS1 => ?_)
  rw [rx_push hnr] at hP1 hD1
  have hra : va_RA s cA ty := (hK1.2 tys.length (cA, ty) (by rw [List.getElem?_append_right (Nat.le_refl _), Nat.sub_self]; rfl)).2
  have k := kk (au_ ad r q) cA H1 (fun x hx => au_n hx) hra hP1 hD1 hS1
  rwa [au_s] at k
end RN2
theorem ai_i {N : Nat} : ∀ cA : ClassId, vp_cell cA (N, .inl (fun _ => 0)) = arrV cA N (fun _ => defaultValue .int) := fun _ => rfl
theorem ai_b {N : Nat} : ∀ cA : ClassId, vp_cell cA (N, .inl (fun _ => 0)) = arrV cA N (fun _ => defaultValue .byte) := fun _ => rfl
theorem ai_z {N : Nat} : ∀ cA : ClassId, vp_cell cA (N, .inl (fun _ => 0)) = arrV cA N (fun _ => defaultValue .boolean) := fun _ => rfl
theorem ra_ti {U : State} {a b : ClassId} (h1 : va_RA U a .int) (h2 : va_RA U b .int) : a = b := Option.some.inj (h1.symm.trans h2)
theorem ra_tb {U : State} {a b : ClassId} (h1 : va_RA U a .byte) (h2 : va_RA U b .byte) : a = b := Option.some.inj (h1.symm.trans h2)
theorem ra_tz {U : State} {a b : ClassId} (h1 : va_RA U a .boolean) (h2 : va_RA U b .boolean) : a = b := Option.some.inj (h1.symm.trans h2)
theorem ru_cm {en : Nat × Nat → va_E} {r x : Nat × Nat} {e f : va_E} (h : ¬ x = r) : ru_ (ru_ en r e) x f = ru_ (ru_ en x f) r e := by
  funext y
  unfold ru_
  by_cases h1 : y = x
  · rw [if_pos h1]
    by_cases h2 : y = r
    · exact absurd (h1.symm.trans h2) h
    · rw [if_neg h2, if_pos h1]
  · rw [if_neg h1]
    by_cases h2 : y = r
    · rw [if_pos h2, if_pos h2]
    · rw [if_neg h2, if_neg h2, if_neg h1]
theorem ru_c1 {en : Nat × Nat → va_E} {r r2 : Nat × Nat} {e e2 f : va_E} (h : ¬ r2 = r) : ru_ (ru_ (ru_ en r e) r2 f) r e2 = ru_ (ru_ en r e2) r2 f := by
  rw [ru_cm h, ru_ru, ← ru_cm h]
theorem ru_c2 {en : Nat × Nat → va_E} {r r2 r3 : Nat × Nat} {e e2 f g : va_E} (h : ¬ r2 = r) (h3 : ¬ r3 = r) : ru_ (ru_ (ru_ (ru_ en r e) r2 f) r3 g) r e2 = ru_ (ru_ (ru_ en r e2) r2 f) r3 g := by
  rw [ru_cm (en := ru_ (ru_ en r e) r2 f) (r := r3) (x := r) (e := g) (f := e2) (fun q => h3 q.symm), ru_c1 h]
def pN (A : Nat → Prop) (dC : Nat → ClassId) (dI : Nat → Nat → Nat) (rl : List (Nat × Nat)) (ad : Nat × Nat → Nat) (cy : Nat → ClassId) (en : Nat × Nat → va_E) : State → Prop := fun U => va_AO RX4 U ∧ pA A dC dI rl ad cy en U
theorem pn_blind {A : Nat → Prop} {av : List Value} {dC : Nat → ClassId} {dI : Nat → Nat → Nat} {rl : List (Nat × Nat)} {ad : Nat × Nat → Nat} {cy : Nat → ClassId} {en : Nat × Nat → va_E} : FrameBlind (va_Pc av (pN A dC dI rl ad cy en)) := fun a U g mk q => ⟨q.1, va_AO.moved (u := U) (U := U.calling g mk a) (Vm.Alike.refl U.vm) q.2.1, q.2.2.1, q.2.2.2.1, va_K.moved (u := U) (U := U.calling g mk a) (Vm.Alike.refl U.vm) q.2.2.2.2.1, nst_b q.2.2.2.2.2⟩

set_option maxHeartbeats 4000000 in
set_option maxRecDepth 100000 in
theorem c_X5_init (l : Launch) (dC : Nat → ClassId) (dI : Nat → Nat → Nat) (rl : List (Nat × Nat)) (ad : Nat × Nat → Nat) (cy : Nat → ClassId) (en : Nat × Nat → va_E) (r r2 : Nat × Nat) (p0 : Int32) (p1 : Int32) (p2 : Int32) (p3 : Int32)  (hr0 : r ∈ rl) (hn2 : r2 ∉ rl) (he : en r = .inr (5, [.int 0, .int 0, .int 0, .int 0, .int 0, .int 0, .int 0, .int 0, .null])) (A : Nat → Prop) (hD : va_D A (rx_W rl ad en)) : Met l yX5_init wsX5_init ({ frames := 1, cells := 1, slots := 3, locals := 12 } : Room) (va_Pc [.ref (ad r), .int p0, .int p1, .int p2, .int p3] (pN A dC dI rl ad cy en)) (va_Qv (fun (a2 : Nat × Nat → Nat) => ∀ x, ¬ x = r2 → a2 x = ad x) (fun a2 t => pC dC dI (rl ++ [r2]) a2 cy (ru_ (ru_ en r (.inr (5, [.int p0, .int p1, .int p2, .int p3, .int (-9), .int (-9), .int (-9), .int (-9), .ref (a2 r2)]))) r2 (.inl (cy 7, 3, rf_ (fun _ => none)))) t ∧ va_D A (rx_W (rl ++ [r2]) a2 (ru_ (ru_ en r (.inr (5, [.int p0, .int p1, .int p2, .int p3, .int (-9), .int (-9), .int (-9), .int (-9), .ref (a2 r2)]))) r2 (.inl (cy 7, 3, rf_ (fun _ => none)))))) A) 1 3 A := by
  refine Met.ofW (cc := cX5_init) (maxL := 5) (ret := none) (by decide) rfl ?_
  intro p e s m args below meth c s₁ B hml hv
  obtain ⟨rfl, hO, hA, hP, hK, hN⟩ := hv
  have hq2 : ¬ r = r2 := fun q => hn2 (q ▸ hr0)
  have hx := B.exec
  have hb := B.bytes
  have hr := B.returns
  have hts := atoms_spec (ws := wsX5_init) B.pre
  have hown : s.vm.findClass RX5 = some m.cls := findClass_of_methodNamed B.named
  have hlocks := B.notSynchronized
  have hin2 : meth.name = "<init>" := (name_of_methodNamed B.named B.method).1
  have hin5 : ∀ w ∈ wsX50, w ∈ wsX5_init := by decide +kernel
  have hS : va_S A s.heap s.heap [] := va_S.rf
  have hl := lv_entry ([.ref (ad r), .int p0, .int p1, .int p2, .int p3]) (n := 5) (Nat.le_of_ble_eq_true rfl)
  rw [lg_entry_eq]
  generalize (lg_sl ([.ref (ad r), .int p0, .int p1, .int p2, .int p3]) ++ List.replicate (5 - (lg_sl ([.ref (ad r), .int p0, .int p1, .int p2, .int p3])).length) Slot.unset).toArray = ls at hl ⊢
  have hl : lv_has ls 5 [(0, .ref (ad r)), (1, .int p0), (2, .int p1), (3, .int p2), (4, .int p3)] := hl
  refine lv_aload_n hx hb dX5_init_0 rfl (lv_at hl 0 rfl) ?_
  refine W.objInit hx hb hown (hts (.methodLink RX5 3 objectInit) (by decide +kernel)) (hts (.instanceMethod objectInit) (by decide +kernel)) (hts _ (List.mem_cons_of_mem _ (List.mem_append_left _ (List.mem_of_getElem? (i := 2) rfl)))) rfl (by rw [hml]; exact hl.1) rfl dX5_init_1 (Nat.le_of_ble_eq_true rfl) (Nat.le_of_ble_eq_true rfl) ?_
  refine W.eq (g2 := F0 m 4 ls []) rfl ?_
  refine lv_aload_n hx hb dX5_init_4 rfl (lv_at hl 0 rfl) ?_
  refine lv_bipush (v := (-9)) hx hb dX5_init_5 (by decide) ?_
  refine rg_put (D := (dC, dI)) (r := r) (ci := 5) (v := .int (-9)) (ty := .int) (C := RX5) (T := TX5) (N := 9) hx hb hts hin5 tyX5 tyX5_ok nmX5 hown hK hP hD hS hr0 he rfl 4 (by decide) (hts (.fieldLink RX5 9 "SocietyBook$Paper" "sentOn" "I") (by decide +kernel)) (fun _ h9 => h9) rfl (by decide +kernel) rfl rfl (Nat.le_of_ble_eq_true rfl) dX5_init_7 (fun H locs hP hD hS => ?_)
  replace hP : va_P (dC, dI) vwCl (rx_W rl ad (ru_ en r (.inr (5, [.int 0, .int 0, .int 0, .int 0, .int (-9), .int 0, .int 0, .int 0, .null])))) H := hP
  replace hD : va_D A (rx_W rl ad (ru_ en r (.inr (5, [.int 0, .int 0, .int 0, .int 0, .int (-9), .int 0, .int 0, .int 0, .null])))) := hD
  refine lv_aload_n hx hb dX5_init_10 rfl (lv_at hl 0 rfl) ?_
  refine lv_bipush (v := (-9)) hx hb dX5_init_11 (by decide) ?_
  refine rg_put (D := (dC, dI)) (r := r) (ci := 5) (v := .int (-9)) (ty := .int) (C := RX5) (T := TX5) (N := 9) hx hb hts hin5 tyX5 tyX5_ok nmX5 hown hK hP hD hS hr0 ru_s rfl 5 (by decide) (hts (.fieldLink RX5 15 "SocietyBook$Paper" "spanStart" "I") (by decide +kernel)) (fun _ h9 => h9) rfl (by decide +kernel) rfl rfl (Nat.le_of_ble_eq_true rfl) dX5_init_13 (fun H locs hP hD hS => ?_)
  rw [ru_ru] at hP hD
  replace hP : va_P (dC, dI) vwCl (rx_W rl ad (ru_ en r (.inr (5, [.int 0, .int 0, .int 0, .int 0, .int (-9), .int (-9), .int 0, .int 0, .null])))) H := hP
  replace hD : va_D A (rx_W rl ad (ru_ en r (.inr (5, [.int 0, .int 0, .int 0, .int 0, .int (-9), .int (-9), .int 0, .int 0, .null])))) := hD
  refine lv_aload_n hx hb dX5_init_16 rfl (lv_at hl 0 rfl) ?_
  refine lv_bipush (v := (-9)) hx hb dX5_init_17 (by decide) ?_
  refine rg_put (D := (dC, dI)) (r := r) (ci := 5) (v := .int (-9)) (ty := .int) (C := RX5) (T := TX5) (N := 9) hx hb hts hin5 tyX5 tyX5_ok nmX5 hown hK hP hD hS hr0 ru_s rfl 6 (by decide) (hts (.fieldLink RX5 18 "SocietyBook$Paper" "spanEnd" "I") (by decide +kernel)) (fun _ h9 => h9) rfl (by decide +kernel) rfl rfl (Nat.le_of_ble_eq_true rfl) dX5_init_19 (fun H locs hP hD hS => ?_)
  rw [ru_ru] at hP hD
  replace hP : va_P (dC, dI) vwCl (rx_W rl ad (ru_ en r (.inr (5, [.int 0, .int 0, .int 0, .int 0, .int (-9), .int (-9), .int (-9), .int 0, .null])))) H := hP
  replace hD : va_D A (rx_W rl ad (ru_ en r (.inr (5, [.int 0, .int 0, .int 0, .int 0, .int (-9), .int (-9), .int (-9), .int 0, .null])))) := hD
  refine lv_aload_n hx hb dX5_init_22 rfl (lv_at hl 0 rfl) ?_
  refine lv_bipush (v := (-9)) hx hb dX5_init_23 (by decide) ?_
  refine rg_put (D := (dC, dI)) (r := r) (ci := 5) (v := .int (-9)) (ty := .int) (C := RX5) (T := TX5) (N := 9) hx hb hts hin5 tyX5 tyX5_ok nmX5 hown hK hP hD hS hr0 ru_s rfl 7 (by decide) (hts (.fieldLink RX5 21 "SocietyBook$Paper" "openedOn" "I") (by decide +kernel)) (fun _ h9 => h9) rfl (by decide +kernel) rfl rfl (Nat.le_of_ble_eq_true rfl) dX5_init_25 (fun H locs hP hD hS => ?_)
  rw [ru_ru] at hP hD
  replace hP : va_P (dC, dI) vwCl (rx_W rl ad (ru_ en r (.inr (5, [.int 0, .int 0, .int 0, .int 0, .int (-9), .int (-9), .int (-9), .int (-9), .null])))) H := hP
  replace hD : va_D A (rx_W rl ad (ru_ en r (.inr (5, [.int 0, .int 0, .int 0, .int 0, .int (-9), .int (-9), .int (-9), .int (-9), .null])))) := hD
  refine lv_aload_n hx hb dX5_init_28 rfl (lv_at hl 0 rfl) ?_
  refine lv_iconst (v := 3) hx hb dX5_init_29 (by decide) ?_
  refine rg_newq (r := r2) hx hb hown (hts (.classLink RX5 24 RX4) (by decide +kernel)) hO hK hP hD hS hA (N' := 3) (by decide) (by decide) (by decide) (Nat.le_of_ble_eq_true rfl) (Nat.le_of_ble_eq_true rfl) dX5_init_30 hn2 (fun a2 cA H h2 hra _ hP hD hS => ?_)
  have hc := ra_one hra ((hK.2 7 _ rfl).2)
  subst hc
  have hw2 : ad r = a2 r := (h2 r hq2).symm
  refine W.eq (g2 := F0 m 33 ls (.ref (a2 r2) :: .ref (a2 r) :: [])) (by rw [hw2]) ?_
  rw [hw2] at hl
  replace hP : va_P (dC, dI) vwCl (rx_W (rl ++ [r2]) a2 (ru_ (ru_ en r (.inr (5, [.int 0, .int 0, .int 0, .int 0, .int (-9), .int (-9), .int (-9), .int (-9), .null]))) r2 (.inl (cy 7, 3, rf_ (fun _ => none))))) H := hP
  replace hD : va_D A (rx_W (rl ++ [r2]) a2 (ru_ (ru_ en r (.inr (5, [.int 0, .int 0, .int 0, .int 0, .int (-9), .int (-9), .int (-9), .int (-9), .null]))) r2 (.inl (cy 7, 3, rf_ (fun _ => none))))) := hD
  refine rg_putF (D := (dC, dI)) (r := r) (ci := 5) (v := .ref (a2 r2)) (ty := .array (.object "SocietyBook$Note")) (C := RX5) (T := TX5) (N := 9) hx hb hts hin5 tyX5 tyX5_ok nmX5 hown hK hP hD hS (List.mem_append_left _ hr0) ((ru_n hq2).trans ru_s) rfl 8 (by decide) (hts (.fieldLink RX5 26 "SocietyBook$Paper" "lastNotes" "[LSocietyBook$Note;") (by decide +kernel)) (fun _ h9 => h9) rfl hin2 rfl (by decide +kernel) rfl rfl (Nat.le_of_ble_eq_true rfl) dX5_init_33 (fun H locs hP hD hS => ?_)
  rw [ru_c1 (fun q => hq2 q.symm)] at hP hD
  replace hP : va_P (dC, dI) vwCl (rx_W (rl ++ [r2]) a2 (ru_ (ru_ en r (.inr (5, [.int 0, .int 0, .int 0, .int 0, .int (-9), .int (-9), .int (-9), .int (-9), .ref (a2 r2)]))) r2 (.inl (cy 7, 3, rf_ (fun _ => none))))) H := hP
  replace hD : va_D A (rx_W (rl ++ [r2]) a2 (ru_ (ru_ en r (.inr (5, [.int 0, .int 0, .int 0, .int 0, .int (-9), .int (-9), .int (-9), .int (-9), .ref (a2 r2)]))) r2 (.inl (cy 7, 3, rf_ (fun _ => none))))) := hD
  refine lv_aload_n hx hb dX5_init_36 rfl (lv_at hl 0 rfl) ?_
  refine lv_iload_n hx hb dX5_init_37 rfl (lv_at hl 1 rfl) ?_
  refine rg_putF (D := (dC, dI)) (r := r) (ci := 5) (v := .int p0) (ty := .int) (C := RX5) (T := TX5) (N := 9) hx hb hts hin5 tyX5 tyX5_ok nmX5 hown hK hP hD hS (List.mem_append_left _ hr0) ((ru_n hq2).trans ru_s) rfl 0 (by decide) (hts (.fieldLink RX5 30 "SocietyBook$Paper" "kind" "I") (by decide +kernel)) (fun _ h9 => h9) rfl hin2 rfl (by decide +kernel) rfl rfl (Nat.le_of_ble_eq_true rfl) dX5_init_38 (fun H locs hP hD hS => ?_)
  rw [ru_c1 (fun q => hq2 q.symm)] at hP hD
  replace hP : va_P (dC, dI) vwCl (rx_W (rl ++ [r2]) a2 (ru_ (ru_ en r (.inr (5, [.int p0, .int 0, .int 0, .int 0, .int (-9), .int (-9), .int (-9), .int (-9), .ref (a2 r2)]))) r2 (.inl (cy 7, 3, rf_ (fun _ => none))))) H := hP
  replace hD : va_D A (rx_W (rl ++ [r2]) a2 (ru_ (ru_ en r (.inr (5, [.int p0, .int 0, .int 0, .int 0, .int (-9), .int (-9), .int (-9), .int (-9), .ref (a2 r2)]))) r2 (.inl (cy 7, 3, rf_ (fun _ => none))))) := hD
  refine lv_aload_n hx hb dX5_init_41 rfl (lv_at hl 0 rfl) ?_
  refine lv_iload_n hx hb dX5_init_42 rfl (lv_at hl 2 rfl) ?_
  refine rg_putF (D := (dC, dI)) (r := r) (ci := 5) (v := .int p1) (ty := .int) (C := RX5) (T := TX5) (N := 9) hx hb hts hin5 tyX5 tyX5_ok nmX5 hown hK hP hD hS (List.mem_append_left _ hr0) ((ru_n hq2).trans ru_s) rfl 1 (by decide) (hts (.fieldLink RX5 33 "SocietyBook$Paper" "author" "I") (by decide +kernel)) (fun _ h9 => h9) rfl hin2 rfl (by decide +kernel) rfl rfl (Nat.le_of_ble_eq_true rfl) dX5_init_43 (fun H locs hP hD hS => ?_)
  rw [ru_c1 (fun q => hq2 q.symm)] at hP hD
  replace hP : va_P (dC, dI) vwCl (rx_W (rl ++ [r2]) a2 (ru_ (ru_ en r (.inr (5, [.int p0, .int p1, .int 0, .int 0, .int (-9), .int (-9), .int (-9), .int (-9), .ref (a2 r2)]))) r2 (.inl (cy 7, 3, rf_ (fun _ => none))))) H := hP
  replace hD : va_D A (rx_W (rl ++ [r2]) a2 (ru_ (ru_ en r (.inr (5, [.int p0, .int p1, .int 0, .int 0, .int (-9), .int (-9), .int (-9), .int (-9), .ref (a2 r2)]))) r2 (.inl (cy 7, 3, rf_ (fun _ => none))))) := hD
  refine lv_aload_n hx hb dX5_init_46 rfl (lv_at hl 0 rfl) ?_
  refine lv_iload_n hx hb dX5_init_47 rfl (lv_at hl 3 rfl) ?_
  refine rg_putF (D := (dC, dI)) (r := r) (ci := 5) (v := .int p2) (ty := .int) (C := RX5) (T := TX5) (N := 9) hx hb hts hin5 tyX5 tyX5_ok nmX5 hown hK hP hD hS (List.mem_append_left _ hr0) ((ru_n hq2).trans ru_s) rfl 2 (by decide) (hts (.fieldLink RX5 36 "SocietyBook$Paper" "claims" "I") (by decide +kernel)) (fun _ h9 => h9) rfl hin2 rfl (by decide +kernel) rfl rfl (Nat.le_of_ble_eq_true rfl) dX5_init_48 (fun H locs hP hD hS => ?_)
  rw [ru_c1 (fun q => hq2 q.symm)] at hP hD
  replace hP : va_P (dC, dI) vwCl (rx_W (rl ++ [r2]) a2 (ru_ (ru_ en r (.inr (5, [.int p0, .int p1, .int p2, .int 0, .int (-9), .int (-9), .int (-9), .int (-9), .ref (a2 r2)]))) r2 (.inl (cy 7, 3, rf_ (fun _ => none))))) H := hP
  replace hD : va_D A (rx_W (rl ++ [r2]) a2 (ru_ (ru_ en r (.inr (5, [.int p0, .int p1, .int p2, .int 0, .int (-9), .int (-9), .int (-9), .int (-9), .ref (a2 r2)]))) r2 (.inl (cy 7, 3, rf_ (fun _ => none))))) := hD
  refine lv_aload_n hx hb dX5_init_51 rfl (lv_at hl 0 rfl) ?_
  refine lv_iload hx hb dX5_init_52 (lv_at hl 4 rfl) ?_
  refine rg_putF (D := (dC, dI)) (r := r) (ci := 5) (v := .int p3) (ty := .int) (C := RX5) (T := TX5) (N := 9) hx hb hts hin5 tyX5 tyX5_ok nmX5 hown hK hP hD hS (List.mem_append_left _ hr0) ((ru_n hq2).trans ru_s) rfl 3 (by decide) (hts (.fieldLink RX5 39 "SocietyBook$Paper" "toldOn" "I") (by decide +kernel)) (fun _ h9 => h9) rfl hin2 rfl (by decide +kernel) rfl rfl (Nat.le_of_ble_eq_true rfl) dX5_init_54 (fun H locs hP hD hS => ?_)
  rw [ru_c1 (fun q => hq2 q.symm)] at hP hD
  replace hP : va_P (dC, dI) vwCl (rx_W (rl ++ [r2]) a2 (ru_ (ru_ en r (.inr (5, [.int p0, .int p1, .int p2, .int p3, .int (-9), .int (-9), .int (-9), .int (-9), .ref (a2 r2)]))) r2 (.inl (cy 7, 3, rf_ (fun _ => none))))) H := hP
  replace hD : va_D A (rx_W (rl ++ [r2]) a2 (ru_ (ru_ en r (.inr (5, [.int p0, .int p1, .int p2, .int p3, .int (-9), .int (-9), .int (-9), .int (-9), .ref (a2 r2)]))) r2 (.inl (cy 7, 3, rf_ (fun _ => none))))) := hD
  exact W.vret hx hb hr (fun t ht hW => ⟨⟨a2, rfl, (fun x z2 => (h2 x z2)), ⟨⟨by rw [ht]; exact hP, va_K.moved hW.alike hK, nst_w hW hN⟩, hD⟩⟩, hS.F ht⟩) hS.2.2 dX5_init_57

set_option maxHeartbeats 4000000 in
set_option maxRecDepth 100000 in
theorem c_X3_init (l : Launch) (dC : Nat → ClassId) (dI : Nat → Nat → Nat) (rl : List (Nat × Nat)) (ad : Nat × Nat → Nat) (cy : Nat → ClassId) (en : Nat × Nat → va_E) (r r2 r3 : Nat × Nat)   (hr0 : r ∈ rl) (hn2 : r2 ∉ rl) (hn3 : r3 ∉ rl) (hr2r3 : ¬ r2 = r3) (he : en r = .inr (3, [.int 0, .int 0, .null, .null])) (A : Nat → Prop) (hD : va_D A (rx_W rl ad en)) : Met l yX3_init wsX3_init ({ frames := 1, cells := 2, slots := 32, locals := 12 } : Room) (va_Pc [.ref (ad r)] (pA A dC dI rl ad cy en)) (va_Qv (fun (a2 : Nat × Nat → Nat) => ∀ x, ¬ x = r2 → ¬ x = r3 → a2 x = ad x) (fun a2 t => pC dC dI ((rl ++ [r2]) ++ [r3]) a2 cy (ru_ (ru_ (ru_ en r (.inr (3, [.int 0, .int 30000, .ref (a2 r2), .ref (a2 r3)]))) r2 (.inl (cy 0, 16, .inl (fun _ => 0)))) r3 (.inl (cy 0, 16, .inl (fun _ => 0)))) t ∧ va_D A (rx_W ((rl ++ [r2]) ++ [r3]) a2 (ru_ (ru_ (ru_ en r (.inr (3, [.int 0, .int 30000, .ref (a2 r2), .ref (a2 r3)]))) r2 (.inl (cy 0, 16, .inl (fun _ => 0)))) r3 (.inl (cy 0, 16, .inl (fun _ => 0)))))) A) 2 32 A := by
  refine Met.ofW (cc := cX3_init) (maxL := 1) (ret := none) (by decide) rfl ?_
  intro p e s m args below meth c s₁ B hml hv
  obtain ⟨rfl, hA, hP, hK, hN⟩ := hv
  have hq2 : ¬ r = r2 := fun q => hn2 (q ▸ hr0)
  have hq3 : ¬ r = r3 := fun q => hn3 (q ▸ hr0)
  have hx := B.exec
  have hb := B.bytes
  have hr := B.returns
  have hts := atoms_spec (ws := wsX3_init) B.pre
  have hown : s.vm.findClass RX3 = some m.cls := findClass_of_methodNamed B.named
  have hlocks := B.notSynchronized
  have hin2 : meth.name = "<init>" := (name_of_methodNamed B.named B.method).1
  have hin3 : ∀ w ∈ wsX30, w ∈ wsX3_init := by decide +kernel
  have hS : va_S A s.heap s.heap [] := va_S.rf
  have hl := lv_entry ([.ref (ad r)]) (n := 1) (Nat.le_of_ble_eq_true rfl)
  rw [lg_entry_eq]
  generalize (lg_sl ([.ref (ad r)]) ++ List.replicate (1 - (lg_sl ([.ref (ad r)])).length) Slot.unset).toArray = ls at hl ⊢
  have hl : lv_has ls 1 [(0, .ref (ad r))] := hl
  refine lv_aload_n hx hb dX3_init_0 rfl (lv_at hl 0 rfl) ?_
  refine W.objInit hx hb hown (hts (.methodLink RX3 3 objectInit) (by decide +kernel)) (hts (.instanceMethod objectInit) (by decide +kernel)) (hts _ (List.mem_cons_of_mem _ (List.mem_append_left _ (List.mem_of_getElem? (i := 2) rfl)))) rfl (by rw [hml]; exact hl.1) rfl dX3_init_1 (Nat.le_of_ble_eq_true rfl) (Nat.le_of_ble_eq_true rfl) ?_
  refine W.eq (g2 := F0 m 4 ls []) rfl ?_
  refine lv_aload_n hx hb dX3_init_4 rfl (lv_at hl 0 rfl) ?_
  refine lv_sipush (v := 30000) hx hb dX3_init_5 (by decide) ?_
  refine rg_put (D := (dC, dI)) (r := r) (ci := 3) (v := .int 30000) (ty := .int) (C := RX3) (T := TX3) (N := 4) hx hb hts hin3 tyX3 tyX3_ok nmX3 hown hK hP hD hS hr0 he rfl 1 (by decide) (hts (.fieldLink RX3 9 "SocietyBook$Medal" "within" "I") (by decide +kernel)) (fun _ h9 => h9) rfl (by decide +kernel) rfl rfl (Nat.le_of_ble_eq_true rfl) dX3_init_8 (fun H locs hP hD hS => ?_)
  replace hP : va_P (dC, dI) vwCl (rx_W rl ad (ru_ en r (.inr (3, [.int 0, .int 30000, .null, .null])))) H := hP
  replace hD : va_D A (rx_W rl ad (ru_ en r (.inr (3, [.int 0, .int 30000, .null, .null])))) := hD
  refine lv_aload_n hx hb dX3_init_11 rfl (lv_at hl 0 rfl) ?_
  refine lv_bipush (v := 16) hx hb dX3_init_12 (by decide) ?_
  refine rg_newa (r := r2) (atype := .int) (ty := .int) (a0 := (16, .inl (fun _ => 0))) hx hb (hts (.arrayClass .int) (by decide +kernel)) rfl hK hP hD hS hA ai_i (by decide) (by decide) (by decide) (Nat.le_of_ble_eq_true rfl) (Nat.le_of_ble_eq_true rfl) dX3_init_14 hn2 (fun a2 cA H h2 hra hP hD hS => ?_)
  have hc := ra_ti hra ((hK.2 0 _ rfl).2)
  subst hc
  have hw2 : ad r = a2 r := (h2 r hq2).symm
  refine W.eq (g2 := F0 m 16 ls (.ref (a2 r2) :: .ref (a2 r) :: [])) (by rw [hw2]) ?_
  rw [hw2] at hl
  replace hP : va_P (dC, dI) vwCl (rx_W (rl ++ [r2]) a2 (ru_ (ru_ en r (.inr (3, [.int 0, .int 30000, .null, .null]))) r2 (.inl (cy 0, 16, .inl (fun _ => 0))))) H := hP
  replace hD : va_D A (rx_W (rl ++ [r2]) a2 (ru_ (ru_ en r (.inr (3, [.int 0, .int 30000, .null, .null]))) r2 (.inl (cy 0, 16, .inl (fun _ => 0))))) := hD
  refine rg_putF (D := (dC, dI)) (r := r) (ci := 3) (v := .ref (a2 r2)) (ty := .array .int) (C := RX3) (T := TX3) (N := 4) hx hb hts hin3 tyX3 tyX3_ok nmX3 hown hK hP hD hS (List.mem_append_left _ hr0) ((ru_n hq2).trans ru_s) rfl 2 (by decide) (hts (.fieldLink RX3 15 "SocietyBook$Medal" "times" "[I") (by decide +kernel)) (fun _ h9 => h9) rfl hin2 rfl (by decide +kernel) rfl rfl (Nat.le_of_ble_eq_true rfl) dX3_init_16 (fun H locs hP hD hS => ?_)
  rw [ru_c1 (fun q => hq2 q.symm)] at hP hD
  replace hP : va_P (dC, dI) vwCl (rx_W (rl ++ [r2]) a2 (ru_ (ru_ en r (.inr (3, [.int 0, .int 30000, .ref (a2 r2), .null]))) r2 (.inl (cy 0, 16, .inl (fun _ => 0))))) H := hP
  replace hD : va_D A (rx_W (rl ++ [r2]) a2 (ru_ (ru_ en r (.inr (3, [.int 0, .int 30000, .ref (a2 r2), .null]))) r2 (.inl (cy 0, 16, .inl (fun _ => 0))))) := hD
  refine lv_aload_n hx hb dX3_init_19 rfl (lv_at hl 0 rfl) ?_
  refine lv_bipush (v := 16) hx hb dX3_init_20 (by decide) ?_
  refine rg_newa (r := r3) (atype := .int) (ty := .int) (a0 := (16, .inl (fun _ => 0))) hx hb (hts (.arrayClass .int) (by decide +kernel)) rfl hK hP hD hS hA ai_i (by decide) (by decide) (by decide) (Nat.le_of_ble_eq_true rfl) (Nat.le_of_ble_eq_true rfl) dX3_init_22 (fun q => (List.mem_append.mp q).elim hn3 (fun z => hr2r3 (List.mem_singleton.mp z).symm)) (fun a3 cA H h3 hra hP hD hS => ?_)
  have hc := ra_ti hra ((hK.2 0 _ rfl).2)
  subst hc
  have hw3 : a2 r = a3 r := (h3 r hq3).symm
  refine W.eq (g2 := F0 m 24 ls (.ref (a3 r3) :: .ref (a3 r) :: [])) (by rw [hw3]) ?_
  rw [hw3] at hl
  rw [← h3 r2 (fun q => hr2r3 q)] at hP hD
  replace hP : va_P (dC, dI) vwCl (rx_W ((rl ++ [r2]) ++ [r3]) a3 (ru_ (ru_ (ru_ en r (.inr (3, [.int 0, .int 30000, .ref (a3 r2), .null]))) r2 (.inl (cy 0, 16, .inl (fun _ => 0)))) r3 (.inl (cy 0, 16, .inl (fun _ => 0))))) H := hP
  replace hD : va_D A (rx_W ((rl ++ [r2]) ++ [r3]) a3 (ru_ (ru_ (ru_ en r (.inr (3, [.int 0, .int 30000, .ref (a3 r2), .null]))) r2 (.inl (cy 0, 16, .inl (fun _ => 0)))) r3 (.inl (cy 0, 16, .inl (fun _ => 0))))) := hD
  refine rg_putF (D := (dC, dI)) (r := r) (ci := 3) (v := .ref (a3 r3)) (ty := .array .int) (C := RX3) (T := TX3) (N := 4) hx hb hts hin3 tyX3 tyX3_ok nmX3 hown hK hP hD hS (List.mem_append_left _ (List.mem_append_left _ hr0)) ((ru_n hq3).trans ((ru_n hq2).trans ru_s)) rfl 3 (by decide) (hts (.fieldLink RX3 19 "SocietyBook$Medal" "lastDays" "[I") (by decide +kernel)) (fun _ h9 => h9) rfl hin2 rfl (by decide +kernel) rfl rfl (Nat.le_of_ble_eq_true rfl) dX3_init_24 (fun H locs hP hD hS => ?_)
  rw [ru_c2 (fun q => hq2 q.symm) (fun q => hq3 q.symm)] at hP hD
  replace hP : va_P (dC, dI) vwCl (rx_W ((rl ++ [r2]) ++ [r3]) a3 (ru_ (ru_ (ru_ en r (.inr (3, [.int 0, .int 30000, .ref (a3 r2), .ref (a3 r3)]))) r2 (.inl (cy 0, 16, .inl (fun _ => 0)))) r3 (.inl (cy 0, 16, .inl (fun _ => 0))))) H := hP
  replace hD : va_D A (rx_W ((rl ++ [r2]) ++ [r3]) a3 (ru_ (ru_ (ru_ en r (.inr (3, [.int 0, .int 30000, .ref (a3 r2), .ref (a3 r3)]))) r2 (.inl (cy 0, 16, .inl (fun _ => 0)))) r3 (.inl (cy 0, 16, .inl (fun _ => 0))))) := hD
  exact W.vret hx hb hr (fun t ht hW => ⟨⟨a3, rfl, (fun x z2 z3 => ((h3 x z3).trans (h2 x z2))), ⟨⟨by rw [ht]; exact hP, va_K.moved hW.alike hK, nst_w hW hN⟩, hD⟩⟩, hS.F ht⟩) hS.2.2 dX3_init_27

set_option maxHeartbeats 4000000 in
set_option maxRecDepth 100000 in
theorem c_X8_init (l : Launch) (dC : Nat → ClassId) (dI : Nat → Nat → Nat) (rl : List (Nat × Nat)) (ad : Nat × Nat → Nat) (cy : Nat → ClassId) (en : Nat × Nat → va_E) (r r2 : Nat × Nat)   (hr0 : r ∈ rl) (hn2 : r2 ∉ rl) (he : en r = .inr (7, [.int 0, .int 0, .null])) (A : Nat → Prop) (hD : va_D A (rx_W rl ad en)) : Met l yX8_init wsX8_init ({ frames := 1, cells := 1, slots := 12, locals := 12 } : Room) (va_Pc [.ref (ad r)] (pA A dC dI rl ad cy en)) (va_Qv (fun (a2 : Nat × Nat → Nat) => ∀ x, ¬ x = r2 → a2 x = ad x) (fun a2 t => pC dC dI (rl ++ [r2]) a2 cy (ru_ (ru_ en r (.inr (7, [.int 1, .int 0, .ref (a2 r2)]))) r2 (.inl (cy 1, 12, .inl (fun _ => 0)))) t ∧ va_D A (rx_W (rl ++ [r2]) a2 (ru_ (ru_ en r (.inr (7, [.int 1, .int 0, .ref (a2 r2)]))) r2 (.inl (cy 1, 12, .inl (fun _ => 0)))))) A) 1 12 A := by
  refine Met.ofW (cc := cX8_init) (maxL := 1) (ret := none) (by decide) rfl ?_
  intro p e s m args below meth c s₁ B hml hv
  obtain ⟨rfl, hA, hP, hK, hN⟩ := hv
  have hq2 : ¬ r = r2 := fun q => hn2 (q ▸ hr0)
  have hx := B.exec
  have hb := B.bytes
  have hr := B.returns
  have hts := atoms_spec (ws := wsX8_init) B.pre
  have hown : s.vm.findClass RX8 = some m.cls := findClass_of_methodNamed B.named
  have hlocks := B.notSynchronized
  have hin2 : meth.name = "<init>" := (name_of_methodNamed B.named B.method).1
  have hin8 : ∀ w ∈ wsX80, w ∈ wsX8_init := by decide +kernel
  have hS : va_S A s.heap s.heap [] := va_S.rf
  have hl := lv_entry ([.ref (ad r)]) (n := 1) (Nat.le_of_ble_eq_true rfl)
  rw [lg_entry_eq]
  generalize (lg_sl ([.ref (ad r)]) ++ List.replicate (1 - (lg_sl ([.ref (ad r)])).length) Slot.unset).toArray = ls at hl ⊢
  have hl : lv_has ls 1 [(0, .ref (ad r))] := hl
  refine lv_aload_n hx hb dX8_init_0 rfl (lv_at hl 0 rfl) ?_
  refine W.objInit hx hb hown (hts (.methodLink RX8 3 objectInit) (by decide +kernel)) (hts (.instanceMethod objectInit) (by decide +kernel)) (hts _ (List.mem_cons_of_mem _ (List.mem_append_left _ (List.mem_of_getElem? (i := 2) rfl)))) rfl (by rw [hml]; exact hl.1) rfl dX8_init_1 (Nat.le_of_ble_eq_true rfl) (Nat.le_of_ble_eq_true rfl) ?_
  refine W.eq (g2 := F0 m 4 ls []) rfl ?_
  refine lv_aload_n hx hb dX8_init_4 rfl (lv_at hl 0 rfl) ?_
  refine lv_iconst (v := 1) hx hb dX8_init_5 (by decide) ?_
  refine rg_put (D := (dC, dI)) (r := r) (ci := 7) (v := .int 1) (ty := .boolean) (C := RX8) (T := TX8) (N := 3) hx hb hts hin8 tyX8 tyX8_ok nmX8 hown hK hP hD hS hr0 he rfl 0 (by decide) (hts (.fieldLink RX8 9 "SocietyBook$Sheet" "missing" "Z") (by decide +kernel)) (fun _ h9 => h9) rfl (by decide +kernel) rfl rfl (Nat.le_of_ble_eq_true rfl) dX8_init_6 (fun H locs hP hD hS => ?_)
  replace hP : va_P (dC, dI) vwCl (rx_W rl ad (ru_ en r (.inr (7, [.int 1, .int 0, .null])))) H := hP
  replace hD : va_D A (rx_W rl ad (ru_ en r (.inr (7, [.int 1, .int 0, .null])))) := hD
  refine lv_aload_n hx hb dX8_init_9 rfl (lv_at hl 0 rfl) ?_
  refine lv_bipush (v := 12) hx hb dX8_init_10 (by decide) ?_
  refine rg_newa (r := r2) (atype := .byte) (ty := .byte) (a0 := (12, .inl (fun _ => 0))) hx hb (hts (.arrayClass .byte) (by decide +kernel)) rfl hK hP hD hS hA ai_b (by decide) (by decide) (by decide) (Nat.le_of_ble_eq_true rfl) (Nat.le_of_ble_eq_true rfl) dX8_init_12 hn2 (fun a2 cA H h2 hra hP hD hS => ?_)
  have hc := ra_tb hra ((hK.2 1 _ rfl).2)
  subst hc
  have hw2 : ad r = a2 r := (h2 r hq2).symm
  refine W.eq (g2 := F0 m 14 ls (.ref (a2 r2) :: .ref (a2 r) :: [])) (by rw [hw2]) ?_
  rw [hw2] at hl
  replace hP : va_P (dC, dI) vwCl (rx_W (rl ++ [r2]) a2 (ru_ (ru_ en r (.inr (7, [.int 1, .int 0, .null]))) r2 (.inl (cy 1, 12, .inl (fun _ => 0))))) H := hP
  replace hD : va_D A (rx_W (rl ++ [r2]) a2 (ru_ (ru_ en r (.inr (7, [.int 1, .int 0, .null]))) r2 (.inl (cy 1, 12, .inl (fun _ => 0))))) := hD
  refine rg_putF (D := (dC, dI)) (r := r) (ci := 7) (v := .ref (a2 r2)) (ty := .array .byte) (C := RX8) (T := TX8) (N := 3) hx hb hts hin8 tyX8 tyX8_ok nmX8 hown hK hP hD hS (List.mem_append_left _ hr0) ((ru_n hq2).trans ru_s) rfl 2 (by decide) (hts (.fieldLink RX8 15 "SocietyBook$Sheet" "bytes" "[B") (by decide +kernel)) (fun _ h9 => h9) rfl hin2 rfl (by decide +kernel) rfl rfl (Nat.le_of_ble_eq_true rfl) dX8_init_14 (fun H locs hP hD hS => ?_)
  rw [ru_c1 (fun q => hq2 q.symm)] at hP hD
  replace hP : va_P (dC, dI) vwCl (rx_W (rl ++ [r2]) a2 (ru_ (ru_ en r (.inr (7, [.int 1, .int 0, .ref (a2 r2)]))) r2 (.inl (cy 1, 12, .inl (fun _ => 0))))) H := hP
  replace hD : va_D A (rx_W (rl ++ [r2]) a2 (ru_ (ru_ en r (.inr (7, [.int 1, .int 0, .ref (a2 r2)]))) r2 (.inl (cy 1, 12, .inl (fun _ => 0))))) := hD
  exact W.vret hx hb hr (fun t ht hW => ⟨⟨a2, rfl, (fun x z2 => (h2 x z2)), ⟨⟨by rw [ht]; exact hP, va_K.moved hW.alike hK, nst_w hW hN⟩, hD⟩⟩, hS.F ht⟩) hS.2.2 dX8_init_17
