
theorem rg_cpy {p : Program} {l : Launch} {e : Env} {R : Room} {s : State} {m : MethodId} {args : Array Value} {below : List Frame} {meth : Method} {c : Code} {H : Heap} {locs : List Loc} {cells slots : Nat} {Q : State → Prop} {cc : ByteArray} {pc : Nat} {ls : Array Slot} {rest : List Value} {D : va_G} {cl : List vw_C} {A : Nat → Prop} {tys : List (ClassId × FieldType)} {H0 : Heap} {rl : List (Nat × Nat)} {ad : Nat × Nat → Nat} {en : Nat × Nat → va_E} {r0 r1 : Nat × Nat}
    (hexec : p.tables.exec = Jvm.exec) (hb : c.code = cc) (hml : c.maxLocals = ls.size) {own : String} {index : Nat} (hown : s.vm.findClass own = some m.cls) (hlink : (Cond.methodLink own index arraycopyName).before args s = true) (hnat : (Cond.native arraycopyName).before args s = true) (hstat : (Cond.static arraycopyName).before args s = true) (hini : (Cond.initialized "java/lang/System").before args s = true)
    (hK : va_K D cl tys s) (hP : va_P D cl (rx_W rl ad en) H) (hD : va_D A (rx_W rl ad en)) (hS : va_S A H0 H locs) (hr0 : r0 ∈ rl) (hr1 : r1 ∈ rl) (t0 t1 : Nat) {c0 c1 : ClassId} {n0 n1 : Nat} {f g : Nat → Int32} {ty : FieldType} (ha0 : en r0 = .inl (c0, n0, .inl f)) (ha1 : en r1 = .inl (c1, n1, .inl g)) (ht0 : tys[t0]? = some (c0, ty)) (ht1 : tys[t1]? = some (c1, ty)) (hprim : refKind ty = false)
    {sp dp n : Int32} (h1 : ¬ sp < 0) (h2 : ¬ dp < 0) (h3 : ¬ n < 0) (h4 : sp.toNatClampNeg + n.toNatClampNeg ≤ n0) (h5 : dp.toNatClampNeg + n.toNatClampNeg ≤ n1) (hfit : ∀ i, i < n.toNatClampNeg → fits ty (.int (f (sp.toNatClampNeg + i))) = true)
    (hframes : 1 ≤ R.frames) (hlocals : (rest.map fun v => v.category).sum + (nativeFrameWords "java/lang/System" "arraycopy" 5 + 11) ≤ R.locals) (hdg : decode cc pc = .ok (.invokestatic index, 3))
    (kk : ∀ (H1 : Heap) (locs1 : List Loc), va_P D cl (rx_W rl ad (ru_ en r1 (.inl (c1, n1, .inl (va_cpy f g sp.toNatClampNeg dp.toNatClampNeg n.toNatClampNeg))))) H1 → va_D A (rx_W rl ad (ru_ en r1 (.inl (c1, n1, .inl (va_cpy f g sp.toNatClampNeg dp.toNatClampNeg n.toNatClampNeg))))) → va_S A H0 H1 locs1 → W p l e R s m args below meth c H1 locs1 cells slots Q (F0 m (pc + 3) ls rest)) : W p l e R s m args below meth c H locs cells slots Q (F0 m pc ls (.int n :: .int dp :: .ref (ad r1) :: .int sp :: .ref (ad r0) :: rest)) := by
  obtain ⟨q0, hq0⟩ := rx_get (ad := ad) (en := en) hr0
  obtain ⟨q1, hq1⟩ := rx_get (ad := ad) (en := en) hr1
  have hq1' := hq1
  rw [ha0] at hq0
  rw [ha1] at hq1'
  refine va_copyi hexec hb hml hown hlink hnat hstat hini hK hP hD hS q0 q1 t0 t1 hq0 hq1' ht0 ht1 hprim h1 h2 h3 h4 h5 hfit hframes hlocals hdg (fun H1 locs1 hP1 hD1 hS1 => ?_)
  rw [rx_set hD hr1 hq1] at hP1 hD1
  exact kk H1 locs1 hP1 hD1 hS1
theorem hr_u {z x n : Int32} (hz : z ≤ 12) (h : (0 ≤ n ∧ n ≤ z) ∧ (0 ≤ x ∧ x ≤ z - n)) : ¬ x < 0 ∧ ¬ n < 0 ∧ ¬ 0 < lg_cmp (x.toInt64 + n.toInt64) z.toInt64 ∧ x.toNatClampNeg + n.toNatClampNeg ≤ 12 := by
  have e12 : (12 : Int32).toInt = 12 := by decide
  have a0 := ib_le.mp hz
  have a1 := ib_le.mp h.1.1
  have a2 := ib_le.mp h.1.2
  have a3 := ib_le.mp h.2.1
  have a4 := ib_le.mp h.2.2
  rw [e12] at a0
  rw [ib_0] at a1 a3
  rw [ib_sub (by omega) (by omega)] at a4
  have b1 := lb_c h.1.1
  have b3 := lb_c h.2.1
  refine ⟨Int32.not_lt.mpr h.2.1, Int32.not_lt.mpr h.1.1, ?_, by omega⟩
  rw [lg_cmp_gt]
  intro q
  have q2 := Int64.lt_iff_toInt_lt.mp q
  rw [Int64.toInt_add, Int32.toInt_toInt64, Int32.toInt_toInt64, Int32.toInt_toInt64, Int.bmod_eq_of_le (by omega) (by omega)] at q2
  omega
theorem hr_i {z x n : Int32} (hz : 0 ≤ z ∧ z ≤ 12) (c1 : ¬ x < 0) (c2 : ¬ n < 0) (c3 : ¬ 0 < lg_cmp (x.toInt64 + n.toInt64) z.toInt64) : (0 ≤ n ∧ n ≤ z) ∧ (0 ≤ x ∧ x ≤ z - n) := by
  have e12 : (12 : Int32).toInt = 12 := by decide
  have a0 := ib_le.mp hz.2
  have a9 := ib_le.mp hz.1
  have a1 := ib_le.mp (Int32.not_lt.mp c1)
  have a2 := ib_le.mp (Int32.not_lt.mp c2)
  rw [e12] at a0
  rw [ib_0] at a1 a2 a9
  have r1 := ib_rng x
  have r2 := ib_rng n
  rw [lg_cmp_gt] at c3
  have c4 : ¬ z.toInt64.toInt < (x.toInt64 + n.toInt64).toInt := fun q => c3 (Int64.lt_iff_toInt_lt.mpr q)
  rw [Int64.toInt_add, Int32.toInt_toInt64, Int32.toInt_toInt64, Int32.toInt_toInt64, Int.bmod_eq_of_le (by omega) (by omega)] at c4
  refine ⟨⟨Int32.not_lt.mp c2, ib_le.mpr (by omega)⟩, ⟨Int32.not_lt.mp c1, ib_le.mpr ?_⟩⟩
  rw [ib_sub (by omega) (by omega)]
  omega
theorem cl3 {s i : Int32} {k : Nat} (hs : vp_in s 4) (ci : ¬ i < 0) (hk : i.toNatClampNeg + k < 12) : ((12 * s + i) + nI k).toNatClampNeg = 12 * s.toNatClampNeg + i.toNatClampNeg + k := by
  have e12 : (12 : Int32).toInt = 12 := by decide
  have a1 := vp_in_iff.mp hs
  have b1 := (ib_cl hs).1
  have b2 := lb_c (Int32.not_lt.mp ci)
  have ek : (nI k).toInt = k := nI_toInt (by omega)
  have e1 : (12 * s).toInt = 12 * s.toInt := by rw [ib_mul (by rw [e12]; omega) (by rw [e12]; omega), e12]
  have e2 : (12 * s + i).toInt = 12 * s.toInt + i.toInt := by rw [ib_add (by rw [e1]; omega) (by rw [e1]; omega), e1]
  have e3 : ((12 * s + i) + nI k).toInt = 12 * s.toInt + i.toInt + k := by rw [ib_add (by rw [e2, ek]; omega) (by rw [e2, ek]; omega), e2, ek]
  have e4 : ((12 * s + i) + nI k).toNatClampNeg = ((12 * s + i) + nI k).toInt.toNat := rfl
  rw [e4, e3]
  omega
theorem cy_1 {F : Nat → Int32} {M : Nat → Nat → Int32} {p0 p1 p2 p3 p4 : Int32} (hJ : jv F M) (hs : vp_in p0 4) (c1 : ¬ p1 < 0) : ∀ n, p1.toNatClampNeg + n ≤ 12 → ∀ j, j < n → L_copy1 F M p0 p1 p2 p3 p4 n j = M 44 (12 * p0.toNatClampNeg + p1.toNatClampNeg + j) := by
  intro n
  have hb := (ib_cl hs).2
  induction n with
  | zero => intro _ j hj; omega
  | succ n ih =>
    intro hn j hj
    rw [L_copy1, cl3 hs c1 (by omega), jv_b hJ _ (by omega)]
    unfold upd
    by_cases q : j = n
    · rw [if_pos q, q]
    · rw [if_neg q]; exact ih (by omega) j (by omega)
theorem cy_2 {F : Nat → Int32} {M : Nat → Nat → Int32} {p0 p1 p2 p3 p4 : Int32} (hJ : jv F M) (hs : vp_in p0 4) (ht : vp_in p2 4) (c1 : ¬ p1 < 0) (c3 : ¬ p3 < 0) (h1 : p1.toNatClampNeg + p4.toNatClampNeg ≤ 12) (h2 : p3.toNatClampNeg + p4.toNatClampNeg ≤ 12) : ∀ n, n ≤ p4.toNatClampNeg → ∀ x, L_copy2 F M p0 p1 p2 p3 p4 n x = if 12 * p2.toNatClampNeg + p3.toNatClampNeg ≤ x ∧ x < 12 * p2.toNatClampNeg + p3.toNatClampNeg + n then M 44 (12 * p0.toNatClampNeg + p1.toNatClampNeg + (x - (12 * p2.toNatClampNeg + p3.toNatClampNeg))) else M 44 x := by
  intro n
  have hb := (ib_cl hs).2
  induction n with
  | zero => intro _ x; rw [if_neg (by omega)]; rfl
  | succ n ih =>
    intro hn x
    rw [L_copy2, cl3 ht c3 (by omega), cy_1 hJ hs c1 _ h1 n (by omega), jv_b hJ _ (by omega)]
    unfold upd
    by_cases q : x = 12 * p2.toNatClampNeg + p3.toNatClampNeg + n
    · rw [if_pos q, if_pos (by omega), q]
      congr 1
      omega
    · rw [if_neg q, ih (by omega) x]
      by_cases z : 12 * p2.toNatClampNeg + p3.toNatClampNeg ≤ x ∧ x < 12 * p2.toNatClampNeg + p3.toNatClampNeg + n
      · rw [if_pos z, if_pos (by omega)]
      · rw [if_neg z, if_neg (by omega)]
theorem cy_e (ad : Nat × Nat → Nat) (cy : Nat → ClassId) (F : Nat → Int32) (M Y : Nat → Nat → Int32) (p0 p1 p2 p3 p4 : Int32) (hJ : jv F M) (hs : vp_in p0 4) (ht : vp_in p2 4) (c1 : ¬ p1 < 0) (c3 : ¬ p3 < 0) (h1 : p1.toNatClampNeg + p4.toNatClampNeg ≤ 12) (h2 : p3.toNatClampNeg + p4.toNatClampNeg ≤ 12) : ∀ r : Nat × Nat,
    ru_ (eC ad cy F M Y) (24, p2.toNatClampNeg) (.inl (cy 1, 12, .inl (va_cpy (fun i => if i < 12 then M 44 (12 * p0.toNatClampNeg + i) else 0) (fun i => if i < 12 then M 44 (12 * p2.toNatClampNeg + i) else 0) p1.toNatClampNeg p3.toNatClampNeg p4.toNatClampNeg))) r = eC ad cy F (va_up (va_up M 45 (L_copy1 F M p0 p1 p2 p3 p4 p4.toNatClampNeg)) 44 (L_copy2 F M p0 p1 p2 p3 p4 p4.toNatClampNeg)) Y r := by
  rintro ⟨c, i⟩
  have key := cy_2 hJ hs ht c1 c3 h1 h2 p4.toNatClampNeg (Nat.le_refl _)
  by_cases h : (c, i) = (24, p2.toNatClampNeg)
  · rw [h, ru_s, en_24]
    refine congrArg (fun z => Sum.inl (cy 1, 12, Sum.inl z)) (funext fun x => ?_)
    show va_cpy _ _ _ _ _ x = if x < 12 then L_copy2 F M p0 p1 p2 p3 p4 p4.toNatClampNeg (12 * p2.toNatClampNeg + x) else 0
    unfold va_cpy
    by_cases hx : x < 12
    · rw [if_pos hx, key]
      by_cases q : p3.toNatClampNeg ≤ x ∧ x < p3.toNatClampNeg + p4.toNatClampNeg
      · rw [if_pos q, if_pos (by omega)]
        refine (if_pos (by omega)).trans ?_
        congr 1
        omega
      · rw [if_neg q, if_neg (by omega)]; exact if_pos hx
    · rw [if_neg hx, if_neg (by omega)]; exact if_neg hx
  · rw [ru_n h]
    by_cases hc : c = 24
    · subst hc
      have hne : ¬ i = p2.toNatClampNeg := fun q => h (by rw [q])
      rw [en_24, en_24]
      refine congrArg (fun z => Sum.inl (cy 1, 12, Sum.inl z)) (funext fun x => ?_)
      show _ = if x < 12 then L_copy2 F M p0 p1 p2 p3 p4 p4.toNatClampNeg (12 * i + x) else 0
      by_cases hx : x < 12
      · rw [if_pos hx, if_pos hx, key, if_neg (by omega)]
      · rw [if_neg hx, if_neg hx]
    · simp [eC, va_up, hc]
theorem cy_f {F : Nat → Int32} {M : Nat → Nat → Int32} {p0 p1 p4 : Int32} (hJ : jv F M) (hs : vp_in p0 4) (h1 : p1.toNatClampNeg + p4.toNatClampNeg ≤ 12) : ∀ i, i < p4.toNatClampNeg → fits .byte (.int ((fun i => if i < 12 then M 44 (12 * p0.toNatClampNeg + i) else 0) (p1.toNatClampNeg + i))) = true := by
  intro i hi
  have hb := (ib_cl hs).2
  show fits .byte (.int (if p1.toNatClampNeg + i < 12 then M 44 (12 * p0.toNatClampNeg + (p1.toNatClampNeg + i)) else 0)) = true
  rw [if_pos (by omega), ← jv_b hJ _ (by omega), vp_nar_byte]
  exact pk_fb _

set_option maxHeartbeats 4000000 in
set_option maxRecDepth 100000 in
theorem c_X10_copy (l : Launch) (dC : Nat → ClassId) (dI : Nat → Nat → Nat) (rl : List (Nat × Nat)) (ad : Nat × Nat → Nat) (cy : Nat → ClassId) (F : Nat → Int32) (M Y : Nat → Nat → Int32) (p0 : Int32) (p1 : Int32) (p2 : Int32) (p3 : Int32) (p4 : Int32) (hrl : ∀ r, r ∈ rl ↔ vd F r) (hI : iv F M) (hJ : jv F M) (A : Nat → Prop) (hD : va_D A (rx_W rl ad (eC ad cy F M Y))) : Met l yX10_copy wsX10_copy ({ frames := 2, cells := 0, slots := 0, locals := 60 } : Room) (va_Pc [.ref (ad (9, 0)), .int p0, .int p1, .int p2, .int p3, .int p4] (pC dC dI rl ad cy (eC ad cy F M Y))) (va_Qi (fun r (_ : Nat → Nat → Int32) => r = (s_X11_copy F M p0 p1 p2 p3 p4).1) (qC A dC dI rl ad cy (s_X11_copy F M p0 p1 p2 p3 p4).2.1 (s_X11_copy F M p0 p1 p2 p3 p4).2.2) A) 0 0 A := by
  refine Met.ofW (cc := cX10_copy) (maxL := 8) (ret := (some .int)) (by decide) rfl ?_
  intro p e s m args below meth c s₁ B hml hv
  obtain ⟨rfl, hP, hK, hN⟩ := hv
  have hx := B.exec
  have hb := B.bytes
  have hr := B.returns
  have hts := atoms_spec (ws := wsX10_copy) B.pre
  have hown : s.vm.findClass RX10 = some m.cls := findClass_of_methodNamed B.named
  have hlocks := B.notSynchronized
  have hin10 : ∀ w ∈ wsX100, w ∈ wsX10_copy := by decide +kernel
  have hin8 : ∀ w ∈ wsX80, w ∈ wsX10_copy := by decide +kernel
  have hS : va_S A s.heap s.heap [] := va_S.rf
  have hl := lv_entry ([.ref (ad (9, 0)), .int p0, .int p1, .int p2, .int p3, .int p4]) (n := 8) (Nat.le_of_ble_eq_true rfl)
  rw [lg_entry_eq]
  generalize (lg_sl ([.ref (ad (9, 0)), .int p0, .int p1, .int p2, .int p3, .int p4]) ++ List.replicate (8 - (lg_sl ([.ref (ad (9, 0)), .int p0, .int p1, .int p2, .int p3, .int p4])).length) Slot.unset).toArray = ls at hl ⊢
  have hl : lv_has ls 8 [(0, .ref (ad (9, 0))), (1, .int p0), (2, .int p1), (3, .int p2), (4, .int p3), (5, .int p4)] := hl
  refine lv_iload_n hx hb dX10_copy_0 rfl (lv_at hl 1 rfl) ?_
  refine vp_callSi (W.runS (As := [.int p0]) (rest := []) ⟨hx, hb, hml, hown, hts⟩ (c_X10_isSheet l p0) (va_cwS 1 hts gX10_copy_X10_isSheet rfl rfl rfl (by decide +kernel) ⟨Nat.le_of_ble_eq_true rfl, Nat.le_of_ble_eq_true rfl⟩) ⟨fun _ _ _ _ q => q, fun U hU hW => ⟨rfl, trivial⟩⟩ rfl rfl hl.1 rfl (lv_room (Nat.le_of_ble_eq_true rfl)) dX10_copy_1 ⟨Nat.zero_le _, Nat.zero_le _⟩) (fun r hr9 => ?_)
  subst hr9
  refine lv_if_eq (tgt := 14) hx hb dX10_copy_4 (by decide) (fun c1 => ?_) (fun c1 => ?_)
  · replace c1 := bo_f c1
    refine lv_iconst (v := (-1)) hx hb dX10_copy_14 (by decide) ?_
    have E9 : s_X11_copy F M p0 p1 p2 p3 p4 = ((-1), (F, M)) := by unfold s_X11_copy; rw [if_neg c1]
    exact W.iret (v := (-1)) hx hb hr (fun t ht hW => ⟨⟨(-1), Y, rfl, by rw [E9], by rw [E9]; exact ⟨⟨by rw [ht]; exact hP, va_K.moved hW.alike hK, nst_w hW hN⟩, hD⟩⟩, hS.F ht⟩) hS.2.2 dX10_copy_15
  · replace c1 := bo_t c1
    refine lv_iload_n hx hb dX10_copy_7 rfl (lv_at hl 3 rfl) ?_
    refine vp_callSi (W.runS (As := [.int p2]) (rest := []) ⟨hx, hb, hml, hown, hts⟩ (c_X10_isSheet l p2) (va_cwS 1 hts gX10_copy_X10_isSheet rfl rfl rfl (by decide +kernel) ⟨Nat.le_of_ble_eq_true rfl, Nat.le_of_ble_eq_true rfl⟩) ⟨fun _ _ _ _ q => q, fun U hU hW => ⟨rfl, trivial⟩⟩ rfl rfl hl.1 rfl (lv_room (Nat.le_of_ble_eq_true rfl)) dX10_copy_8 ⟨Nat.zero_le _, Nat.zero_le _⟩) (fun r hr9 => ?_)
    subst hr9
    refine lv_if_ne (tgt := 16) hx hb dX10_copy_11 (by decide) (fun c2 => ?_) (fun c2 => ?_)
    · replace c2 := bo_t c2
      refine lv_aload_n hx hb dX10_copy_16 rfl (lv_at hl 0 rfl) ?_
      refine rg_get (D := (dC, dI)) (r := (9, 0)) (ci := 9) (v := .ref (ad (17, 0))) (C := RX10) (T := TX10) (N := 19) hx hb hts hin10 hown hK hP ((hrl _).mpr (vd_9 (by decide))) en_9 rfl 15 (by decide) (hts (.fieldLink RX10 54 "SocietyBook" "sheets" "[LSocietyBook$Sheet;") (by decide +kernel)) (fun _ h9 => h9) rfl dX10_copy_17 ?_
      refine lv_iload_n hx hb dX10_copy_20 rfl (lv_at hl 1 rfl) ?_
      refine rg_aldq (r := (17, 0)) (v := .ref (ad (7, p0.toNatClampNeg))) hx hb hK hP ((hrl _).mpr (vd_17 (by decide))) 9 en_17 rfl (ib_in c1 (by decide)) rfl dX10_copy_21 ?_
      refine lv_astore (lv' := [(6, .ref (ad (7, p0.toNatClampNeg))), (0, .ref (ad (9, 0))), (1, .int p0), (2, .int p1), (3, .int p2), (4, .int p3), (5, .int p4)]) hx hb dX10_copy_22 hl (by decide) rfl (fun ls hl => ?_)
      refine lv_aload_n hx hb dX10_copy_24 rfl (lv_at hl 1 rfl) ?_
      refine rg_get (D := (dC, dI)) (r := (9, 0)) (ci := 9) (v := .ref (ad (17, 0))) (C := RX10) (T := TX10) (N := 19) hx hb hts hin10 hown hK hP ((hrl _).mpr (vd_9 (by decide))) en_9 rfl 15 (by decide) (hts (.fieldLink RX10 54 "SocietyBook" "sheets" "[LSocietyBook$Sheet;") (by decide +kernel)) (fun _ h9 => h9) rfl dX10_copy_25 ?_
      refine lv_iload_n hx hb dX10_copy_28 rfl (lv_at hl 4 rfl) ?_
      refine rg_aldq (r := (17, 0)) (v := .ref (ad (7, p2.toNatClampNeg))) hx hb hK hP ((hrl _).mpr (vd_17 (by decide))) 9 en_17 rfl (ib_in c2 (by decide)) rfl dX10_copy_29 ?_
      refine lv_astore (lv' := [(7, .ref (ad (7, p2.toNatClampNeg))), (6, .ref (ad (7, p0.toNatClampNeg))), (0, .ref (ad (9, 0))), (1, .int p0), (2, .int p1), (3, .int p2), (4, .int p3), (5, .int p4)]) hx hb dX10_copy_30 hl (by decide) rfl (fun ls hl => ?_)
      refine lv_aload hx hb dX10_copy_32 (lv_at hl 1 rfl) ?_
      refine rg_get (D := (dC, dI)) (r := (7, p0.toNatClampNeg)) (ci := 7) (v := .int (if M 43 p0.toNatClampNeg < 0 then (1 : Int32) else 0)) (C := RX8) (T := TX8) (N := 3) hx hb hts hin8 hown hK hP ((hrl _).mpr (vd_7 (ib_cl (ib_in c1 (by decide))).2)) en_7 rfl 0 (by decide) (hts (.fieldLink RX10 241 "SocietyBook$Sheet" "missing" "Z") (by decide +kernel)) (fun _ h9 => h9) rfl dX10_copy_34 ?_
      refine lv_if_ne (tgt := 48) hx hb dX10_copy_37 (by decide) (fun c3 => ?_) (fun c3 => ?_)
      · replace c3 := bo_t c3
        refine lv_aload_n hx hb dX10_copy_48 rfl (lv_at hl 2 rfl) ?_
        refine lv_iconst (v := 1) hx hb dX10_copy_49 (by decide) ?_
        refine va_calli (va_runV (As := [.int 1]) (rest := []) ⟨hx, hb, hml, hown, hts⟩ (c_X10_found l dC dI rl ad cy F M Y  1 hrl hI hJ A hD (ib_lit (by decide))) (cwV 1 hts gX10_copy_X10_found rfl rfl rfl (by decide +kernel) ⟨Nat.le_of_ble_eq_true rfl, Nat.le_of_ble_eq_true rfl⟩) ⟨pc_blind, rg_recv hK hP ((hrl _).mpr (vd_9 (by decide))) (ci := 9) rfl en_9, fun U hU hW => ⟨rfl, by rw [hU]; exact hP, va_K.moved hW.alike hK, nst_w hW hN⟩⟩ rfl rfl hl.1 rfl (lv_room (Nat.le_of_ble_eq_true rfl)) dX10_copy_50 ⟨Nat.zero_le _, Nat.zero_le _⟩) hS (fun q _ h => h) (fun q h => h) (fun r u t H1 locs ht hvm hw hB hz1 hk1 hS => ?_)
        subst hw
        obtain ⟨⟨hP, -, -⟩, hD⟩ := hB
        rw [ht] at hP
        clear hz1 hk1 ht hvm; generalize H1 = H at hP hS ⊢
        skip
        have E9 : s_X11_copy F M p0 p1 p2 p3 p4 = ((s_X11_meets F M 1).1, ((s_X11_meets F M 1).2.1, (s_X11_meets F M 1).2.2)) := by unfold s_X11_copy; rw [if_pos c1]; rw [if_pos c2]; rw [if_pos c3]
        exact W.iret (v := (s_X11_meets F M 1).1) hx hb hr (fun t ht hW => ⟨⟨(s_X11_meets F M 1).1, u, rfl, by rw [E9], by rw [E9]; exact ⟨⟨by rw [ht]; exact hP, va_K.moved hW.alike hK, nst_w hW hN⟩, hD⟩⟩, hS.F ht⟩) hS.2.2 dX10_copy_53
      · replace c3 := bo_f c3
        refine lv_aload hx hb dX10_copy_40 (lv_at hl 0 rfl) ?_
        refine rg_get (D := (dC, dI)) (r := (7, p2.toNatClampNeg)) (ci := 7) (v := .int (if M 43 p2.toNatClampNeg < 0 then (1 : Int32) else 0)) (C := RX8) (T := TX8) (N := 3) hx hb hts hin8 hown hK hP ((hrl _).mpr (vd_7 (ib_cl (ib_in c2 (by decide))).2)) en_7 rfl 0 (by decide) (hts (.fieldLink RX10 241 "SocietyBook$Sheet" "missing" "Z") (by decide +kernel)) (fun _ h9 => h9) rfl dX10_copy_42 ?_
        refine lv_if_eq (tgt := 54) hx hb dX10_copy_45 (by decide) (fun c5 => ?_) (fun c5 => ?_)
        · replace c5 := bo_f c5
          refine lv_aload hx hb dX10_copy_54 (lv_at hl 1 rfl) ?_
          refine lv_iload_n hx hb dX10_copy_56 rfl (lv_at hl 4 rfl) ?_
          refine lv_iload hx hb dX10_copy_57 (lv_at hl 7 rfl) ?_
          refine vp_callSi (W.runV (As := [.int p1, .int p4]) (rest := []) ⟨hx, hb, hml, hown, hts⟩ (c_X8_hasRun l dC dI rl ad cy F M Y p0.toNatClampNeg p1 p4 hrl hI hJ (ib_cl (ib_in c1 (by decide))).2 c3) (cwV 2 hts gX10_copy_X8_hasRun rfl rfl rfl (by decide +kernel) ⟨Nat.le_of_ble_eq_true rfl, Nat.le_of_ble_eq_true rfl⟩) ⟨pc_blind, rg_recv hK hP ((hrl _).mpr (vd_7 (ib_cl (ib_in c1 (by decide))).2)) (ci := 7) rfl en_7, fun U hU hW => ⟨rfl, by rw [hU]; exact hP, va_K.moved hW.alike hK, nst_w hW hN⟩⟩ rfl rfl hl.1 rfl (lv_room (Nat.le_of_ble_eq_true rfl)) dX10_copy_59 ⟨Nat.zero_le _, Nat.zero_le _⟩) (fun r hr9 => ?_)
          subst hr9
          refine lv_if_eq (tgt := 77) hx hb dX10_copy_62 (by decide) (fun c6 => ?_) (fun c6 => ?_)
          · replace c6 := bo_f c6
            refine lv_aload_n hx hb dX10_copy_77 rfl (lv_at hl 2 rfl) ?_
            refine lv_iconst (v := 2) hx hb dX10_copy_78 (by decide) ?_
            refine va_calli (va_runV (As := [.int 2]) (rest := []) ⟨hx, hb, hml, hown, hts⟩ (c_X10_found l dC dI rl ad cy F M Y  2 hrl hI hJ A hD (ib_lit (by decide))) (cwV 1 hts gX10_copy_X10_found rfl rfl rfl (by decide +kernel) ⟨Nat.le_of_ble_eq_true rfl, Nat.le_of_ble_eq_true rfl⟩) ⟨pc_blind, rg_recv hK hP ((hrl _).mpr (vd_9 (by decide))) (ci := 9) rfl en_9, fun U hU hW => ⟨rfl, by rw [hU]; exact hP, va_K.moved hW.alike hK, nst_w hW hN⟩⟩ rfl rfl hl.1 rfl (lv_room (Nat.le_of_ble_eq_true rfl)) dX10_copy_79 ⟨Nat.zero_le _, Nat.zero_le _⟩) hS (fun q _ h => h) (fun q h => h) (fun r u t H1 locs ht hvm hw hB hz1 hk1 hS => ?_)
            subst hw
            obtain ⟨⟨hP, -, -⟩, hD⟩ := hB
            rw [ht] at hP
            clear hz1 hk1 ht hvm; generalize H1 = H at hP hS ⊢
            skip
            have E9 : s_X11_copy F M p0 p1 p2 p3 p4 = ((s_X11_meets F M 2).1, ((s_X11_meets F M 2).2.1, (s_X11_meets F M 2).2.2)) := by unfold s_X11_copy; rw [if_pos c1]; rw [if_pos c2]; rw [if_neg c3]; rw [if_pos (Int32.not_lt.mp c5)]; rcases Classical.em (p1 < 0) with z0 | z0; (· rw [if_pos z0]); (· rw [if_neg z0]; rcases Classical.em (p3 < 0) with z1 | z1; (· rw [if_pos z1]); (· rw [if_neg z1]; rcases Classical.em (p4 < 0) with z2 | z2; (· rw [if_pos z2]); (· rw [if_neg z2]; rw [if_pos (Classical.not_not.mp (fun q => c6 (hr_i ⟨(Int32.not_lt.mp c3), (iv_sz hI _ (ib_cl (ib_in c1 (by decide))).2).2⟩ z0 z2 q)))])))
            exact W.iret (v := (s_X11_meets F M 2).1) hx hb hr (fun t ht hW => ⟨⟨(s_X11_meets F M 2).1, u, rfl, by rw [E9], by rw [E9]; exact ⟨⟨by rw [ht]; exact hP, va_K.moved hW.alike hK, nst_w hW hN⟩, hD⟩⟩, hS.F ht⟩) hS.2.2 dX10_copy_82
          · replace c6 := bo_t c6
            refine lv_aload hx hb dX10_copy_65 (lv_at hl 0 rfl) ?_
            refine lv_iload hx hb dX10_copy_67 (lv_at hl 6 rfl) ?_
            refine lv_iload hx hb dX10_copy_69 (lv_at hl 7 rfl) ?_
            refine vp_callSi (W.runV (As := [.int p3, .int p4]) (rest := []) ⟨hx, hb, hml, hown, hts⟩ (c_X8_hasRun l dC dI rl ad cy F M Y p2.toNatClampNeg p3 p4 hrl hI hJ (ib_cl (ib_in c2 (by decide))).2 c5) (cwV 2 hts gX10_copy_X8_hasRun rfl rfl rfl (by decide +kernel) ⟨Nat.le_of_ble_eq_true rfl, Nat.le_of_ble_eq_true rfl⟩) ⟨pc_blind, rg_recv hK hP ((hrl _).mpr (vd_7 (ib_cl (ib_in c2 (by decide))).2)) (ci := 7) rfl en_7, fun U hU hW => ⟨rfl, by rw [hU]; exact hP, va_K.moved hW.alike hK, nst_w hW hN⟩⟩ rfl rfl hl.1 rfl (lv_room (Nat.le_of_ble_eq_true rfl)) dX10_copy_71 ⟨Nat.zero_le _, Nat.zero_le _⟩) (fun r hr9 => ?_)
            subst hr9
            refine lv_if_ne (tgt := 83) hx hb dX10_copy_74 (by decide) (fun c8 => ?_) (fun c8 => ?_)
            · replace c8 := bo_t c8
              refine lv_aload hx hb dX10_copy_83 (lv_at hl 1 rfl) ?_
              refine rg_get (D := (dC, dI)) (r := (7, p0.toNatClampNeg)) (ci := 7) (v := .ref (ad (24, p0.toNatClampNeg))) (C := RX8) (T := TX8) (N := 3) hx hb hts hin8 hown hK hP ((hrl _).mpr (vd_7 (ib_cl (ib_in c1 (by decide))).2)) en_7 rfl 2 (by decide) (hts (.fieldLink RX10 245 "SocietyBook$Sheet" "bytes" "[B") (by decide +kernel)) (fun _ h9 => h9) rfl dX10_copy_85 ?_
              refine lv_iload_n hx hb dX10_copy_88 rfl (lv_at hl 4 rfl) ?_
              refine lv_aload hx hb dX10_copy_89 (lv_at hl 0 rfl) ?_
              refine rg_get (D := (dC, dI)) (r := (7, p2.toNatClampNeg)) (ci := 7) (v := .ref (ad (24, p2.toNatClampNeg))) (C := RX8) (T := TX8) (N := 3) hx hb hts hin8 hown hK hP ((hrl _).mpr (vd_7 (ib_cl (ib_in c2 (by decide))).2)) en_7 rfl 2 (by decide) (hts (.fieldLink RX10 245 "SocietyBook$Sheet" "bytes" "[B") (by decide +kernel)) (fun _ h9 => h9) rfl dX10_copy_91 ?_
              refine lv_iload hx hb dX10_copy_94 (lv_at hl 6 rfl) ?_
              refine lv_iload hx hb dX10_copy_96 (lv_at hl 7 rfl) ?_
              refine rg_cpy (r0 := (24, p0.toNatClampNeg)) (r1 := (24, p2.toNatClampNeg)) hx hb (hml.trans hl.1.symm) hown (hts (.methodLink RX10 252 arraycopyName) (by decide +kernel)) (hts (.native arraycopyName) (by decide +kernel)) (hts (.static arraycopyName) (by decide +kernel)) (hts (.initialized "java/lang/System") (by decide +kernel)) hK hP hD hS ((hrl _).mpr (vd_24 (ib_cl (ib_in c1 (by decide))).2)) ((hrl _).mpr (vd_24 (ib_cl (ib_in c2 (by decide))).2)) 1 1 en_24 en_24 rfl rfl rfl (hr_u (iv_sz hI _ (ib_cl (ib_in c1 (by decide))).2).2 c6).1 (hr_u (iv_sz hI _ (ib_cl (ib_in c2 (by decide))).2).2 c8).1 (hr_u (iv_sz hI _ (ib_cl (ib_in c1 (by decide))).2).2 c6).2.1 (hr_u (iv_sz hI _ (ib_cl (ib_in c1 (by decide))).2).2 c6).2.2.2 (hr_u (iv_sz hI _ (ib_cl (ib_in c2 (by decide))).2).2 c8).2.2.2 (cy_f hJ (ib_in c1 (by decide)) (hr_u (iv_sz hI _ (ib_cl (ib_in c1 (by decide))).2).2 c6).2.2.2) (Nat.le_of_ble_eq_true rfl) (by decide +kernel) dX10_copy_98 (fun H locs hP hD hS => ?_)
              replace hP : va_P (dC, dI) vwCl (rx_W rl ad (eC ad cy F (va_up (va_up M 45 (L_copy1 F M p0 p1 p2 p3 p4 p4.toNatClampNeg)) 44 (L_copy2 F M p0 p1 p2 p3 p4 p4.toNatClampNeg)) Y)) H := ec_mp (cy_e ad cy F M Y p0 p1 p2 p3 p4 hJ (ib_in c1 (by decide)) (ib_in c2 (by decide)) (hr_u (iv_sz hI _ (ib_cl (ib_in c1 (by decide))).2).2 c6).1 (hr_u (iv_sz hI _ (ib_cl (ib_in c2 (by decide))).2).2 c8).1 (hr_u (iv_sz hI _ (ib_cl (ib_in c1 (by decide))).2).2 c6).2.2.2 (hr_u (iv_sz hI _ (ib_cl (ib_in c2 (by decide))).2).2 c8).2.2.2) hP
              replace hD : va_D A (rx_W rl ad (eC ad cy F (va_up (va_up M 45 (L_copy1 F M p0 p1 p2 p3 p4 p4.toNatClampNeg)) 44 (L_copy2 F M p0 p1 p2 p3 p4 p4.toNatClampNeg)) Y)) := rx_D hD
              refine lv_iconst (v := 1) hx hb dX10_copy_101 (by decide) ?_
              have E9 : s_X11_copy F M p0 p1 p2 p3 p4 = (1, (F, va_up (va_up M 45 (L_copy1 F M p0 p1 p2 p3 p4 p4.toNatClampNeg)) 44 (L_copy2 F M p0 p1 p2 p3 p4 p4.toNatClampNeg))) := by unfold s_X11_copy; rw [if_pos c1]; rw [if_pos c2]; rw [if_neg c3]; rw [if_pos (Int32.not_lt.mp c5)]; rw [if_neg (hr_u (iv_sz hI _ (ib_cl (ib_in c1 (by decide))).2).2 c6).1]; rw [if_neg (hr_u (iv_sz hI _ (ib_cl (ib_in c2 (by decide))).2).2 c8).1]; rw [if_neg (hr_u (iv_sz hI _ (ib_cl (ib_in c1 (by decide))).2).2 c6).2.1]; rw [if_neg (hr_u (iv_sz hI _ (ib_cl (ib_in c1 (by decide))).2).2 c6).2.2.1]; rw [if_pos (Int32.not_lt.mp (hr_u (iv_sz hI _ (ib_cl (ib_in c2 (by decide))).2).2 c8).2.2.1)]
              exact W.iret (v := 1) hx hb hr (fun t ht hW => ⟨⟨1, Y, rfl, by rw [E9], by rw [E9]; exact ⟨⟨by rw [ht]; exact hP, va_K.moved hW.alike hK, nst_w hW hN⟩, hD⟩⟩, hS.F ht⟩) hS.2.2 dX10_copy_102
            · replace c8 := bo_f c8
              refine lv_aload_n hx hb dX10_copy_77 rfl (lv_at hl 2 rfl) ?_
              refine lv_iconst (v := 2) hx hb dX10_copy_78 (by decide) ?_
              refine va_calli (va_runV (As := [.int 2]) (rest := []) ⟨hx, hb, hml, hown, hts⟩ (c_X10_found l dC dI rl ad cy F M Y  2 hrl hI hJ A hD (ib_lit (by decide))) (cwV 1 hts gX10_copy_X10_found rfl rfl rfl (by decide +kernel) ⟨Nat.le_of_ble_eq_true rfl, Nat.le_of_ble_eq_true rfl⟩) ⟨pc_blind, rg_recv hK hP ((hrl _).mpr (vd_9 (by decide))) (ci := 9) rfl en_9, fun U hU hW => ⟨rfl, by rw [hU]; exact hP, va_K.moved hW.alike hK, nst_w hW hN⟩⟩ rfl rfl hl.1 rfl (lv_room (Nat.le_of_ble_eq_true rfl)) dX10_copy_79 ⟨Nat.zero_le _, Nat.zero_le _⟩) hS (fun q _ h => h) (fun q h => h) (fun r u t H1 locs ht hvm hw hB hz1 hk1 hS => ?_)
              subst hw
              obtain ⟨⟨hP, -, -⟩, hD⟩ := hB
              rw [ht] at hP
              clear hz1 hk1 ht hvm; generalize H1 = H at hP hS ⊢
              skip
              have E9 : s_X11_copy F M p0 p1 p2 p3 p4 = ((s_X11_meets F M 2).1, ((s_X11_meets F M 2).2.1, (s_X11_meets F M 2).2.2)) := by unfold s_X11_copy; rw [if_pos c1]; rw [if_pos c2]; rw [if_neg c3]; rw [if_pos (Int32.not_lt.mp c5)]; rw [if_neg (hr_u (iv_sz hI _ (ib_cl (ib_in c1 (by decide))).2).2 c6).1]; rcases Classical.em (p3 < 0) with z0 | z0; (· rw [if_pos z0]); (· rw [if_neg z0]; rw [if_neg (hr_u (iv_sz hI _ (ib_cl (ib_in c1 (by decide))).2).2 c6).2.1]; rw [if_neg (hr_u (iv_sz hI _ (ib_cl (ib_in c1 (by decide))).2).2 c6).2.2.1]; rw [if_neg (show ¬ (lg_cmp (p3.toInt64 + p4.toInt64) (((M 43) p2.toNatClampNeg).toInt64)) ≤ 0 from fun q => c8 (hr_i ⟨(Int32.not_lt.mp c5), (iv_sz hI _ (ib_cl (ib_in c2 (by decide))).2).2⟩ z0 (hr_u (iv_sz hI _ (ib_cl (ib_in c1 (by decide))).2).2 c6).2.1 (Int32.not_lt.mpr q)))])
              exact W.iret (v := (s_X11_meets F M 2).1) hx hb hr (fun t ht hW => ⟨⟨(s_X11_meets F M 2).1, u, rfl, by rw [E9], by rw [E9]; exact ⟨⟨by rw [ht]; exact hP, va_K.moved hW.alike hK, nst_w hW hN⟩, hD⟩⟩, hS.F ht⟩) hS.2.2 dX10_copy_82
        · replace c5 := bo_t c5
          refine lv_aload_n hx hb dX10_copy_48 rfl (lv_at hl 2 rfl) ?_
          refine lv_iconst (v := 1) hx hb dX10_copy_49 (by decide) ?_
          refine va_calli (va_runV (As := [.int 1]) (rest := []) ⟨hx, hb, hml, hown, hts⟩ (c_X10_found l dC dI rl ad cy F M Y  1 hrl hI hJ A hD (ib_lit (by decide))) (cwV 1 hts gX10_copy_X10_found rfl rfl rfl (by decide +kernel) ⟨Nat.le_of_ble_eq_true rfl, Nat.le_of_ble_eq_true rfl⟩) ⟨pc_blind, rg_recv hK hP ((hrl _).mpr (vd_9 (by decide))) (ci := 9) rfl en_9, fun U hU hW => ⟨rfl, by rw [hU]; exact hP, va_K.moved hW.alike hK, nst_w hW hN⟩⟩ rfl rfl hl.1 rfl (lv_room (Nat.le_of_ble_eq_true rfl)) dX10_copy_50 ⟨Nat.zero_le _, Nat.zero_le _⟩) hS (fun q _ h => h) (fun q h => h) (fun r u t H1 locs ht hvm hw hB hz1 hk1 hS => ?_)
          subst hw
          obtain ⟨⟨hP, -, -⟩, hD⟩ := hB
          rw [ht] at hP
          clear hz1 hk1 ht hvm; generalize H1 = H at hP hS ⊢
          skip
          have E9 : s_X11_copy F M p0 p1 p2 p3 p4 = ((s_X11_meets F M 1).1, ((s_X11_meets F M 1).2.1, (s_X11_meets F M 1).2.2)) := by unfold s_X11_copy; rw [if_pos c1]; rw [if_pos c2]; rw [if_neg c3]; rw [if_neg (Int32.not_le.mpr c5)]
          exact W.iret (v := (s_X11_meets F M 1).1) hx hb hr (fun t ht hW => ⟨⟨(s_X11_meets F M 1).1, u, rfl, by rw [E9], by rw [E9]; exact ⟨⟨by rw [ht]; exact hP, va_K.moved hW.alike hK, nst_w hW hN⟩, hD⟩⟩, hS.F ht⟩) hS.2.2 dX10_copy_53
    · replace c2 := bo_f c2
      refine lv_iconst (v := (-1)) hx hb dX10_copy_14 (by decide) ?_
      have E9 : s_X11_copy F M p0 p1 p2 p3 p4 = ((-1), (F, M)) := by unfold s_X11_copy; rw [if_pos c1]; rw [if_neg c2]
      exact W.iret (v := (-1)) hx hb hr (fun t ht hW => ⟨⟨(-1), Y, rfl, by rw [E9], by rw [E9]; exact ⟨⟨by rw [ht]; exact hP, va_K.moved hW.alike hK, nst_w hW hN⟩, hD⟩⟩, hS.F ht⟩) hS.2.2 dX10_copy_15
