theorem ka_p {ty : FieldType} {args : Array Value} {s : State} (h : (Cond.arrayClass ty).before args s = true) : ∃ cA : ClassId, ArrOfT s cA ty ∧ s.vm.findClass ("[" ++ ty.toString) = some cA := by
  obtain ⟨cA, kA, comp, h1, h2, h3⟩ := Cond.arrayClass_spec h
  exact ⟨cA, fun n z => ⟨fun k h => (by cases h), kA, h2, comp, h3⟩, h1⟩
theorem ka_o {C : String} {args : Array Value} {s : State} (h : (Cond.arrayOver (.object C)).before args s = true) : ∃ cA : ClassId, ArrOfT s cA (.object C) ∧ va_RA s cA (.object C) := by
  obtain ⟨comp, cA, kA, h1, h2, h3, h4, h5⟩ := Cond.arrayOver_spec h
  exact ⟨cA, fun n z => ⟨fun k h => (by cases h), kA, h3, comp, h4⟩, kA, comp, h3, h4, h1, h5⟩
theorem ka_a {t : FieldType} {args : Array Value} {s : State} (h : (Cond.arrayOver (.array t)).before args s = true) : ∃ cA : ClassId, ArrOfT s cA (.array t) ∧ va_RA s cA (.array t) := by
  obtain ⟨comp, cA, kA, h1, h2, h3, h4, h5⟩ := arrayOverA_spec h
  exact ⟨cA, fun n z => ⟨fun k h => (by cases h), kA, h3, comp, h4⟩, h5⟩
theorem pB_blind {av : List Value} {A : Nat → Prop} {dC : Nat → ClassId} {dI : Nat → Nat → Nat} {cy : Nat → ClassId} {h : Nat} : FrameBlind (va_Pc av (pB A dC dI cy h)) := fun a U g mk q => by
  obtain ⟨q0, q1, qP, qK, qN, qO, o6, o5, o9, o0, o1, o3, o8, n47, n62, n63, n64⟩ := q
  have al : U.vm.Alike (U.calling g mk a).vm := Vm.Alike.refl U.vm
  exact ⟨q0, q1, qP, va_K.moved al qK, nst_b qN, va_AOA.moved al qO, va_AO.moved al o6, va_AO.moved al o5, va_AO.moved al o9, va_AO.moved al o0, va_AO.moved al o1, va_AO.moved al o3, va_AO.moved al o8, va_Nw.same rfl rfl n47, va_Nw.same rfl rfl n62, va_Nw.same rfl rfl n63, va_Nw.same rfl rfl n64⟩
theorem pI_blind {av : List Value} {A : Nat → Prop} {dC : Nat → ClassId} {dI : Nat → Nat → Nat} {h : Nat} {cI cB cZ : ClassId} : FrameBlind (va_Pc av (pI A dC dI h cI cB cZ)) := fun a U g mk q => ⟨q.1, q.2.1, q.2.2.1, va_K.moved (u := U) (U := U.calling g mk a) (Vm.Alike.refl U.vm) q.2.2.2⟩
set_option maxHeartbeats 4000000 in
set_option maxRecDepth 100000 in
theorem lS_ex {p : Program} {s : State} {m : MethodId} {meth : Method} {c : Code} {b L : Nat} {xs : Nat → Int32} (C0 : lw_At p s m meth c b L xs) : ∃ (dC : Nat → ClassId) (dI : Nat → Nat → Nat) (cy : Nat → ClassId) (cI cB cZ : ClassId), lS s dC dI cy cI cB cZ := by
  obtain ⟨hx, hb, hr, hml, hown, hts, hX, hbl, hlocks, hgv⟩ := C0
  obtain ⟨c0, iS0, hKn0⟩ := u_known (C := RX0) (T := TX0) (N := 6) (n := 6) hts inX0 (hts (.instantiable RX0 6) (by decide +kernel))
  obtain ⟨c1, iS1, hKn1⟩ := u_known (C := RX1) (T := TX1) (N := 3) (n := 3) hts inX1 (hts (.instantiable RX1 3) (by decide +kernel))
  obtain ⟨c2, iS2, hKn2⟩ := u_known (C := RX2) (T := TX2) (N := 3) (n := 3) hts inX2 (hts (.instantiable RX2 3) (by decide +kernel))
  obtain ⟨c3, iS3, hKn3⟩ := u_known (C := RX3) (T := TX3) (N := 4) (n := 4) hts inX3 (hts (.instantiable RX3 4) (by decide +kernel))
  obtain ⟨c4, iS4, hKn4⟩ := u_known (C := RX4) (T := TX4) (N := 3) (n := 3) hts inX4 (hts (.instantiable RX4 3) (by decide +kernel))
  obtain ⟨c5, iS5, hKn5⟩ := u_known (C := RX5) (T := TX5) (N := 9) (n := 9) hts inX5 (hts (.instantiable RX5 9) (by decide +kernel))
  obtain ⟨c6, iS6, hKn6⟩ := u_known (C := RX6) (T := TX6) (N := 2) (n := 2) hts inX6 (hts (.instantiable RX6 2) (by decide +kernel))
  obtain ⟨c7, iS7, hKn7⟩ := u_known (C := RX8) (T := TX8) (N := 3) (n := 3) hts inX8 (hts (.instantiable RX8 3) (by decide +kernel))
  obtain ⟨c8, iS8, hKn8⟩ := u_known (C := RX9) (T := TX9) (N := 3) (n := 3) hts inX9 (hts (.instantiable RX9 3) (by decide +kernel))
  obtain ⟨c9, iS9, hKn9⟩ := u_known (C := RX10) (T := TX10) (N := 19) (n := 19) hts inX10 (hts (.instantiable RX10 19) (by decide +kernel))
  obtain ⟨c10, iS10, hKn10⟩ := u_known (C := RX11) (T := TX11) (N := 49) (n := 49) hts inX11 (hts (.instantiable RX11 49) (by decide +kernel))
  obtain ⟨dC, dI, hKc⟩ : ∃ (dC : Nat → ClassId) (dI : Nat → Nat → Nat), ∀ (k : Nat) (q : vw_C), vwCl[k]? = some q → u_Kn s q.1 q.2.1 q.2.2 (dC k) (dI k) := by
    refine ⟨fun k => [c0, c1, c2, c3, c4, c5, c6, c7, c8, c9, c10].getD k c0, fun k => [iS0, iS1, iS2, iS3, iS4, iS5, iS6, iS7, iS8, iS9, iS10].getD k iS0, ?_⟩
    intro k q hq
    match k, hq with
    | 0, hq => cases hq; exact hKn0
    | 1, hq => cases hq; exact hKn1
    | 2, hq => cases hq; exact hKn2
    | 3, hq => cases hq; exact hKn3
    | 4, hq => cases hq; exact hKn4
    | 5, hq => cases hq; exact hKn5
    | 6, hq => cases hq; exact hKn6
    | 7, hq => cases hq; exact hKn7
    | 8, hq => cases hq; exact hKn8
    | 9, hq => cases hq; exact hKn9
    | 10, hq => cases hq; exact hKn10
    | k + 11, hq => simp [vwCl] at hq
  obtain ⟨cI, aI, rI⟩ := ka_p (hts (.arrayClass .int) (by decide +kernel))
  obtain ⟨cB, aB, rB⟩ := ka_p (hts (.arrayClass .byte) (by decide +kernel))
  obtain ⟨cZ, aZ, rZ⟩ := ka_p (hts (.arrayClass .boolean) (by decide +kernel))
  obtain ⟨eRX6, aRX6, rRX6⟩ := ka_o (hts (.arrayOver (.object RX6)) (by decide +kernel))
  obtain ⟨eRX5, aRX5, rRX5⟩ := ka_o (hts (.arrayOver (.object RX5)) (by decide +kernel))
  obtain ⟨eRX9, aRX9, rRX9⟩ := ka_o (hts (.arrayOver (.object RX9)) (by decide +kernel))
  obtain ⟨eRX0, aRX0, rRX0⟩ := ka_o (hts (.arrayOver (.object RX0)) (by decide +kernel))
  obtain ⟨eRX1, aRX1, rRX1⟩ := ka_o (hts (.arrayOver (.object RX1)) (by decide +kernel))
  obtain ⟨eRX4, aRX4, rRX4⟩ := ka_o (hts (.arrayOver (.object RX4)) (by decide +kernel))
  obtain ⟨eRX3, aRX3, rRX3⟩ := ka_o (hts (.arrayOver (.object RX3)) (by decide +kernel))
  obtain ⟨eRX8, aRX8, rRX8⟩ := ka_o (hts (.arrayOver (.object RX8)) (by decide +kernel))
  obtain ⟨eA, aA, rA⟩ := ka_a (hts (.arrayOver (.array .int)) (by decide +kernel))
  refine ⟨dC, dI, fun k => [cI, cB, eRX6, eRX5, eRX9, eRX0, eRX1, eRX4, eRX3, eRX8, eA].getD k cI, cI, cB, cZ, ⟨hKc, ?_⟩, ?_, ⟨hKc, ?_⟩, va_AO.of (hts (.arrayOver (.object RX4)) (by decide +kernel))⟩
  · intro k q hk
    match k, hk with
    | 0, hk => cases hk; exact ⟨aI, rI⟩
    | 1, hk => cases hk; exact ⟨aB, rB⟩
    | 2, hk => cases hk; exact ⟨aRX6, rRX6⟩
    | 3, hk => cases hk; exact ⟨aRX5, rRX5⟩
    | 4, hk => cases hk; exact ⟨aRX9, rRX9⟩
    | 5, hk => cases hk; exact ⟨aRX0, rRX0⟩
    | 6, hk => cases hk; exact ⟨aRX1, rRX1⟩
    | 7, hk => cases hk; exact ⟨aRX4, rRX4⟩
    | 8, hk => cases hk; exact ⟨aRX3, rRX3⟩
    | 9, hk => cases hk; exact ⟨aRX8, rRX8⟩
    | 10, hk => cases hk; exact ⟨aA, rA⟩
    | k + 11, hk => simp [tyC] at hk
  · exact ⟨va_Nw.of rfl (hts (.methodLinkNest RX2 56 yX10_isWithin "SocietyBook") (by decide +kernel)), va_Nw.of rfl (hts (.methodLinkNest RX5 58 yX10_isWithin "SocietyBook") (by decide +kernel)), va_Nw.of rfl (hts (.methodLinkNest RX8 23 yX10_isWithin "SocietyBook") (by decide +kernel)), va_Nw.of rfl (hts (.methodLinkNest RX8 27 yX10_mixed "SocietyBook") (by decide +kernel))⟩
  · intro k q hk
    match k, hk with
    | 0, hk => cases hk; exact ⟨aI, rI⟩
    | 1, hk => cases hk; exact ⟨aB, rB⟩
    | 2, hk => cases hk; exact ⟨aZ, rZ⟩
    | k + 3, hk => simp at hk
set_option maxHeartbeats 4000000 in
set_option maxRecDepth 100000 in
theorem whole_start {p : Program} {e : Env} {s : State} {m : MethodId} {below : List Frame} {meth : Method} {c : Code} (l : Launch) {b L : Nat} {xs : Nat → Int32} (hL : L ≤ 3584) (C0 : lw_At p s m meth c b L xs) : W p l e room_1 s m #[Value.ref b] below meth c s.heap [] 0 0 (lw_Z below #[Value.ref b] s) (entryFrame m ([Value.ref b] : List Value).toArray 4) := by
  obtain ⟨dC, dI, cy, cI, cB, cZ, hSt⟩ := lS_ex C0
  obtain ⟨hx, hb, hr, hml, hown, hts0, hX, hbl, hlocks, hgv⟩ := id C0
  obtain ⟨hK, hN, hK3, hO4⟩ := id hSt
  have hts : ∀ w ∈ wsL_law, w.before #[Value.ref b] s = true := fun w hw => hts0 w (wsL_law_in w hw)
  replace hown : s.vm.findClass RL = some m.cls := hown
  have hOA : va_AOA .int s := hts0 (.arrayOver (.array .int)) (by decide +kernel)
  have hORX6 : va_AO RX6 s := va_AO.of (hts0 (.arrayOver (.object RX6)) (by decide +kernel))
  have hORX5 : va_AO RX5 s := va_AO.of (hts0 (.arrayOver (.object RX5)) (by decide +kernel))
  have hORX9 : va_AO RX9 s := va_AO.of (hts0 (.arrayOver (.object RX9)) (by decide +kernel))
  have hORX0 : va_AO RX0 s := va_AO.of (hts0 (.arrayOver (.object RX0)) (by decide +kernel))
  have hORX1 : va_AO RX1 s := va_AO.of (hts0 (.arrayOver (.object RX1)) (by decide +kernel))
  have hORX3 : va_AO RX3 s := va_AO.of (hts0 (.arrayOver (.object RX3)) (by decide +kernel))
  have hORX8 : va_AO RX8 s := va_AO.of (hts0 (.arrayOver (.object RX8)) (by decide +kernel))
  have hN47 : va_Nw (.methodLinkNest RX10 47 yX2_init "SocietyBook") s := va_Nw.of rfl (hts0 (.methodLinkNest RX10 47 yX2_init "SocietyBook") (by decide +kernel))
  have hN62 : va_Nw (.methodLinkNest RX10 62 yX6_init "SocietyBook") s := va_Nw.of rfl (hts0 (.methodLinkNest RX10 62 yX6_init "SocietyBook") (by decide +kernel))
  have hN63 : va_Nw (.methodLinkNest RX10 63 yX3_init "SocietyBook") s := va_Nw.of rfl (hts0 (.methodLinkNest RX10 63 yX3_init "SocietyBook") (by decide +kernel))
  have hN64 : va_Nw (.methodLinkNest RX10 64 yX8_init "SocietyBook") s := va_Nw.of rfl (hts0 (.methodLinkNest RX10 64 yX8_init "SocietyBook") (by decide +kernel))
  have hS : va_S (A0 s) s.heap s.heap [] := va_S.rf
  have hP : va_P (dC, dI) vwCl [] s.heap := fun k q h => by simp at h
  have hD : va_D (A0 s) [] := ⟨fun i j p q h => by simp at h, fun k q h => by simp at h⟩
  have hl := lv_entry ([.ref b]) (n := 4) (Nat.le_of_ble_eq_true rfl)
  rw [lg_entry_eq]
  generalize (lg_sl ([.ref b]) ++ List.replicate (4 - (lg_sl ([.ref b])).length) Slot.unset).toArray = ls at hl ⊢
  have hl : lv_has ls 4 [(0, .ref b)] := hl
  refine va_new (ci := 9) (fs := [.int 0, .int 0, .null, .null, .int 0, .int 0, .null, .int 0, .null, .int 0, .null, .int 0, .null, .int 0, .null, .null, .int 0, .int 0, .null]) (C := RX10) (T := TX10) (N := 19) hx hb hts inlX10 tyX10 tyX10_ok hown (hts (.classLink RL 7 RX10) (by decide +kernel)) (hts (.instantiable RX10 19) (by decide +kernel)) (hts (.initialized RX10) (by decide +kernel)) hK hP hD hS (fun _ h => h) rfl (fun j hj => by rcases (show j = 0 ∨ j = 1 ∨ j = 2 ∨ j = 3 ∨ j = 4 ∨ j = 5 ∨ j = 6 ∨ j = 7 ∨ j = 8 ∨ j = 9 ∨ j = 10 ∨ j = 11 ∨ j = 12 ∨ j = 13 ∨ j = 14 ∨ j = 15 ∨ j = 16 ∨ j = 17 ∨ j = 18 by omega) with rfl | rfl | rfl | rfl | rfl | rfl | rfl | rfl | rfl | rfl | rfl | rfl | rfl | rfl | rfl | rfl | rfl | rfl | rfl <;> rfl) (Nat.le_of_ble_eq_true rfl) (Nat.le_of_ble_eq_true rfl) dL_law_0 (fun qx H hP hD hS => ?_)
  have hP : va_P (dC, dI) vwCl [(qx, .inr (9, [.int 0, .int 0, .null, .null, .int 0, .int 0, .null, .int 0, .null, .int 0, .null, .int 0, .null, .int 0, .null, .null, .int 0, .int 0, .null]))] H := hP
  have hD : va_D (A0 s) [(qx, .inr (9, [.int 0, .int 0, .null, .null, .int 0, .int 0, .null, .int 0, .null, .int 0, .null, .int 0, .null, .int 0, .null, .null, .int 0, .int 0, .null]))] := hD
  refine lv_dup hx hb dL_law_3 rfl ?_
  refine va_callv (va_runI (As := []) (rest := [.ref qx]) ⟨hx, hb, hml, hown, hts⟩ (c_X10_init l dC dI cy qx (A0 s) hD) (cwI 0 hts gL_law_X10_init rfl rfl rfl (hts (.initialized RX10) (by decide +kernel)) (hts (.methodLink RL 9 yX10_init) (by decide +kernel)) (hts (.instanceMethod yX10_init) (by decide +kernel)) rfl (by decide +kernel) ⟨(Nat.le_of_ble_eq_true rfl), (Nat.le_of_ble_eq_true rfl)⟩) ⟨pB_blind, fun U hU hW => ⟨rfl, by rw [hU]; exact fun q hq => Nat.le_trans hS.1 hq, by rw [hU]; exact hP, va_K.moved hW.alike hK, nst_w hW hN, va_AOA.moved hW.alike hOA, va_AO.moved hW.alike hORX6, va_AO.moved hW.alike hORX5, va_AO.moved hW.alike hORX9, va_AO.moved hW.alike hORX0, va_AO.moved hW.alike hORX1, va_AO.moved hW.alike hORX3, va_AO.moved hW.alike hORX8, va_Nw.warmM hW hN47, va_Nw.warmM hW hN62, va_Nw.warmM hW hN63, va_Nw.warmM hW hN64⟩⟩ rfl rfl hl.1 rfl (lv_room (Nat.le_of_ble_eq_true rfl)) dL_law_4 ⟨(Nat.le_of_ble_eq_true rfl), (Nat.le_of_ble_eq_true rfl)⟩) hS (fun q _ h => h) (fun q h => h) (fun ad t H1 locs ht hvm hw hB hz1 hk1 hS => ?_)
  obtain ⟨⟨hP1, -, -⟩, hD1⟩ := hB
  rw [ht] at hP1
  refine lv_astore_n (lv' := [(1, .ref qx), (0, .ref b)]) hx hb dL_law_7 rfl hl (by decide) rfl (fun ls hl => ?_)
  refine va_forget (fun q hq => hS.2.2 q hq) ?_
  have hS2 : va_S (fun q => H1.size ≤ q) H1 H1 [] := va_S.rf
  have hP0 : va_P (dC, dI) vwCl [] H1 := fun k q h => by simp at h
  have hD0 : va_D (fun q => H1.size ≤ q) [] := ⟨fun i j p q h => by simp at h, fun k q h => by simp at h⟩
  refine va_new (ci := 10) (fs := [.int 0, .null, .int 0, .int 0, .int 0, .null, .null, .int 0, .null, .null, .null, .null, .null, .null, .null, .null, .int 0, .null, .null, .null, .null, .int 0, .null, .null, .null, .int 0, .null, .null, .null, .null, .null, .null, .int 0, .null, .null, .null, .null, .null, .int 0, .null, .null, .null, .null, .null, .null, .null, .null, .null, .null]) (C := RX11) (T := TX11) (N := 49) hx hb hts inlX11 tyX11 tyX11_ok hown (hts (.classLink RL 10 RX11) (by decide +kernel)) (hts (.instantiable RX11 49) (by decide +kernel)) (hts (.initialized RX11) (by decide +kernel)) hK hP0 hD0 hS2 (fun _ h => h) rfl (fun j hj => by rcases (show j = 0 ∨ j = 1 ∨ j = 2 ∨ j = 3 ∨ j = 4 ∨ j = 5 ∨ j = 6 ∨ j = 7 ∨ j = 8 ∨ j = 9 ∨ j = 10 ∨ j = 11 ∨ j = 12 ∨ j = 13 ∨ j = 14 ∨ j = 15 ∨ j = 16 ∨ j = 17 ∨ j = 18 ∨ j = 19 ∨ j = 20 ∨ j = 21 ∨ j = 22 ∨ j = 23 ∨ j = 24 ∨ j = 25 ∨ j = 26 ∨ j = 27 ∨ j = 28 ∨ j = 29 ∨ j = 30 ∨ j = 31 ∨ j = 32 ∨ j = 33 ∨ j = 34 ∨ j = 35 ∨ j = 36 ∨ j = 37 ∨ j = 38 ∨ j = 39 ∨ j = 40 ∨ j = 41 ∨ j = 42 ∨ j = 43 ∨ j = 44 ∨ j = 45 ∨ j = 46 ∨ j = 47 ∨ j = 48 by omega) with rfl | rfl | rfl | rfl | rfl | rfl | rfl | rfl | rfl | rfl | rfl | rfl | rfl | rfl | rfl | rfl | rfl | rfl | rfl | rfl | rfl | rfl | rfl | rfl | rfl | rfl | rfl | rfl | rfl | rfl | rfl | rfl | rfl | rfl | rfl | rfl | rfl | rfl | rfl | rfl | rfl | rfl | rfl | rfl | rfl | rfl | rfl | rfl | rfl <;> rfl) (Nat.le_of_ble_eq_true rfl) (Nat.le_of_ble_eq_true rfl) dL_law_8 (fun h H2 hPm hDm hS2 => ?_)
  have hPm : va_P (dC, dI) vwCl (w_0 h) H2 := hPm
  have hDm : va_D (fun q => H1.size ≤ q) (w_0 h) := hDm
  refine lv_dup hx hb dL_law_11 rfl ?_
  refine va_callv (va_runI (As := []) (rest := [.ref h]) ⟨hx, hb, hml, hown, hts⟩ (c_X11_init l dC dI h cI cB cZ (fun q => H1.size ≤ q) hDm) (cwI 0 hts gL_law_X11_init rfl rfl rfl (hts (.initialized RX11) (by decide +kernel)) (hts (.methodLink RL 12 yX11_init) (by decide +kernel)) (hts (.instanceMethod yX11_init) (by decide +kernel)) rfl (by decide +kernel) ⟨(Nat.le_of_ble_eq_true rfl), (Nat.le_of_ble_eq_true rfl)⟩) ⟨pI_blind, fun U hU hW => ⟨rfl, by rw [hU]; exact fun q hq => Nat.le_trans hS2.1 hq, by rw [hU]; exact hPm, va_K.moved hW.alike hK3⟩⟩ rfl rfl hl.1 rfl (lv_room (Nat.le_of_ble_eq_true rfl)) dL_law_12 ⟨(Nat.le_of_ble_eq_true rfl), (Nat.le_of_ble_eq_true rfl)⟩) hS2 (fun q _ h => h) (fun q h => h) (fun a t3 H3 locs3 ht3 hvm3 hw3 hB3 hz3 hk3 hS3 => ?_)
  obtain ⟨⟨hPR, -⟩, hDR⟩ := hB3
  rw [ht3] at hPR
  have hPX := wk hP1 (fun k q hk => hS3.2.1 q.1 (hP1 k q hk).lt (Nat.not_le.mpr (hP1 k q hk).lt))
  have hge : ∀ q, AR h a q → H1.size ≤ q := by
    intro q hq
    unfold AR at hq
    rw [← aR_w (cI := cI) (cB := cB) (cZ := cZ) (F := zF) (M := M_0)] at hq
    obtain ⟨x, h1, h2⟩ := List.mem_map.mp hq
    obtain ⟨k, h3⟩ := List.getElem?_of_mem h1
    have := hDR.2 k x h3
    rw [← h2]
    exact this
  have hDX : va_D (AX s h a) (rx_W rl_0 ad (eC ad cy zF M_0 zM)) := hD1.weaken (fun k q hk z => ⟨z, fun y => absurd (hge _ y) (Nat.not_le.mpr (hP1 k q hk).lt)⟩)
  have hSF : va_S (A0 s) s.heap H3 locs3 := ⟨Nat.le_trans hS.1 hS3.1, fun q h1 h2 => (hS3.2.1 q (Nat.lt_of_lt_of_le h1 hS.1) (Nat.not_le.mpr (Nat.lt_of_lt_of_le h1 hS.1))).trans (hS.2.1 q h1 h2), fun q hq => Nat.le_trans hS.1 (hS3.2.2 q hq)⟩
  refine lv_astore_n (lv' := [(2, .ref h), (1, .ref qx), (0, .ref b)]) hx hb dL_law_15 rfl hl (by decide) rfl (fun ls hl => ?_)
  refine lv_iconst (v := 0) hx hb dL_law_16 (by decide) ?_
  refine lv_istore_n (lv' := [(3, .int 0), (2, .ref h), (1, .ref qx), (0, .ref b)]) hx hb dL_law_17 rfl hl (by decide) rfl (fun ls hl => ?_)
  refine W.widen (k := 100 + 2 * 0) (n := 3000 + 12 * 0) (by decide) (by decide) ?_
  exact law_loop hL C0 hSt qx (L + 1) 0 0 rfl (by omega) H3 locs3 ⟨zF, M_0, zM, rl_0, ad, k_0, hw, rl_0v, hPX, hDX, hPR, dR hDR, hSF, fun q hq => Nat.le_trans hS.1 (hge q hq)⟩ ls (lv_sub hl [3, 2, 1, 0] rfl) (by decide)
