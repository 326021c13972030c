section RN
variable {p : Program} {l : Launch} {e : Env} {R : Room} {s : State} {m : MethodId} {args : Array Value} {below : List Frame} {meth : Method} {c : Code} {H : Heap} {locs : List Loc} {cells slots : Nat} {Q : State → Prop} {cc : ByteArray} {pc : Nat} {ls : Array Slot} {rest : List Value} {D : va_G} {cl : List vw_C} {A : Nat → Prop} {tys : List (ClassId × FieldType)} {H0 : Heap} {rl : List (Nat × Nat)} {ad : Nat × Nat → Nat} {en : Nat × Nat → va_E} {r : Nat × Nat}
theorem rg_new (hexec : p.tables.exec = Jvm.exec) (hb : c.code = cc) {own C : String} {T : u_T} {N ci index : Nat} {Ts : List Cond} (hts : ∀ w ∈ Ts, w.before args s = true) (hin : ∀ w ∈ u_ws C T N, w ∈ Ts) (ty : Nat → FieldType) (hty : ∀ k, k < N → parseFieldDescriptor (T k).2.2.1 = some (ty k)) (hown : s.vm.findClass own = some m.cls) (hcl : (Cond.classLink own index C).before args s = true) (hinst : (Cond.instantiable C N).before args s = true) (hini : (Cond.initialized C).before args s = true)
    (hK : va_K D cl tys s) (hP : va_P D cl (rx_W rl ad en) H) (hD : va_D A (rx_W rl ad en)) (hS : va_S A H0 H locs) (hA : ∀ q, H0.size ≤ q → A q) (hc : cl[ci]? = some (C, T, N)) {fs : List Value} (hfs : ∀ j, j < N → defaultValue (ty j) = vp_V fs j) (hcells : cells + 1 ≤ R.cells) (hslots : slots + N ≤ R.slots) (hdg : decode cc pc = .ok (.new index, 3)) (hnr : r ∉ rl)
    (kk : ∀ (a2 : Nat × Nat → Nat) (H1 : Heap), (∀ x, ¬ x = r → a2 x = ad x) → va_P D cl (rx_W (rl ++ [r]) a2 (ru_ en r (.inr (ci, fs)))) H1 → va_D A (rx_W (rl ++ [r]) a2 (ru_ en r (.inr (ci, fs)))) → va_S A H0 H1 locs →
      W p l e R s m args below meth c H1 locs (cells + 1) (slots + N) Q (F0 m (pc + 3) ls (.ref (a2 r) :: rest))) : W p l e R s m args below meth c H locs cells slots Q (F0 m pc ls rest) := by
  refine va_new hexec hb hts hin ty hty hown hcl hinst hini hK hP hD hS hA hc hfs hcells hslots hdg (fun q H1 hP1 hD1 hS1 => ?_)
  rw [rx_push hnr] at hP1 hD1
  have k := kk (au_ ad r q) H1 (fun x hx => au_n hx) hP1 hD1 hS1
  rwa [au_s] at k
theorem rg_newq (hexec : p.tables.exec = Jvm.exec) (hb : c.code = cc) {own C : String} {index : Nat} (hown : s.vm.findClass own = some m.cls) (hclink : (Cond.classLink own index C).before args s = true) (hover : va_AO C s) (hK : va_K D cl tys s) (hP : va_P D cl (rx_W rl ad en) H) (hD : va_D A (rx_W rl ad en)) (hS : va_S A H0 H locs) (hA : ∀ q, H0.size ≤ q → A q)
    {n : Int32} {N' : Nat} (hn : ¬ n < 0) (hN : n.toNatClampNeg = N') (hbytes : N' * 4 ≤ 536870912) (hcells : cells + 1 ≤ R.cells) (hslots : slots + N' ≤ R.slots) (hdg : decode cc pc = .ok (.anewarray index, 3)) (hnr : r ∉ rl)
    (kk : ∀ (a2 : Nat × Nat → Nat) (cA : ClassId) (H1 : Heap), (∀ x, ¬ x = r → a2 x = ad x) → va_RA s cA (.object C) → va_K D cl (tys ++ [(cA, .object C)]) s → va_P D cl (rx_W (rl ++ [r]) a2 (ru_ en r (.inl (cA, N', rf_ (fun _ => none))))) H1 → va_D A (rx_W (rl ++ [r]) a2 (ru_ en r (.inl (cA, N', rf_ (fun _ => none))))) → va_S A H0 H1 locs →
      W p l e R s m args below meth c H1 locs (cells + 1) (slots + N') Q (F0 m (pc + 3) ls (.ref (a2 r) :: rest))) : W p l e R s m args below meth c H locs cells slots Q (F0 m pc ls (.int n :: rest)) := by
  refine va_newq hexec hb hown hclink hover hK hP hD hS hA hn hN hbytes hcells hslots hdg (fun q cA H1 hK1 hP1 hD1 hS1 => ?_)
  rw [rx_push hnr] at hP1 hD1
  have hra : va_RA s cA (.object C) := (hK1.2 tys.length (cA, .object C) (by rw [List.getElem?_append_right (Nat.le_refl _), Nat.sub_self]; rfl)).2
  have k := kk (au_ ad r q) cA H1 (fun x hx => au_n hx) hra hK1 hP1 hD1 hS1
  rwa [au_s] at k
end RN
theorem ra_one {U : State} {a b : ClassId} {C : String} (h1 : va_RA U a (.object C)) (h2 : va_RA U b (.object C)) : a = b := by
  obtain ⟨_, _, -, -, -, e1⟩ := h1
  obtain ⟨_, _, -, -, -, e2⟩ := h2
  rw [e1] at e2
  exact Option.some.inj e2
theorem ru_ru {en : Nat × Nat → va_E} {r : Nat × Nat} {e e2 : va_E} : ru_ (ru_ en r e) r e2 = ru_ en r e2 := by
  funext x
  unfold ru_
  by_cases h : x = r
  · rw [if_pos h, if_pos h]
  · rw [if_neg h, if_neg h, if_neg h]
theorem eC_ad {ad a2 : Nat × Nat → Nat} {cy : Nat → ClassId} {F : Nat → Int32} {M Y : Nat → Nat → Int32} {r : Nat × Nat} (h2 : ∀ x, ¬ x = r → a2 x = ad x) (hr : ¬ vd F r) (hk : r.1 = 0 ∨ r.1 = 1 ∨ r.1 = 4 ∨ r.1 = 5 ∨ r.1 = 8 ∨ r.1 = 15) : ∀ x, vd F x → eC ad cy F M Y x = eC a2 cy F M Y x := by
  have hc : ∀ (k i : Nat), ¬ (k = 0 ∨ k = 1 ∨ k = 4 ∨ k = 5 ∨ k = 8 ∨ k = 15) → a2 (k, i) = ad (k, i) := fun k i h => h2 _ (fun q => h (by rw [← q] at hk; exact hk))
  have hv : ∀ y, vd F y → a2 y = ad y := fun y hy => h2 y (fun q => hr (q ▸ hy))
  have hm : ∀ (p w : Int32) (n : Nat), n ≤ (F 16).toNatClampNeg → (lt_N (M 17) (M 18) p w n).map (fun j => a2 (4, j)) = (lt_N (M 17) (M 18) p w n).map (fun j => ad (4, j)) := by
    intro p w n hn
    rcases h : lt_N (M 17) (M 18) p w n with _ | j
    · rfl
    · show some (a2 (4, j)) = some (ad (4, j))
      rw [hv _ (vd_4 (Nat.lt_of_lt_of_le (lt_lt h).1 hn))]
  rintro ⟨k, i⟩ hx
  by_cases k0 : k = 0
  · subst k0
    have hi : i < (F 25).toNatClampNeg := by simp [vd] at hx; omega
    rw [en_0, en_0]
  by_cases k1 : k = 1
  · subst k1
    have hi : i < (F 32).toNatClampNeg := by simp [vd] at hx; omega
    rw [en_1, en_1]
  by_cases k2 : k = 2
  · subst k2
    have hi : i < 1 := by simp [vd] at hx; omega
    rw [en_2, en_2]
    rw [hc 19 0 (by decide), hc 20 0 (by decide), hc 21 0 (by decide)]
  by_cases k3 : k = 3
  · subst k3
    have hi : i < 4 := by simp [vd] at hx; omega
    rw [en_3, en_3]
    rw [hc 22 i (by decide), hc 23 i (by decide)]
  by_cases k4 : k = 4
  · subst k4
    have hi : i < (F 16).toNatClampNeg := by simp [vd] at hx; omega
    rw [en_4, en_4]
    rw [hm _ _ i (Nat.le_of_lt hi)]
  by_cases k5 : k = 5
  · subst k5
    have hi : i < (F 7).toNatClampNeg := by simp [vd] at hx; omega
    rw [en_5, en_5]
    rw [hv (15, i) (vd_15 hi)]
  by_cases k6 : k = 6
  · subst k6
    have hi : i < 6 := by simp [vd] at hx; omega
    rw [en_6, en_6]
  by_cases k7 : k = 7
  · subst k7
    have hi : i < 4 := by simp [vd] at hx; omega
    rw [en_7, en_7]
    rw [hc 24 i (by decide)]
  by_cases k8 : k = 8
  · subst k8
    have hi : i < (F 21).toNatClampNeg := by simp [vd] at hx; omega
    rw [en_8, en_8]
  by_cases k9 : k = 9
  · subst k9
    have hi : i < 1 := by simp [vd] at hx; omega
    rw [en_9, en_9]
    rw [hc 10 0 (by decide), hc 11 0 (by decide), hc 12 0 (by decide), hc 13 0 (by decide), hc 14 0 (by decide), hc 16 0 (by decide), hc 2 0 (by decide), hc 17 0 (by decide), hc 18 0 (by decide)]
  by_cases k10 : k = 10
  · subst k10
    have hi : i < 1 := by simp [vd] at hx; omega
    rw [en_10, en_10]
    simp only [hc 6 _ (show ¬ (6 = 0 ∨ 6 = 1 ∨ 6 = 4 ∨ 6 = 5 ∨ 6 = 8 ∨ 6 = 15) by decide)]
  by_cases k11 : k = 11
  · subst k11
    have hi : i < 1 := by simp [vd] at hx; omega
    rw [en_11, en_11]
    refine congrArg (fun z => Sum.inl (_, _, rf_ z)) (funext fun q => ?_)
    by_cases hq : q < (F 7).toNatClampNeg
    · rw [if_pos hq, if_pos hq, hv (5, q) (vd_5 hq)]
    · rw [if_neg hq, if_neg hq]
  by_cases k12 : k = 12
  · subst k12
    have hi : i < 1 := by simp [vd] at hx; omega
    rw [en_12, en_12]
    refine congrArg (fun z => Sum.inl (_, _, rf_ z)) (funext fun q => ?_)
    by_cases hq : q < (F 21).toNatClampNeg
    · rw [if_pos hq, if_pos hq, hv (8, q) (vd_8 hq)]
    · rw [if_neg hq, if_neg hq]
  by_cases k13 : k = 13
  · subst k13
    have hi : i < 1 := by simp [vd] at hx; omega
    rw [en_13, en_13]
    refine congrArg (fun z => Sum.inl (_, _, rf_ z)) (funext fun q => ?_)
    by_cases hq : q < (F 25).toNatClampNeg
    · rw [if_pos hq, if_pos hq, hv (0, q) (vd_0 hq)]
    · rw [if_neg hq, if_neg hq]
  by_cases k14 : k = 14
  · subst k14
    have hi : i < 1 := by simp [vd] at hx; omega
    rw [en_14, en_14]
    refine congrArg (fun z => Sum.inl (_, _, rf_ z)) (funext fun q => ?_)
    by_cases hq : q < (F 32).toNatClampNeg
    · rw [if_pos hq, if_pos hq, hv (1, q) (vd_1 hq)]
    · rw [if_neg hq, if_neg hq]
  by_cases k15 : k = 15
  · subst k15
    have hi : i < (F 7).toNatClampNeg := by simp [vd] at hx; omega
    rw [en_15, en_15]
    refine congrArg (fun z => Sum.inl (_, _, rf_ z)) (funext fun q => ?_)
    by_cases hq : q < 3
    · rw [if_pos hq, if_pos hq, hm _ _ _ (Nat.le_refl _)]
    · rw [if_neg hq, if_neg hq]
  by_cases k16 : k = 16
  · subst k16
    have hi : i < 1 := by simp [vd] at hx; omega
    rw [en_16, en_16]
    simp only [hc 3 _ (show ¬ (3 = 0 ∨ 3 = 1 ∨ 3 = 4 ∨ 3 = 5 ∨ 3 = 8 ∨ 3 = 15) by decide)]
  by_cases k17 : k = 17
  · subst k17
    have hi : i < 1 := by simp [vd] at hx; omega
    rw [en_17, en_17]
    simp only [hc 7 _ (show ¬ (7 = 0 ∨ 7 = 1 ∨ 7 = 4 ∨ 7 = 5 ∨ 7 = 8 ∨ 7 = 15) by decide)]
  by_cases k18 : k = 18
  · subst k18
    have hi : i < 1 := by simp [vd] at hx; omega
    rw [en_18, en_18]
  by_cases k19 : k = 19
  · subst k19
    have hi : i < 1 := by simp [vd] at hx; omega
    rw [en_19, en_19]
    simp only [hc 25 _ (show ¬ (25 = 0 ∨ 25 = 1 ∨ 25 = 4 ∨ 25 = 5 ∨ 25 = 8 ∨ 25 = 15) by decide)]
  by_cases k20 : k = 20
  · subst k20
    have hi : i < 1 := by simp [vd] at hx; omega
    rw [en_20, en_20]
  by_cases k21 : k = 21
  · subst k21
    have hi : i < 1 := by simp [vd] at hx; omega
    rw [en_21, en_21]
  by_cases k22 : k = 22
  · subst k22
    have hi : i < 4 := by simp [vd] at hx; omega
    rw [en_22, en_22]
  by_cases k23 : k = 23
  · subst k23
    have hi : i < 4 := by simp [vd] at hx; omega
    rw [en_23, en_23]
  by_cases k24 : k = 24
  · subst k24
    have hi : i < 4 := by simp [vd] at hx; omega
    rw [en_24, en_24]
  by_cases k25 : k = 25
  · subst k25
    have hi : i < 6 := by simp [vd] at hx; omega
    rw [en_25, en_25]
  exfalso
  simp [vd, k0, k1, k2, k3, k4, k5, k6, k7, k8, k9, k10, k11, k12, k13, k14, k15, k16, k17, k18, k19, k20, k21, k22, k23, k24, k25] at hx

