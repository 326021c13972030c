
theorem bit01 (x : Int32) : x &&& 1 = 0 ∨ x &&& 1 = 1 := by
  obtain ⟨j, h1, h2⟩ := pk_andE x (m := 1) 1 (by decide)
  rw [h2]
  rcases (show j = 0 ∨ j = 1 by omega) with h | h <;> rw [h]
  · exact Or.inl rfl
  · exact Or.inr rfl
theorem ne9 {x : Int32} (h : 0 ≤ x) : ¬ x = -9 := fun q => absurd (q ▸ h) (by decide)
theorem lo_b {F : Nat → Int32} {M : Nat → Nat → Int32} {p w k : Int32} : ∀ n, (∀ i, i < n → (0 ≤ M 19 i ∧ M 19 i ≤ 30000)) → L_lastOf F M p w k n = -9 ∨ (0 ≤ L_lastOf F M p w k n ∧ L_lastOf F M p w k n ≤ 30000) := by
  intro n
  induction n with
  | zero => intro _; exact Or.inl rfl
  | succ n ih =>
    intro h
    have ih := ih (fun i hi => h i (by omega))
    rw [L_lastOf]
    by_cases c1 : M 17 n = p
    · rw [if_pos c1]
      by_cases c2 : M 18 n = w
      · rw [if_pos c2]
        by_cases c3 : k < M 20 n
        · rw [if_pos c3]; exact ih
        · rw [if_neg c3]; exact Or.inr (h n (by omega))
      · rw [if_neg c2]; exact ih
    · rw [if_neg c1]; exact ih
theorem wh_b {F : Nat → Int32} {M : Nat → Nat → Int32} {i : Nat} {s k l : Int32} (hI : iv F M) (hJ : jv F M) (hi : i < (F 7).toNatClampNeg) : s_X11_whenOf F M (nI i) s k l = -9 ∨ (0 ≤ s_X11_whenOf F M (nI i) s k l ∧ s_X11_whenOf F M (nI i) s k l ≤ 30500) := by
  have hle : (F 7).toNatClampNeg ≤ 24 := lb_le (iv_7 hI) (by decide)
  have hc : (nI i).toNatClampNeg = i := nI_clamp (by omega)
  have hp := jv_p hJ i hi
  have hlo : s_X11_lastOf F M (nI i) (M 23 s.toNatClampNeg) k = -9 ∨ (0 ≤ s_X11_lastOf F M (nI i) (M 23 s.toNatClampNeg) k ∧ s_X11_lastOf F M (nI i) (M 23 s.toNatClampNeg) k ≤ 30500) := by
    rcases lo_b (F := F) (M := M) (p := nI i) (w := M 23 s.toNatClampNeg) (k := k) (F 16).toNatClampNeg (fun j hj => (jv_n hJ j hj).2.1) with h | h
    · exact Or.inl h
    · exact Or.inr ⟨h.1, Int32.le_trans h.2 (by decide)⟩
  have h11 : (0 ≤ M 11 i ∧ M 11 i ≤ 30500) := ⟨hp.2.2.2.1.1, Int32.le_trans hp.2.2.2.1.2 (by decide)⟩
  have h13 : M 8 i = 2 → (0 ≤ M 13 i ∧ M 13 i ≤ 30500) := fun q => ⟨(hp.2.2.2.2 q).1, Int32.le_trans (hp.2.2.2.2 q).2.1 (hp.2.2.2.2 q).2.2⟩
  have h14 : M 8 i = 2 → (0 ≤ M 14 i ∧ M 14 i ≤ 30500) := fun q => ⟨Int32.le_trans (hp.2.2.2.2 q).1 (hp.2.2.2.2 q).2.1, (hp.2.2.2.2 q).2.2⟩
  unfold s_X11_whenOf
  rw [hc]
  repeat' split
  all_goals first | exact hlo | exact Or.inl rfl | exact Or.inr h11 | exact Or.inr (h13 (by assumption)) | exact Or.inr (h14 (by assumption))
theorem wh_l {F : Nat → Int32} {M : Nat → Nat → Int32} {i : Nat} {s k : Int32} (hI : iv F M) (hJ : jv F M) (hi : i < (F 7).toNatClampNeg) (h : s_X11_whenOf F M (nI i) s k 1 = -9) : s_X11_whenOf F M (nI i) s k 0 = -9 := by
  have hle : (F 7).toNatClampNeg ≤ 24 := lb_le (iv_7 hI) (by decide)
  have hc : (nI i).toNatClampNeg = i := nI_clamp (by omega)
  have hp := jv_p hJ i hi
  have h14 : M 8 i = 2 → ¬ M 14 i = -9 := fun q => ne9 (Int32.le_trans (hp.2.2.2.2 q).1 (hp.2.2.2.2 q).2.1)
  have e1 : ¬ (1 : Int32) = 0 := by decide
  unfold s_X11_whenOf at h ⊢
  rw [hc] at h ⊢
  simp only [if_neg e1] at h
  simp only [if_true]
  by_cases c24 : M 24 s.toNatClampNeg = 0
  · simp only [if_pos c24] at h ⊢
    by_cases cl : s_X11_lastOf F M (nI i) (M 23 s.toNatClampNeg) k = -9
    · simp only [if_pos cl] at h ⊢
      by_cases c23 : M 23 s.toNatClampNeg = 0
      · simp only [if_pos c23] at h ⊢
        by_cases c8 : M 8 i = 2
        · simp only [if_pos c8] at h ⊢
          by_cases c11 : k < M 11 i
          · simp only [if_pos c11]
          · simp only [if_neg c11] at h; exact absurd h (h14 c8)
        · simp only [if_neg c8]
      · simp only [if_neg c23]
    · simp only [if_neg cl] at h; exact absurd h cl
  · simp only [if_neg c24] at h ⊢
    have tail : (if s_X11_lastOf F M (nI i) (M 23 s.toNatClampNeg) k = -9 then (if M 23 s.toNatClampNeg = 0 then (if M 8 i = 2 then (if k < M 11 i then (-9 : Int32) else M 14 i) else -9) else -9) else s_X11_lastOf F M (nI i) (M 23 s.toNatClampNeg) k) = -9 → (if s_X11_lastOf F M (nI i) (M 23 s.toNatClampNeg) k = -9 then (if M 23 s.toNatClampNeg = 0 then (if M 8 i = 2 then (if k < M 11 i then (-9 : Int32) else M 13 i) else -9) else -9) else s_X11_lastOf F M (nI i) (M 23 s.toNatClampNeg) k) = -9 := by
      intro h
      by_cases cl : s_X11_lastOf F M (nI i) (M 23 s.toNatClampNeg) k = -9
      · simp only [if_pos cl] at h ⊢
        by_cases c23 : M 23 s.toNatClampNeg = 0
        · simp only [if_pos c23] at h ⊢
          by_cases c8 : M 8 i = 2
          · simp only [if_pos c8] at h ⊢
            by_cases c11 : k < M 11 i
            · simp only [if_pos c11]
            · simp only [if_neg c11] at h; exact absurd h (h14 c8)
          · simp only [if_neg c8]
        · simp only [if_neg c23]
      · simp only [if_neg cl] at h; exact absurd h cl
    by_cases c1 : M 8 i = 1
    · simp only [if_pos c1] at h ⊢
      by_cases c15 : M 15 i = -9
      · simp only [if_pos c15] at h ⊢; simp only [c1] at tail h ⊢; exact tail h
      · simp only [if_neg c15] at h ⊢
        by_cases ck : k < M 15 i
        · simp only [if_pos ck] at h ⊢; simp only [c1] at tail h ⊢; exact tail h
        · simp only [if_neg ck] at h; exact absurd h (ne9 hp.2.2.2.1.1)
    · simp only [if_neg c1] at h ⊢; exact tail h
theorem fi_a {F : Nat → Int32} {M : Nat → Nat → Int32} {p0 p1 p2 : Int32} {i : Nat} (hI : iv F M) (hJ : jv F M) (hs : nI i = s_X11_inForce22 F M (F 21) p1) : ∀ n, n ≤ (F 7).toNatClampNeg → (L_first1 F M p0 p1 p2 n = -9 ∧ L_cLeast F M i p0 p2 n = 30500 ∧ ∀ j, j < n → ((((M 10) j) >>> (p0 &&& 31)) &&& 1) = 1 → s_X11_whenOf F M (nI j) (nI i) p2 1 = -9) ∨ (¬ L_first1 F M p0 p1 p2 n = -9 ∧ L_first1 F M p0 p1 p2 n = L_cLeast F M i p0 p2 n ∧ L_cLeast F M i p0 p2 n ≤ 30500) := by
  intro n
  induction n with
  | zero => intro _; exact Or.inl ⟨rfl, rfl, fun j hj => by omega⟩
  | succ n ih =>
    intro hn
    have ih := ih (by omega)
    have hb := wh_b (s := nI i) (k := p2) (l := 1) hI hJ (show n < (F 7).toNatClampNeg by omega)
    rw [L_first1, L_cLeast, ← hs]
    rcases bit01 ((M 10 n) >>> (p0 &&& 31)) with b | b
    · have b1 : ¬ ((M 10 n) >>> (p0 &&& 31)) &&& 1 = 1 := by rw [b]; decide
      rw [if_neg b1, if_pos b, if_pos rfl]
      rcases ih with ⟨h1, h2, h3⟩ | h
      · refine Or.inl ⟨h1, h2, fun j hj hq => ?_⟩
        by_cases e : j = n
        · subst e; exact absurd hq b1
        · exact h3 j (by omega) hq
      · exact Or.inr h
    · have b0 : ¬ ((M 10 n) >>> (p0 &&& 31)) &&& 1 = 0 := by rw [b]; decide
      rw [if_pos b, if_neg b0]
      rcases hb with hv | ⟨hv0, hv1⟩
      · rw [if_pos hv, if_pos hv]
        rcases ih with ⟨h1, h2, h3⟩ | h
        · refine Or.inl ⟨h1, h2, fun j hj hq => ?_⟩
          by_cases e : j = n
          · subst e; exact hv
          · exact h3 j (by omega) hq
        · exact Or.inr h
      · rw [if_neg (ne9 hv0), if_neg (ne9 hv0)]
        rcases ih with ⟨h1, h2, h3⟩ | ⟨h1, h2, h3⟩
        · rw [if_pos h1, h2]
          refine Or.inr ⟨ne9 hv0, ?_, ?_⟩
          · by_cases q : s_X11_whenOf F M (nI n) (nI i) p2 1 < 30500
            · rw [if_pos q]
            · rw [if_neg q]; exact Int32.le_antisymm hv1 (Int32.not_lt.mp q)
          · by_cases q : s_X11_whenOf F M (nI n) (nI i) p2 1 < 30500
            · rw [if_pos q]; exact hv1
            · rw [if_neg q]; exact Int32.le_refl _
        · rw [if_neg h1, ← h2]
          by_cases q : L_first1 F M p0 p1 p2 n ≤ s_X11_whenOf F M (nI n) (nI i) p2 1
          · rw [if_pos q, if_neg (Int32.not_lt.mpr q)]
            exact Or.inr ⟨h1, rfl, h2 ▸ h3⟩
          · rw [if_neg q, if_pos (Int32.not_le.mp q)]
            exact Or.inr ⟨ne9 hv0, rfl, hv1⟩
theorem fi_b {F : Nat → Int32} {M : Nat → Nat → Int32} {p0 p1 p2 : Int32} {i : Nat} (hI : iv F M) (hJ : jv F M) (hs : nI i = s_X11_inForce22 F M (F 21) p1) : ∀ n, n ≤ (F 7).toNatClampNeg → L_first2 F M p0 p1 p2 n = L_cFirst F M i p0 p2 n := by
  intro n
  have ha := fi_a (p0 := p0) (p2 := p2) hI hJ hs (F 7).toNatClampNeg (Nat.le_refl _)
  induction n with
  | zero => intro _; rfl
  | succ n ih =>
    intro hn
    have ih := ih (by omega)
    rw [L_first2, L_cFirst, ih, ← hs, Int32.or_zero]
    rcases bit01 ((M 10 n) >>> (p0 &&& 31)) with b | b
    · have b1 : ¬ ((M 10 n) >>> (p0 &&& 31)) &&& 1 = 1 := by rw [b]; decide
      rw [if_neg b1, if_pos b, if_pos rfl]
    · have b0 : ¬ ((M 10 n) >>> (p0 &&& 31)) &&& 1 = 0 := by rw [b]; decide
      rw [if_pos b, if_neg b0]
      by_cases hv : s_X11_whenOf F M (nI n) (nI i) p2 0 = -9
      · rw [if_pos hv, if_pos hv]
      · rw [if_neg hv, if_neg hv]
        rcases ha with ⟨h1, h2, h3⟩ | ⟨h1, h2, h3⟩
        · exact absurd (wh_l hI hJ (by omega) (h3 n (by omega) b)) hv
        · rw [h2]
theorem fi_n {F : Nat → Int32} {M : Nat → Nat → Int32} {p0 p2 : Int32} {i : Nat} : ∀ n, n ≤ 24 → 0 ≤ L_cFirst F M i p0 p2 n := by
  intro n
  induction n with
  | zero => intro _; exact (show (0 : Int32) ≤ 0 by decide)
  | succ n ih =>
    intro hn
    have ih := ih (by omega)
    have ho := nn_or ih (nn_sh ⟨n, by omega⟩)
    rw [L_cFirst]
    repeat' split
    all_goals first | exact ih | exact ho

set_option maxHeartbeats 4000000 in
set_option maxRecDepth 100000 in
theorem c_X10_first (l : Launch) (dC : Nat → ClassId) (dI : Nat → Nat → Nat) (rl : List (Nat × Nat)) (ad : Nat × Nat → Nat) (cy : Nat → ClassId) (F : Nat → Int32) (M Y : Nat → Nat → Int32) (p0 : Int32) (p1 : Int32) (p2 : Int32) (hrl : ∀ r, r ∈ rl ↔ vd F r) (hI : iv F M) (hJ : jv F M) (A : Nat → Prop) (hD : va_D A (rx_W rl ad (eC ad cy F M Y))) : Met l yX10_first wsX10_first ({ frames := 5, cells := 0, slots := 0, locals := 124 } : Room) (va_Pc [.ref (ad (9, 0)), .int p0, .int p1, .int p2] (pC dC dI rl ad cy (eC ad cy F M Y))) (va_Qi (fun r (_ : Nat → Nat → Int32) => r = (s_X11_first F M p0 p1 p2).1) (qC A dC dI rl ad cy (s_X11_first F M p0 p1 p2).2.1 (s_X11_first F M p0 p1 p2).2.2) A) 0 0 A := by
  refine Met.ofW (cc := cX10_first) (maxL := 5) (ret := (some .int)) (by decide) rfl ?_
  intro p e s m args below meth c s₁ B hml hv
  obtain ⟨rfl, hP, hK, hN⟩ := hv
  have hx := B.exec
  have hb := B.bytes
  have hr := B.returns
  have hts := atoms_spec (ws := wsX10_first) B.pre
  have hown : s.vm.findClass RX10 = some m.cls := findClass_of_methodNamed B.named
  have hlocks := B.notSynchronized
  have hin10 : ∀ w ∈ wsX100, w ∈ wsX10_first := by decide +kernel
  have hS : va_S A s.heap s.heap [] := va_S.rf
  have hl := lv_entry ([.ref (ad (9, 0)), .int p0, .int p1, .int p2]) (n := 5) (Nat.le_of_ble_eq_true rfl)
  rw [lg_entry_eq]
  generalize (lg_sl ([.ref (ad (9, 0)), .int p0, .int p1, .int p2]) ++ List.replicate (5 - (lg_sl ([.ref (ad (9, 0)), .int p0, .int p1, .int p2])).length) Slot.unset).toArray = ls at hl ⊢
  have hl : lv_has ls 5 [(0, .ref (ad (9, 0))), (1, .int p0), (2, .int p1), (3, .int p2)] := hl
  have hn7 : (F 7).toNatClampNeg ≤ 24 := lb_le (iv_7 hI) (by decide)
  have hn21 : (F 21).toNatClampNeg ≤ 12 := lb_le (iv_21 hI) (by decide)
  refine lv_iload_n hx hb dX10_first_0 rfl (lv_at hl 1 rfl) ?_
  refine lv_iconst (v := 0) hx hb dX10_first_1 (by decide) ?_
  refine lv_bipush (v := 15) hx hb dX10_first_2 (by decide) ?_
  refine vp_callSi (W.runS (As := [.int p0, .int 0, .int 15]) (rest := []) ⟨hx, hb, hml, hown, hts⟩ (c_X10_isWithin l p0 0 15) (va_cwS 3 hts gX10_first_X10_isWithin rfl rfl rfl (by decide +kernel) ⟨Nat.le_of_ble_eq_true rfl, Nat.le_of_ble_eq_true rfl⟩) ⟨fun _ _ _ _ q => q, fun U hU hW => ⟨rfl, trivial⟩⟩ rfl rfl hl.1 rfl (lv_room (Nat.le_of_ble_eq_true rfl)) dX10_first_4 ⟨Nat.zero_le _, Nat.zero_le _⟩) (fun r hr9 => ?_)
  subst hr9
  refine lv_if_eq (tgt := 24) hx hb dX10_first_7 (by decide) (fun c1 => ?_) (fun c1 => ?_)
  · replace c1 := bo_f c1
    refine lv_iconst (v := (-1)) hx hb dX10_first_24 (by decide) ?_
    have E9 : s_X11_first F M p0 p1 p2 = ((-1), (F, M)) := by unfold s_X11_first; rw [if_neg c1]
    exact W.iret (v := (-1)) hx hb hr (fun t ht hW => ⟨⟨(-1), Y, rfl, by rw [E9], by rw [E9]; exact ⟨⟨by rw [ht]; exact hP, va_K.moved hW.alike hK, nst_w hW hN⟩, hD⟩⟩, hS.F ht⟩) hS.2.2 dX10_first_25
  · replace c1 := bo_t c1
    refine lv_iload_n hx hb dX10_first_10 rfl (lv_at hl 2 rfl) ?_
    refine vp_callSi (W.runS (As := [.int p1]) (rest := []) ⟨hx, hb, hml, hown, hts⟩ (c_X10_isDay l p1) (va_cwS 1 hts gX10_first_X10_isDay rfl rfl rfl (by decide +kernel) ⟨Nat.le_of_ble_eq_true rfl, Nat.le_of_ble_eq_true rfl⟩) ⟨fun _ _ _ _ q => q, fun U hU hW => ⟨rfl, trivial⟩⟩ rfl rfl hl.1 rfl (lv_room (Nat.le_of_ble_eq_true rfl)) dX10_first_11 ⟨Nat.zero_le _, Nat.zero_le _⟩) (fun r hr9 => ?_)
    subst hr9
    refine lv_if_eq (tgt := 24) hx hb dX10_first_14 (by decide) (fun c2 => ?_) (fun c2 => ?_)
    · replace c2 := bo_f c2
      refine lv_iconst (v := (-1)) hx hb dX10_first_24 (by decide) ?_
      have E9 : s_X11_first F M p0 p1 p2 = ((-1), (F, M)) := by unfold s_X11_first; rw [if_pos c1]; rw [if_neg c2]
      exact W.iret (v := (-1)) hx hb hr (fun t ht hW => ⟨⟨(-1), Y, rfl, by rw [E9], by rw [E9]; exact ⟨⟨by rw [ht]; exact hP, va_K.moved hW.alike hK, nst_w hW hN⟩, hD⟩⟩, hS.F ht⟩) hS.2.2 dX10_first_25
    · replace c2 := bo_t c2
      refine lv_iload_n hx hb dX10_first_17 rfl (lv_at hl 3 rfl) ?_
      refine vp_callSi (W.runS (As := [.int p2]) (rest := []) ⟨hx, hb, hml, hown, hts⟩ (c_X10_isDay l p2) (va_cwS 1 hts gX10_first_X10_isDay rfl rfl rfl (by decide +kernel) ⟨Nat.le_of_ble_eq_true rfl, Nat.le_of_ble_eq_true rfl⟩) ⟨fun _ _ _ _ q => q, fun U hU hW => ⟨rfl, trivial⟩⟩ rfl rfl hl.1 rfl (lv_room (Nat.le_of_ble_eq_true rfl)) dX10_first_18 ⟨Nat.zero_le _, Nat.zero_le _⟩) (fun r hr9 => ?_)
      subst hr9
      refine lv_if_ne (tgt := 26) hx hb dX10_first_21 (by decide) (fun c3 => ?_) (fun c3 => ?_)
      · replace c3 := bo_t c3
        refine lv_aload_n hx hb dX10_first_26 rfl (lv_at hl 0 rfl) ?_
        refine rg_get (D := (dC, dI)) (r := (9, 0)) (ci := 9) (v := .ref (ad (12, 0))) (C := RX10) (T := TX10) (N := 19) hx hb hts hin10 hown hK hP ((hrl _).mpr (vd_9 (by decide))) en_9 rfl 6 (by decide) (hts (.fieldLink RX10 23 "SocietyBook" "statutes" "[LSocietyBook$Statute;") (by decide +kernel)) (fun _ h9 => h9) rfl dX10_first_27 ?_
        refine lv_aload_n hx hb dX10_first_30 rfl (lv_at hl 0 rfl) ?_
        refine rg_get (D := (dC, dI)) (r := (9, 0)) (ci := 9) (v := .int (F 21)) (C := RX10) (T := TX10) (N := 19) hx hb hts hin10 hown hK hP ((hrl _).mpr (vd_9 (by decide))) en_9 rfl 7 (by decide) (hts (.fieldLink RX10 158 "SocietyBook" "statuteCount" "I") (by decide +kernel)) (fun _ h9 => h9) rfl dX10_first_31 ?_
        refine lv_iload_n hx hb dX10_first_34 rfl (lv_at hl 2 rfl) ?_
        refine vp_callSi (W.runS (As := [.ref (ad (12, 0)), .int (F 21), .int p1]) (rest := []) ⟨hx, hb, hml, hown, hts⟩ (c_X10_inForce12 l dC dI rl ad cy F M Y  p1 hrl hI hJ ) (va_cwS 3 hts gX10_first_X10_inForce rfl rfl rfl (by decide +kernel) ⟨Nat.le_of_ble_eq_true rfl, Nat.le_of_ble_eq_true rfl⟩) ⟨pc_blind, fun U hU hW => ⟨rfl, by rw [hU]; exact hP, va_K.moved hW.alike hK, nst_w hW hN⟩⟩ rfl rfl hl.1 rfl (lv_room (Nat.le_of_ble_eq_true rfl)) dX10_first_35 ⟨Nat.zero_le _, Nat.zero_le _⟩) (fun r hr9 => ?_)
        subst hr9
        refine lv_istore (lv' := [(4, .int (s_X11_inForce22 F M (F 21) p1)), (0, .ref (ad (9, 0))), (1, .int p0), (2, .int p1), (3, .int p2)]) hx hb dX10_first_38 hl (by decide) rfl (fun ls hl => ?_)
        refine lv_iload hx hb dX10_first_40 (lv_at hl 0 rfl) ?_
        refine lv_bipush (v := (-9)) hx hb dX10_first_42 (by decide) ?_
        refine lv_icmp_ne (tgt := 50) hx hb dX10_first_44 (by decide) (fun c4 => ?_) (fun c4 => ?_)
        · refine lv_aload_n hx hb dX10_first_50 rfl (lv_at hl 1 rfl) ?_
          refine lv_aload_n hx hb dX10_first_51 rfl (lv_at hl 1 rfl) ?_
          refine lv_iload_n hx hb dX10_first_52 rfl (lv_at hl 2 rfl) ?_
          refine lv_aload_n hx hb dX10_first_53 rfl (lv_at hl 1 rfl) ?_
          refine rg_get (D := (dC, dI)) (r := (9, 0)) (ci := 9) (v := .ref (ad (12, 0))) (C := RX10) (T := TX10) (N := 19) hx hb hts hin10 hown hK hP ((hrl _).mpr (vd_9 (by decide))) en_9 rfl 6 (by decide) (hts (.fieldLink RX10 23 "SocietyBook" "statutes" "[LSocietyBook$Statute;") (by decide +kernel)) (fun _ h9 => h9) rfl dX10_first_54 ?_
          refine lv_iload hx hb dX10_first_57 (lv_at hl 0 rfl) ?_
          refine rg_aldq (r := (12, 0)) (v := .ref (ad (8, (s_X11_inForce22 F M (F 21) p1).toNatClampNeg))) hx hb hK hP ((hrl _).mpr (vd_12 (by decide))) 4 en_12 rfl (ib_inF (l_inForce22 F M (F 21) p1 (F 21).toNatClampNeg (by omega)) c4 ⟨by omega, by decide⟩) (by rw [if_pos (show (s_X11_inForce22 F M (F 21) p1).toNatClampNeg < (F 21).toNatClampNeg from ix_inF (l_inForce22 F M (F 21) p1 (F 21).toNatClampNeg (by omega)) c4 ⟨Nat.le_refl _, by omega⟩)]; rfl) dX10_first_59 ?_
          refine lv_iload_n hx hb dX10_first_60 rfl (lv_at hl 4 rfl) ?_
          refine vp_callSi (W.runV (As := [.int p0, .ref (ad (8, (s_X11_inForce22 F M (F 21) p1).toNatClampNeg)), .int p2]) (rest := [.ref (ad (9, 0))]) ⟨hx, hb, hml, hown, hts⟩ (c_X10_firstWith l dC dI rl ad cy F M Y ((s_X11_inForce22 F M (F 21) p1).toNatClampNeg) p0 p2 hrl hI hJ (show (s_X11_inForce22 F M (F 21) p1).toNatClampNeg < (F 21).toNatClampNeg from ix_inF (l_inForce22 F M (F 21) p1 (F 21).toNatClampNeg (by omega)) c4 ⟨Nat.le_refl _, by omega⟩)) (cwV 3 hts gX10_first_X10_firstWith rfl rfl rfl (by decide +kernel) ⟨Nat.le_of_ble_eq_true rfl, Nat.le_of_ble_eq_true rfl⟩) ⟨pc_blind, rg_recv hK hP ((hrl _).mpr (vd_9 (by decide))) (ci := 9) rfl en_9, fun U hU hW => ⟨rfl, by rw [hU]; exact hP, va_K.moved hW.alike hK, nst_w hW hN⟩⟩ rfl rfl hl.1 rfl (lv_room (Nat.le_of_ble_eq_true rfl)) dX10_first_61 ⟨Nat.zero_le _, Nat.zero_le _⟩) (fun r hr9 => ?_)
          subst hr9
          refine rg_put (D := (dC, dI)) (r := (9, 0)) (ci := 9) (v := .int (L_cFirst F M ((s_X11_inForce22 F M (F 21) p1).toNatClampNeg) p0 p2 (F 7).toNatClampNeg)) (ty := .int) (C := RX10) (T := TX10) (N := 19) hx hb hts hin10 tyX10 tyX10_ok nmX10 hown hK hP hD hS ((hrl _).mpr (vd_9 (by decide))) en_9 rfl 16 (by decide) (hts (.fieldLink RX10 176 "SocietyBook" "lastAsked" "I") (by decide +kernel)) (fun _ h9 => h9) rfl (by decide +kernel) rfl rfl (Nat.le_of_ble_eq_true rfl) dX10_first_64 (fun H locs hP hD hS => ?_)
          replace hP : va_P (dC, dI) vwCl (rx_W rl ad (eC ad cy (va_up F 2 (L_cFirst F M ((s_X11_inForce22 F M (F 21) p1).toNatClampNeg) p0 p2 (F 7).toNatClampNeg)) M Y)) H := ec_mp1 (vd_u9 hrl) (ec_9_16 ad cy F M Y (L_cFirst F M ((s_X11_inForce22 F M (F 21) p1).toNatClampNeg) p0 p2 (F 7).toNatClampNeg)) hP
          replace hD : va_D A (rx_W rl ad (eC ad cy (va_up F 2 (L_cFirst F M ((s_X11_inForce22 F M (F 21) p1).toNatClampNeg) p0 p2 (F 7).toNatClampNeg)) M Y)) := rx_D hD
          refine lv_aload_n hx hb dX10_first_67 rfl (lv_at hl 1 rfl) ?_
          refine rg_get (D := (dC, dI)) (r := (9, 0)) (ci := 9) (v := .int (L_cFirst F M ((s_X11_inForce22 F M (F 21) p1).toNatClampNeg) p0 p2 (F 7).toNatClampNeg)) (C := RX10) (T := TX10) (N := 19) hx hb hts hin10 hown hK hP ((hrl _).mpr (vd_9 (by decide))) en_9 rfl 16 (by decide) (hts (.fieldLink RX10 176 "SocietyBook" "lastAsked" "I") (by decide +kernel)) (fun _ h9 => h9) rfl dX10_first_68 ?_
          refine vp_callSi (W.runS (As := [.int (L_cFirst F M ((s_X11_inForce22 F M (F 21) p1).toNatClampNeg) p0 p2 (F 7).toNatClampNeg)]) (rest := []) ⟨hx, hb, hml, hown, hts⟩ (c_J6_bitCount_0f7a4 l (L_cFirst F M ((s_X11_inForce22 F M (F 21) p1).toNatClampNeg) p0 p2 (F 7).toNatClampNeg)) (va_cwS 1 hts gX10_first_J6_bitCount_0f7a4 rfl rfl rfl (by decide +kernel) ⟨Nat.le_of_ble_eq_true rfl, Nat.le_of_ble_eq_true rfl⟩) ⟨fun _ _ _ _ q => q, fun U hU hW => ⟨rfl, trivial⟩⟩ rfl rfl hl.1 rfl (lv_room (Nat.le_of_ble_eq_true rfl)) dX10_first_71 ⟨Nat.zero_le _, Nat.zero_le _⟩) (fun r hr9 => ?_)
          subst hr9
          rw [bc_eq (x := L_cFirst F M ((s_X11_inForce22 F M (F 21) p1).toNatClampNeg) p0 p2 (F 7).toNatClampNeg) (fi_n _ hn7)]
          have E9 : s_X11_first F M p0 p1 p2 = (s_X11_bitsOf (L_cFirst F M ((s_X11_inForce22 F M (F 21) p1).toNatClampNeg) p0 p2 (F 7).toNatClampNeg), (va_up F 2 (L_cFirst F M ((s_X11_inForce22 F M (F 21) p1).toNatClampNeg) p0 p2 (F 7).toNatClampNeg), M)) := by unfold s_X11_first; rw [if_pos c1]; rw [if_pos c2]; rw [if_pos c3]; rw [if_neg c4]; rw [fi_b hI hJ (nI_bk (x := s_X11_inForce22 F M (F 21) p1) (nn_inF (l_inForce22 F M (F 21) p1 (F 21).toNatClampNeg (by omega)) c4 (by omega))) _ (Nat.le_refl _)]
          exact W.iret (v := s_X11_bitsOf (L_cFirst F M ((s_X11_inForce22 F M (F 21) p1).toNatClampNeg) p0 p2 (F 7).toNatClampNeg)) hx hb hr (fun t ht hW => ⟨⟨s_X11_bitsOf (L_cFirst F M ((s_X11_inForce22 F M (F 21) p1).toNatClampNeg) p0 p2 (F 7).toNatClampNeg), Y, rfl, by rw [E9], by rw [E9]; exact ⟨⟨by rw [ht]; exact hP, va_K.moved hW.alike hK, nst_w hW hN⟩, hD⟩⟩, hS.F ht⟩) hS.2.2 dX10_first_74
        · refine lv_bipush (v := (-4)) hx hb dX10_first_47 (by decide) ?_
          have E9 : s_X11_first F M p0 p1 p2 = ((-4), (F, M)) := by unfold s_X11_first; rw [if_pos c1]; rw [if_pos c2]; rw [if_pos c3]; rw [if_pos c4]
          exact W.iret (v := (-4)) hx hb hr (fun t ht hW => ⟨⟨(-4), Y, rfl, by rw [E9], by rw [E9]; exact ⟨⟨by rw [ht]; exact hP, va_K.moved hW.alike hK, nst_w hW hN⟩, hD⟩⟩, hS.F ht⟩) hS.2.2 dX10_first_49
      · replace c3 := bo_f c3
        refine lv_iconst (v := (-1)) hx hb dX10_first_24 (by decide) ?_
        have E9 : s_X11_first F M p0 p1 p2 = ((-1), (F, M)) := by unfold s_X11_first; rw [if_pos c1]; rw [if_pos c2]; rw [if_neg c3]
        exact W.iret (v := (-1)) hx hb hr (fun t ht hW => ⟨⟨(-1), Y, rfl, by rw [E9], by rw [E9]; exact ⟨⟨by rw [ht]; exact hP, va_K.moved hW.alike hK, nst_w hW hN⟩, hD⟩⟩, hS.F ht⟩) hS.2.2 dX10_first_25
