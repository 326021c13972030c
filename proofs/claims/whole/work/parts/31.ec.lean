theorem ec_mp {D : va_G} {cl : List vw_C} {rl : List (Nat × Nat)} {ad : Nat × Nat → Nat} {en en2 : Nat × Nat → va_E} {H : Heap} (h : ∀ r, en r = en2 r) (hP : va_P D cl (rx_W rl ad en) H) : va_P D cl (rx_W rl ad en2) H := by
  rw [← rx_cong (fun r _ => h r)]
  exact hP
theorem ec_mp1 {D : va_G} {cl : List vw_C} {rl : List (Nat × Nat)} {ad : Nat × Nat → Nat} {en en2 : Nat × Nat → va_E} {H : Heap} {k : Nat} (hv : ∀ r, r ∈ rl → r.1 = k → r.2 = 0) (h : ∀ r : Nat × Nat, (r.1 = k → r.2 = 0) → en r = en2 r) (hP : va_P D cl (rx_W rl ad en) H) : va_P D cl (rx_W rl ad en2) H := by
  rw [← rx_cong (fun r hr => h r (hv r hr))]
  exact hP
theorem vd_u9 {F : Nat → Int32} {rl : List (Nat × Nat)} (hrl : ∀ r, r ∈ rl ↔ vd F r) : ∀ r, r ∈ rl → r.1 = 9 → r.2 = 0 := by
  intro r hr hc
  have h := (hrl r).mp hr
  simp [vd, hc] at h
  omega
theorem vd_u18 {F : Nat → Int32} {rl : List (Nat × Nat)} (hrl : ∀ r, r ∈ rl ↔ vd F r) : ∀ r, r ∈ rl → r.1 = 18 → r.2 = 0 := by
  intro r hr hc
  have h := (hrl r).mp hr
  simp [vd, hc] at h
  omega
theorem vd_u20 {F : Nat → Int32} {rl : List (Nat × Nat)} (hrl : ∀ r, r ∈ rl ↔ vd F r) : ∀ r, r ∈ rl → r.1 = 20 → r.2 = 0 := by
  intro r hr hc
  have h := (hrl r).mp hr
  simp [vd, hc] at h
  omega
theorem vd_u21 {F : Nat → Int32} {rl : List (Nat × Nat)} (hrl : ∀ r, r ∈ rl ↔ vd F r) : ∀ r, r ∈ rl → r.1 = 21 → r.2 = 0 := by
  intro r hr hc
  have h := (hrl r).mp hr
  simp [vd, hc] at h
  omega
theorem ec_9_0 (ad : Nat × Nat → Nat) (cy : Nat → ClassId) (F : Nat → Int32) (M Y : Nat → Nat → Int32) (v : Int32) : ∀ r : Nat × Nat, (r.1 = 9 → r.2 = 0) → ru_ (eC ad cy F M Y) (9, 0) (.inr (9, [.int v, .int (F 4), .ref (ad (10, 0)), .ref (ad (11, 0)), .int (F 7), .int (F 16), .ref (ad (12, 0)), .int (F 21), .ref (ad (13, 0)), .int (F 25), .ref (ad (14, 0)), .int (F 32), .ref (ad (16, 0)), .int (F 38), .ref (ad (2, 0)), .ref (ad (17, 0)), .int (F 2), .int (F 0), .ref (ad (18, 0))])) r = eC ad cy (va_up F 3 v) M Y r := by
  rintro ⟨c, i⟩ hs
  unfold ru_
  by_cases h : (c, i) = (9, 0)
  · rw [if_pos h]; cases h; simp [eC, va_up, upd]
  · rw [if_neg h]
    by_cases hc : c = 9
    · subst hc
      have hne : ¬ i = 0 := fun q => h (by rw [q])
      exact absurd (hs rfl) hne
    · simp [eC, va_up, hc]
theorem ec_9_1 (ad : Nat × Nat → Nat) (cy : Nat → ClassId) (F : Nat → Int32) (M Y : Nat → Nat → Int32) (v : Int32) : ∀ r : Nat × Nat, (r.1 = 9 → r.2 = 0) → ru_ (eC ad cy F M Y) (9, 0) (.inr (9, [.int (F 3), .int v, .ref (ad (10, 0)), .ref (ad (11, 0)), .int (F 7), .int (F 16), .ref (ad (12, 0)), .int (F 21), .ref (ad (13, 0)), .int (F 25), .ref (ad (14, 0)), .int (F 32), .ref (ad (16, 0)), .int (F 38), .ref (ad (2, 0)), .ref (ad (17, 0)), .int (F 2), .int (F 0), .ref (ad (18, 0))])) r = eC ad cy (va_up F 4 v) M Y r := by
  rintro ⟨c, i⟩ hs
  unfold ru_
  by_cases h : (c, i) = (9, 0)
  · rw [if_pos h]; cases h; simp [eC, va_up, upd]
  · rw [if_neg h]
    by_cases hc : c = 9
    · subst hc
      have hne : ¬ i = 0 := fun q => h (by rw [q])
      exact absurd (hs rfl) hne
    · simp [eC, va_up, hc]
theorem ec_9_16 (ad : Nat × Nat → Nat) (cy : Nat → ClassId) (F : Nat → Int32) (M Y : Nat → Nat → Int32) (v : Int32) : ∀ r : Nat × Nat, (r.1 = 9 → r.2 = 0) → ru_ (eC ad cy F M Y) (9, 0) (.inr (9, [.int (F 3), .int (F 4), .ref (ad (10, 0)), .ref (ad (11, 0)), .int (F 7), .int (F 16), .ref (ad (12, 0)), .int (F 21), .ref (ad (13, 0)), .int (F 25), .ref (ad (14, 0)), .int (F 32), .ref (ad (16, 0)), .int (F 38), .ref (ad (2, 0)), .ref (ad (17, 0)), .int v, .int (F 0), .ref (ad (18, 0))])) r = eC ad cy (va_up F 2 v) M Y r := by
  rintro ⟨c, i⟩ hs
  unfold ru_
  by_cases h : (c, i) = (9, 0)
  · rw [if_pos h]; cases h; simp [eC, va_up, upd]
  · rw [if_neg h]
    by_cases hc : c = 9
    · subst hc
      have hne : ¬ i = 0 := fun q => h (by rw [q])
      exact absurd (hs rfl) hne
    · simp [eC, va_up, hc]
theorem ec_9_17 (ad : Nat × Nat → Nat) (cy : Nat → ClassId) (F : Nat → Int32) (M Y : Nat → Nat → Int32) (v : Int32) : ∀ r : Nat × Nat, (r.1 = 9 → r.2 = 0) → ru_ (eC ad cy F M Y) (9, 0) (.inr (9, [.int (F 3), .int (F 4), .ref (ad (10, 0)), .ref (ad (11, 0)), .int (F 7), .int (F 16), .ref (ad (12, 0)), .int (F 21), .ref (ad (13, 0)), .int (F 25), .ref (ad (14, 0)), .int (F 32), .ref (ad (16, 0)), .int (F 38), .ref (ad (2, 0)), .ref (ad (17, 0)), .int (F 2), .int v, .ref (ad (18, 0))])) r = eC ad cy (va_up F 0 v) M Y r := by
  rintro ⟨c, i⟩ hs
  unfold ru_
  by_cases h : (c, i) = (9, 0)
  · rw [if_pos h]; cases h; simp [eC, va_up, upd]
  · rw [if_neg h]
    by_cases hc : c = 9
    · subst hc
      have hne : ¬ i = 0 := fun q => h (by rw [q])
      exact absurd (hs rfl) hne
    · simp [eC, va_up, hc]
theorem ec_6_0 (ad : Nat × Nat → Nat) (cy : Nat → ClassId) (F : Nat → Int32) (M Y : Nat → Nat → Int32) (j : Nat) (v : Int32) : ∀ r : Nat × Nat, ru_ (eC ad cy F M Y) (6, j) (.inr (6, [.int v, .int (M 6 j)])) r = eC ad cy F (va_up M 5 (upd (M 5) j v)) Y r := by
  rintro ⟨c, i⟩
  unfold ru_
  by_cases h : (c, i) = (6, j)
  · rw [if_pos h]; cases h; simp [eC, va_up, upd]
  · rw [if_neg h]
    by_cases hc : c = 6
    · subst hc
      have hne : ¬ i = j := fun q => h (by rw [q])
      simp [eC, va_up, upd, hne]
    · simp [eC, va_up, hc]
theorem ec_6_1 (ad : Nat × Nat → Nat) (cy : Nat → ClassId) (F : Nat → Int32) (M Y : Nat → Nat → Int32) (j : Nat) (v : Int32) : ∀ r : Nat × Nat, ru_ (eC ad cy F M Y) (6, j) (.inr (6, [.int (M 5 j), .int v])) r = eC ad cy F (va_up M 6 (upd (M 6) j v)) Y r := by
  rintro ⟨c, i⟩
  unfold ru_
  by_cases h : (c, i) = (6, j)
  · rw [if_pos h]; cases h; simp [eC, va_up, upd]
  · rw [if_neg h]
    by_cases hc : c = 6
    · subst hc
      have hne : ¬ i = j := fun q => h (by rw [q])
      simp [eC, va_up, upd, hne]
    · simp [eC, va_up, hc]
theorem ec_5_7 (ad : Nat × Nat → Nat) (cy : Nat → ClassId) (F : Nat → Int32) (M Y : Nat → Nat → Int32) (j : Nat) (v : Int32) : ∀ r : Nat × Nat, ru_ (eC ad cy F M Y) (5, j) (.inr (5, [.int (M 8 j), .int (M 9 j), .int (M 10 j), .int (M 11 j), .int (M 12 j), .int (if M 8 j = 2 then M 13 j else -9), .int (if M 8 j = 2 then M 14 j else -9), .int v, .ref (ad (15, j))])) r = eC ad cy F (va_up M 15 (upd (M 15) j v)) Y r := by
  rintro ⟨c, i⟩
  unfold ru_
  by_cases h : (c, i) = (5, j)
  · rw [if_pos h]; cases h; simp [eC, va_up, upd]
  · rw [if_neg h]
    by_cases hc : c = 5
    · subst hc
      have hne : ¬ i = j := fun q => h (by rw [q])
      simp [eC, va_up, upd, hne]
    · simp [eC, va_up, hc]
theorem ec_1_0 (ad : Nat × Nat → Nat) (cy : Nat → ClassId) (F : Nat → Int32) (M Y : Nat → Nat → Int32) (j : Nat) (v : Int32) : ∀ r : Nat × Nat, ru_ (eC ad cy F M Y) (1, j) (.inr (1, [.int v, .int (M 33 j), .int (M 35 j)])) r = eC ad cy F (va_up M 34 (upd (M 34) j v)) Y r := by
  rintro ⟨c, i⟩
  unfold ru_
  by_cases h : (c, i) = (1, j)
  · rw [if_pos h]; cases h; simp [eC, va_up, upd]
  · rw [if_neg h]
    by_cases hc : c = 1
    · subst hc
      have hne : ¬ i = j := fun q => h (by rw [q])
      simp [eC, va_up, upd, hne]
    · simp [eC, va_up, hc]
theorem ec_1_2 (ad : Nat × Nat → Nat) (cy : Nat → ClassId) (F : Nat → Int32) (M Y : Nat → Nat → Int32) (j : Nat) (v : Int32) : ∀ r : Nat × Nat, ru_ (eC ad cy F M Y) (1, j) (.inr (1, [.int (M 34 j), .int (M 33 j), .int v])) r = eC ad cy F (va_up M 35 (upd (M 35) j v)) Y r := by
  rintro ⟨c, i⟩
  unfold ru_
  by_cases h : (c, i) = (1, j)
  · rw [if_pos h]; cases h; simp [eC, va_up, upd]
  · rw [if_neg h]
    by_cases hc : c = 1
    · subst hc
      have hne : ¬ i = j := fun q => h (by rw [q])
      simp [eC, va_up, upd, hne]
    · simp [eC, va_up, hc]
theorem ec_3_0 (ad : Nat × Nat → Nat) (cy : Nat → ClassId) (F : Nat → Int32) (M Y : Nat → Nat → Int32) (j : Nat) (v : Int32) : ∀ r : Nat × Nat, ru_ (eC ad cy F M Y) (3, j) (.inr (3, [.int v, .int (M 37 j), .ref (ad (22, j)), .ref (ad (23, j))])) r = eC ad cy F (va_up M 36 (upd (M 36) j v)) Y r := by
  rintro ⟨c, i⟩
  unfold ru_
  by_cases h : (c, i) = (3, j)
  · rw [if_pos h]; cases h; simp [eC, va_up, upd]
  · rw [if_neg h]
    by_cases hc : c = 3
    · subst hc
      have hne : ¬ i = j := fun q => h (by rw [q])
      simp [eC, va_up, upd, hne]
    · simp [eC, va_up, hc]
theorem ec_3_1 (ad : Nat × Nat → Nat) (cy : Nat → ClassId) (F : Nat → Int32) (M Y : Nat → Nat → Int32) (j : Nat) (v : Int32) : ∀ r : Nat × Nat, ru_ (eC ad cy F M Y) (3, j) (.inr (3, [.int (M 36 j), .int v, .ref (ad (22, j)), .ref (ad (23, j))])) r = eC ad cy F (va_up M 37 (upd (M 37) j v)) Y r := by
  rintro ⟨c, i⟩
  unfold ru_
  by_cases h : (c, i) = (3, j)
  · rw [if_pos h]; cases h; simp [eC, va_up, upd]
  · rw [if_neg h]
    by_cases hc : c = 3
    · subst hc
      have hne : ¬ i = j := fun q => h (by rw [q])
      simp [eC, va_up, upd, hne]
    · simp [eC, va_up, hc]
theorem ec_18 (ad : Nat × Nat → Nat) (cy : Nat → ClassId) (F : Nat → Int32) (M Y : Nat → Nat → Int32) (x : Nat) (v : Int32) : ∀ r : Nat × Nat, (r.1 = 18 → r.2 = 0) → ru_ (eC ad cy F M Y) (18, 0) (.inl (cy 0, 6, .inl (upd (M 1) x v))) r = eC ad cy F (va_up M 1 (upd (M 1) x v)) Y r := by
  rintro ⟨c, i⟩ hs
  unfold ru_
  by_cases h : (c, i) = (18, 0)
  · rw [if_pos h]; cases h; simp [eC, va_up]
  · rw [if_neg h]
    by_cases hc : c = 18
    · subst hc
      have hne : ¬ i = 0 := fun q => h (by rw [q])
      exact absurd (hs rfl) hne
    · simp [eC, va_up, hc]
theorem ec_20 (ad : Nat × Nat → Nat) (cy : Nat → ClassId) (F : Nat → Int32) (M Y : Nat → Nat → Int32) (x : Nat) (v : Int32) : ∀ r : Nat × Nat, (r.1 = 20 → r.2 = 0) → ru_ (eC ad cy F M Y) (20, 0) (.inl (cy 0, 63, .inl (upd (Y 0) x v))) r = eC ad cy F M (va_up Y 0 (upd (Y 0) x v)) r := by
  rintro ⟨c, i⟩ hs
  unfold ru_
  by_cases h : (c, i) = (20, 0)
  · rw [if_pos h]; cases h; simp [eC, va_up]
  · rw [if_neg h]
    by_cases hc : c = 20
    · subst hc
      have hne : ¬ i = 0 := fun q => h (by rw [q])
      exact absurd (hs rfl) hne
    · simp [eC, va_up, hc]
theorem ec_21 (ad : Nat × Nat → Nat) (cy : Nat → ClassId) (F : Nat → Int32) (M Y : Nat → Nat → Int32) (x : Nat) (v : Int32) : ∀ r : Nat × Nat, (r.1 = 21 → r.2 = 0) → ru_ (eC ad cy F M Y) (21, 0) (.inl (cy 0, 63, .inl (upd (Y 1) x v))) r = eC ad cy F M (va_up Y 1 (upd (Y 1) x v)) r := by
  rintro ⟨c, i⟩ hs
  unfold ru_
  by_cases h : (c, i) = (21, 0)
  · rw [if_pos h]; cases h; simp [eC, va_up]
  · rw [if_neg h]
    by_cases hc : c = 21
    · subst hc
      have hne : ¬ i = 0 := fun q => h (by rw [q])
      exact absurd (hs rfl) hne
    · simp [eC, va_up, hc]
theorem ec_24 (ad : Nat × Nat → Nat) (cy : Nat → ClassId) (F : Nat → Int32) (M Y : Nat → Nat → Int32) (j x : Nat) (hx : x < 12) (v : Int32) : ∀ r : Nat × Nat, ru_ (eC ad cy F M Y) (24, j) (.inl (cy 1, 12, .inl (upd (fun i => if i < 12 then M 44 (12 * j + i) else 0) x v))) r = eC ad cy F (va_up M 44 (upd (M 44) (12 * j + x) v)) Y r := by
  rintro ⟨c, i⟩
  unfold ru_
  by_cases h : (c, i) = (24, j)
  · rw [if_pos h]; cases h
    simp only [eC, va_up]
    simp
    funext y
    unfold upd
    by_cases hy : y < 12
    · by_cases hyx : y = x
      · subst hyx; simp [hy]
      · simp [hy, hyx]
    · have : ¬ y = x := by omega
      simp [hy, this]
  · rw [if_neg h]
    by_cases hc : c = 24
    · subst hc
      have hne : ¬ i = j := fun q => h (by rw [q])
      simp only [eC, va_up]
      simp
      funext y
      unfold upd
      by_cases hy : y < 12
      · have : ¬ 12 * i + y = 12 * j + x := by omega
        simp [hy, this]
      · simp [hy]
    · simp [eC, va_up, hc]
theorem ec_25 (ad : Nat × Nat → Nat) (cy : Nat → ClassId) (F : Nat → Int32) (M Y : Nat → Nat → Int32) (j x : Nat) (hx : x < 12) (v : Int32) : ∀ r : Nat × Nat, ru_ (eC ad cy F M Y) (25, j) (.inl (cy 0, 12, .inl (upd (fun i => if i < 12 then M 42 (12 * j + i) else 0) x v))) r = eC ad cy F (va_up M 42 (upd (M 42) (12 * j + x) v)) Y r := by
  rintro ⟨c, i⟩
  unfold ru_
  by_cases h : (c, i) = (25, j)
  · rw [if_pos h]; cases h
    simp only [eC, va_up]
    simp
    funext y
    unfold upd
    by_cases hy : y < 12
    · by_cases hyx : y = x
      · subst hyx; simp [hy]
      · simp [hy, hyx]
    · have : ¬ y = x := by omega
      simp [hy, this]
  · rw [if_neg h]
    by_cases hc : c = 25
    · subst hc
      have hne : ¬ i = j := fun q => h (by rw [q])
      simp only [eC, va_up]
      simp
      funext y
      unfold upd
      by_cases hy : y < 12
      · have : ¬ 12 * i + y = 12 * j + x := by omega
        simp [hy, this]
      · simp [hy]
    · simp [eC, va_up, hc]
